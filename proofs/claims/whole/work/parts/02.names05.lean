set_option maxRecDepth 20000 in
theorem gX7_door_X7_finish : GoodIn wsX7_door (wsV RX7 100 RX7 yX7_finish wsX7_finish) := goodIn_app (goodIn_of _ (by decide +kernel)) ggX7_door_X7_finish
theorem dX7_door_0 : decode cX7_door 0 = .ok (.aload_n 0, 1) := by decide +kernel
theorem dX7_door_1 : decode cX7_door 1 = .ok (.invokevirtual 93, 3) := by decide +kernel
theorem dX7_door_4 : decode cX7_door 4 = .ok (.aload_n 0, 1) := by decide +kernel
theorem dX7_door_5 : decode cX7_door 5 = .ok (.aload_n 0, 1) := by decide +kernel
theorem dX7_door_6 : decode cX7_door 6 = .ok (.iload_n 1, 1) := by decide +kernel
theorem dX7_door_7 : decode cX7_door 7 = .ok (.iload_n 2, 1) := by decide +kernel
theorem dX7_door_8 : decode cX7_door 8 = .ok (.iload_n 3, 1) := by decide +kernel
theorem dX7_door_9 : decode cX7_door 9 = .ok (.iload 4, 2) := by decide +kernel
theorem dX7_door_11 : decode cX7_door 11 = .ok (.invokevirtual 96, 3) := by decide +kernel
theorem dX7_door_14 : decode cX7_door 14 = .ok (.invokevirtual 100, 3) := by decide +kernel
theorem dX7_door_17 : decode cX7_door 17 = .ok (.ireturn, 1) := by decide +kernel
set_option maxRecDepth 20000 in
theorem ggX7_sets_X7_save : GoodIn wsX7_sets wsX7_save := goodIn_r _ [5, 6, 7, 8, 9, 4, 10, 36, 37, 38, 39, 40, 41, 42, 43, 44, 45, 46, 47, 48, 49, 50] (by decide +kernel) (by decide +kernel)
set_option maxRecDepth 20000 in
theorem gX7_sets_X7_save : GoodIn wsX7_sets (wsV RX7 93 RX7 yX7_save wsX7_save) := goodIn_app (goodIn_of _ (by decide +kernel)) ggX7_sets_X7_save
set_option maxRecDepth 20000 in
theorem ggX7_sets_X7_isDoor : GoodIn wsX7_sets wsX7_isDoor := goodIn_r _ [14, 6, 15, 16, 4, 17, 36, 37, 38, 39, 40, 41, 42, 43, 44, 45, 46, 47, 48, 49, 50] (by decide +kernel) (by decide +kernel)
set_option maxRecDepth 20000 in
theorem gX7_sets_X7_isDoor : GoodIn wsX7_sets (wsV RX7 66 RX7 yX7_isDoor wsX7_isDoor) := goodIn_app (goodIn_of _ (by decide +kernel)) ggX7_sets_X7_isDoor
set_option maxRecDepth 20000 in
theorem ggX7_sets_X7_in : GoodIn wsX7_sets wsX7_in := goodIn_r _ [17] (by decide +kernel) (by decide +kernel)
set_option maxRecDepth 20000 in
theorem gX7_sets_X7_in : GoodIn wsX7_sets (va_wsS RX7 56 yX7_in wsX7_in) := goodIn_app (goodIn_of _ (by decide +kernel)) ggX7_sets_X7_in
set_option maxRecDepth 20000 in
theorem ggX7_sets_X7_change : GoodIn wsX7_sets wsX7_change := goodIn_r _ [21, 6, 36, 37, 38, 39, 40, 41, 42, 43, 44, 45, 46, 47, 48, 49, 50] (by decide +kernel) (by decide +kernel)
set_option maxRecDepth 20000 in
theorem gX7_sets_X7_change : GoodIn wsX7_sets (wsV RX7 76 RX7 yX7_change wsX7_change) := goodIn_app (goodIn_of _ (by decide +kernel)) ggX7_sets_X7_change
set_option maxRecDepth 20000 in
theorem ggX7_sets_X7_finish : GoodIn wsX7_sets wsX7_finish := goodIn_r _ [25, 26, 27, 7, 28, 29, 4, 30, 31, 32, 33, 34, 35, 8, 9, 10, 36, 37, 38, 39, 40, 41, 42, 43, 44, 45, 46, 47, 48, 49, 50] (by decide +kernel) (by decide +kernel)
set_option maxRecDepth 20000 in
theorem gX7_sets_X7_finish : GoodIn wsX7_sets (wsV RX7 100 RX7 yX7_finish wsX7_finish) := goodIn_app (goodIn_of _ (by decide +kernel)) ggX7_sets_X7_finish
theorem dX7_sets_0 : decode cX7_sets 0 = .ok (.aload_n 0, 1) := by decide +kernel
theorem dX7_sets_1 : decode cX7_sets 1 = .ok (.invokevirtual 93, 3) := by decide +kernel
theorem dX7_sets_4 : decode cX7_sets 4 = .ok (.aload_n 0, 1) := by decide +kernel
theorem dX7_sets_5 : decode cX7_sets 5 = .ok (.iload_n 1, 1) := by decide +kernel
theorem dX7_sets_6 : decode cX7_sets 6 = .ok (.invokevirtual 66, 3) := by decide +kernel
theorem dX7_sets_9 : decode cX7_sets 9 = .ok (.ifCond .eq 27, 3) := by decide +kernel
theorem dX7_sets_12 : decode cX7_sets 12 = .ok (.iload_n 2, 1) := by decide +kernel
theorem dX7_sets_13 : decode cX7_sets 13 = .ok (.iconst 0, 1) := by decide +kernel
theorem dX7_sets_14 : decode cX7_sets 14 = .ok (.iconst 1, 1) := by decide +kernel
theorem dX7_sets_15 : decode cX7_sets 15 = .ok (.invokestatic 56, 3) := by decide +kernel
theorem dX7_sets_18 : decode cX7_sets 18 = .ok (.ifCond .eq 18, 3) := by decide +kernel
theorem dX7_sets_21 : decode cX7_sets 21 = .ok (.iload_n 3, 1) := by decide +kernel
theorem dX7_sets_22 : decode cX7_sets 22 = .ok (.iconst 0, 1) := by decide +kernel
theorem dX7_sets_23 : decode cX7_sets 23 = .ok (.iconst 2, 1) := by decide +kernel
theorem dX7_sets_24 : decode cX7_sets 24 = .ok (.iload_n 2, 1) := by decide +kernel
theorem dX7_sets_25 : decode cX7_sets 25 = .ok (.isub, 1) := by decide +kernel
theorem dX7_sets_26 : decode cX7_sets 26 = .ok (.invokestatic 56, 3) := by decide +kernel
theorem dX7_sets_29 : decode cX7_sets 29 = .ok (.ifCond .eq 7, 3) := by decide +kernel
theorem dX7_sets_32 : decode cX7_sets 32 = .ok (.iconst 1, 1) := by decide +kernel
theorem dX7_sets_33 : decode cX7_sets 33 = .ok (.goto 4, 3) := by decide +kernel
theorem dX7_sets_36 : decode cX7_sets 36 = .ok (.iconst 0, 1) := by decide +kernel
theorem dX7_sets_37 : decode cX7_sets 37 = .ok (.istore 4, 2) := by decide +kernel
theorem dX7_sets_39 : decode cX7_sets 39 = .ok (.aload_n 0, 1) := by decide +kernel
theorem dX7_sets_40 : decode cX7_sets 40 = .ok (.iload 4, 2) := by decide +kernel
theorem dX7_sets_42 : decode cX7_sets 42 = .ok (.ifCond .eq 19, 3) := by decide +kernel
theorem dX7_sets_45 : decode cX7_sets 45 = .ok (.aload_n 0, 1) := by decide +kernel
theorem dX7_sets_46 : decode cX7_sets 46 = .ok (.bipush 60, 2) := by decide +kernel
theorem dX7_sets_48 : decode cX7_sets 48 = .ok (.iload_n 1, 1) := by decide +kernel
theorem dX7_sets_49 : decode cX7_sets 49 = .ok (.imul, 1) := by decide +kernel
theorem dX7_sets_50 : decode cX7_sets 50 = .ok (.iconst 4, 1) := by decide +kernel
theorem dX7_sets_51 : decode cX7_sets 51 = .ok (.iadd, 1) := by decide +kernel
theorem dX7_sets_52 : decode cX7_sets 52 = .ok (.iload_n 2, 1) := by decide +kernel
theorem dX7_sets_53 : decode cX7_sets 53 = .ok (.iadd, 1) := by decide +kernel
theorem dX7_sets_54 : decode cX7_sets 54 = .ok (.iload_n 3, 1) := by decide +kernel
theorem dX7_sets_55 : decode cX7_sets 55 = .ok (.invokevirtual 76, 3) := by decide +kernel
theorem dX7_sets_58 : decode cX7_sets 58 = .ok (.goto 5, 3) := by decide +kernel
theorem dX7_sets_61 : decode cX7_sets 61 = .ok (.bipush (-2), 2) := by decide +kernel
theorem dX7_sets_63 : decode cX7_sets 63 = .ok (.invokevirtual 100, 3) := by decide +kernel
theorem dX7_sets_66 : decode cX7_sets 66 = .ok (.ireturn, 1) := by decide +kernel
set_option maxRecDepth 20000 in
theorem ggX7_locks_X7_save : GoodIn wsX7_locks wsX7_save := goodIn_r _ [5, 6, 7, 8, 9, 4, 10, 40, 41, 42, 43, 44, 45, 46, 47, 48, 49, 50, 51, 52, 53, 54] (by decide +kernel) (by decide +kernel)
set_option maxRecDepth 20000 in
theorem gX7_locks_X7_save : GoodIn wsX7_locks (wsV RX7 93 RX7 yX7_save wsX7_save) := goodIn_app (goodIn_of _ (by decide +kernel)) ggX7_locks_X7_save
set_option maxRecDepth 20000 in
theorem ggX7_locks_X7_putLock : GoodIn wsX7_locks wsX7_putLock := goodIn_r _ [14, 6, 15, 16, 17, 4, 18, 19, 20, 21, 22, 23, 24, 25, 40, 41, 42, 43, 44, 45, 46, 47, 48, 49, 50, 51, 52, 53, 54] (by decide +kernel) (by decide +kernel)
set_option maxRecDepth 20000 in
theorem gX7_locks_X7_putLock : GoodIn wsX7_locks (wsV RX7 103 RX7 yX7_putLock wsX7_putLock) := goodIn_app (goodIn_of _ (by decide +kernel)) ggX7_locks_X7_putLock
set_option maxRecDepth 20000 in
theorem ggX7_locks_X7_finish : GoodIn wsX7_locks wsX7_finish := goodIn_r _ [29, 30, 31, 7, 32, 33, 4, 34, 35, 36, 37, 38, 39, 8, 9, 10, 40, 41, 42, 43, 44, 45, 46, 47, 48, 49, 50, 51, 52, 53, 54] (by decide +kernel) (by decide +kernel)
set_option maxRecDepth 20000 in
theorem gX7_locks_X7_finish : GoodIn wsX7_locks (wsV RX7 100 RX7 yX7_finish wsX7_finish) := goodIn_app (goodIn_of _ (by decide +kernel)) ggX7_locks_X7_finish
theorem dX7_locks_0 : decode cX7_locks 0 = .ok (.aload_n 0, 1) := by decide +kernel
theorem dX7_locks_1 : decode cX7_locks 1 = .ok (.invokevirtual 93, 3) := by decide +kernel
theorem dX7_locks_4 : decode cX7_locks 4 = .ok (.aload_n 0, 1) := by decide +kernel
theorem dX7_locks_5 : decode cX7_locks 5 = .ok (.aload_n 0, 1) := by decide +kernel
theorem dX7_locks_6 : decode cX7_locks 6 = .ok (.iload_n 1, 1) := by decide +kernel
theorem dX7_locks_7 : decode cX7_locks 7 = .ok (.iload_n 2, 1) := by decide +kernel
theorem dX7_locks_8 : decode cX7_locks 8 = .ok (.invokevirtual 103, 3) := by decide +kernel
theorem dX7_locks_11 : decode cX7_locks 11 = .ok (.invokevirtual 100, 3) := by decide +kernel
theorem dX7_locks_14 : decode cX7_locks 14 = .ok (.ireturn, 1) := by decide +kernel
set_option maxRecDepth 20000 in
theorem ggX7_badge_X7_save : GoodIn wsX7_badge wsX7_save := goodIn_r _ [5, 6, 7, 8, 9, 4, 10, 35, 36, 37, 38, 39, 40, 41, 42, 43, 44, 45, 46, 47, 48, 49] (by decide +kernel) (by decide +kernel)
set_option maxRecDepth 20000 in
theorem gX7_badge_X7_save : GoodIn wsX7_badge (wsV RX7 93 RX7 yX7_save wsX7_save) := goodIn_app (goodIn_of _ (by decide +kernel)) ggX7_badge_X7_save
set_option maxRecDepth 20000 in
theorem ggX7_badge_X7_putBadge : GoodIn wsX7_badge wsX7_putBadge := goodIn_r _ [14, 6, 15, 16, 4, 17, 18, 19, 20, 35, 36, 37, 38, 39, 40, 41, 42, 43, 44, 45, 46, 47, 48, 49] (by decide +kernel) (by decide +kernel)
set_option maxRecDepth 20000 in
theorem gX7_badge_X7_putBadge : GoodIn wsX7_badge (wsV RX7 106 RX7 yX7_putBadge wsX7_putBadge) := goodIn_app (goodIn_of _ (by decide +kernel)) ggX7_badge_X7_putBadge
set_option maxRecDepth 20000 in
theorem ggX7_badge_X7_finish : GoodIn wsX7_badge wsX7_finish := goodIn_r _ [24, 25, 26, 7, 27, 28, 4, 29, 30, 31, 32, 33, 34, 8, 9, 10, 35, 36, 37, 38, 39, 40, 41, 42, 43, 44, 45, 46, 47, 48, 49] (by decide +kernel) (by decide +kernel)
set_option maxRecDepth 20000 in
theorem gX7_badge_X7_finish : GoodIn wsX7_badge (wsV RX7 100 RX7 yX7_finish wsX7_finish) := goodIn_app (goodIn_of _ (by decide +kernel)) ggX7_badge_X7_finish
theorem dX7_badge_0 : decode cX7_badge 0 = .ok (.aload_n 0, 1) := by decide +kernel
theorem dX7_badge_1 : decode cX7_badge 1 = .ok (.invokevirtual 93, 3) := by decide +kernel
theorem dX7_badge_4 : decode cX7_badge 4 = .ok (.aload_n 0, 1) := by decide +kernel
theorem dX7_badge_5 : decode cX7_badge 5 = .ok (.aload_n 0, 1) := by decide +kernel
theorem dX7_badge_6 : decode cX7_badge 6 = .ok (.iload_n 1, 1) := by decide +kernel
theorem dX7_badge_7 : decode cX7_badge 7 = .ok (.invokevirtual 106, 3) := by decide +kernel
theorem dX7_badge_10 : decode cX7_badge 10 = .ok (.invokevirtual 100, 3) := by decide +kernel
theorem dX7_badge_13 : decode cX7_badge 13 = .ok (.ireturn, 1) := by decide +kernel
set_option maxRecDepth 20000 in
theorem ggX7_levels_X7_save : GoodIn wsX7_levels wsX7_save := goodIn_r _ [5, 6, 7, 8, 9, 4, 10, 39, 40, 41, 42, 43, 44, 45, 46, 47, 48, 49, 50, 51, 52, 53] (by decide +kernel) (by decide +kernel)
set_option maxRecDepth 20000 in
theorem gX7_levels_X7_save : GoodIn wsX7_levels (wsV RX7 93 RX7 yX7_save wsX7_save) := goodIn_app (goodIn_of _ (by decide +kernel)) ggX7_levels_X7_save
set_option maxRecDepth 20000 in
theorem ggX7_levels_X7_isBadge : GoodIn wsX7_levels wsX7_isBadge := goodIn_r _ [14, 6, 15, 16, 4, 17, 39, 40, 41, 42, 43, 44, 45, 46, 47, 48, 49, 50, 51, 52, 53] (by decide +kernel) (by decide +kernel)
set_option maxRecDepth 20000 in
theorem gX7_levels_X7_isBadge : GoodIn wsX7_levels (wsV RX7 73 RX7 yX7_isBadge wsX7_isBadge) := goodIn_app (goodIn_of _ (by decide +kernel)) ggX7_levels_X7_isBadge
set_option maxRecDepth 20000 in
theorem ggX7_levels_X7_isLevel : GoodIn wsX7_levels wsX7_isLevel := goodIn_r _ [20, 15, 16, 4, 17] (by decide +kernel) (by decide +kernel)
set_option maxRecDepth 20000 in
theorem gX7_levels_X7_isLevel : GoodIn wsX7_levels (va_wsS RX7 63 yX7_isLevel wsX7_isLevel) := goodIn_app (goodIn_of _ (by decide +kernel)) ggX7_levels_X7_isLevel
set_option maxRecDepth 20000 in
theorem ggX7_levels_X7_change : GoodIn wsX7_levels wsX7_change := goodIn_r _ [24, 6, 39, 40, 41, 42, 43, 44, 45, 46, 47, 48, 49, 50, 51, 52, 53] (by decide +kernel) (by decide +kernel)
set_option maxRecDepth 20000 in
theorem gX7_levels_X7_change : GoodIn wsX7_levels (wsV RX7 76 RX7 yX7_change wsX7_change) := goodIn_app (goodIn_of _ (by decide +kernel)) ggX7_levels_X7_change
set_option maxRecDepth 20000 in
theorem ggX7_levels_X7_finish : GoodIn wsX7_levels wsX7_finish := goodIn_r _ [28, 29, 30, 7, 31, 32, 4, 33, 34, 35, 36, 37, 38, 8, 9, 10, 39, 40, 41, 42, 43, 44, 45, 46, 47, 48, 49, 50, 51, 52, 53] (by decide +kernel) (by decide +kernel)
set_option maxRecDepth 20000 in
theorem gX7_levels_X7_finish : GoodIn wsX7_levels (wsV RX7 100 RX7 yX7_finish wsX7_finish) := goodIn_app (goodIn_of _ (by decide +kernel)) ggX7_levels_X7_finish
theorem dX7_levels_0 : decode cX7_levels 0 = .ok (.aload_n 0, 1) := by decide +kernel
theorem dX7_levels_1 : decode cX7_levels 1 = .ok (.invokevirtual 93, 3) := by decide +kernel
theorem dX7_levels_4 : decode cX7_levels 4 = .ok (.aload_n 0, 1) := by decide +kernel
theorem dX7_levels_5 : decode cX7_levels 5 = .ok (.aload_n 0, 1) := by decide +kernel
theorem dX7_levels_6 : decode cX7_levels 6 = .ok (.iload_n 1, 1) := by decide +kernel
theorem dX7_levels_7 : decode cX7_levels 7 = .ok (.invokevirtual 73, 3) := by decide +kernel
theorem dX7_levels_10 : decode cX7_levels 10 = .ok (.ifCond .eq 26, 3) := by decide +kernel
theorem dX7_levels_13 : decode cX7_levels 13 = .ok (.iload_n 2, 1) := by decide +kernel
theorem dX7_levels_14 : decode cX7_levels 14 = .ok (.invokestatic 63, 3) := by decide +kernel
theorem dX7_levels_17 : decode cX7_levels 17 = .ok (.ifCond .eq 19, 3) := by decide +kernel
theorem dX7_levels_20 : decode cX7_levels 20 = .ok (.aload_n 0, 1) := by decide +kernel
theorem dX7_levels_21 : decode cX7_levels 21 = .ok (.sipush 480, 3) := by decide +kernel
theorem dX7_levels_24 : decode cX7_levels 24 = .ok (.bipush 6, 2) := by decide +kernel
theorem dX7_levels_26 : decode cX7_levels 26 = .ok (.iload_n 1, 1) := by decide +kernel
theorem dX7_levels_27 : decode cX7_levels 27 = .ok (.imul, 1) := by decide +kernel
theorem dX7_levels_28 : decode cX7_levels 28 = .ok (.iadd, 1) := by decide +kernel
theorem dX7_levels_29 : decode cX7_levels 29 = .ok (.iload_n 2, 1) := by decide +kernel
theorem dX7_levels_30 : decode cX7_levels 30 = .ok (.invokevirtual 76, 3) := by decide +kernel
theorem dX7_levels_33 : decode cX7_levels 33 = .ok (.goto 5, 3) := by decide +kernel
theorem dX7_levels_36 : decode cX7_levels 36 = .ok (.bipush (-2), 2) := by decide +kernel
theorem dX7_levels_38 : decode cX7_levels 38 = .ok (.invokevirtual 100, 3) := by decide +kernel
theorem dX7_levels_41 : decode cX7_levels 41 = .ok (.ireturn, 1) := by decide +kernel
set_option maxRecDepth 20000 in
theorem ggX7_bars_X7_save : GoodIn wsX7_bars wsX7_save := goodIn_r _ [5, 6, 7, 8, 9, 4, 10, 40, 41, 42, 43, 44, 45, 46, 47, 48, 49, 50, 51, 52, 53, 54] (by decide +kernel) (by decide +kernel)
set_option maxRecDepth 20000 in
theorem gX7_bars_X7_save : GoodIn wsX7_bars (wsV RX7 93 RX7 yX7_save wsX7_save) := goodIn_app (goodIn_of _ (by decide +kernel)) ggX7_bars_X7_save
set_option maxRecDepth 20000 in
theorem ggX7_bars_X7_putBarred : GoodIn wsX7_bars wsX7_putBarred := goodIn_r _ [14, 15, 16, 17, 4, 18, 6, 19, 20, 21, 22, 23, 24, 25, 40, 41, 42, 43, 44, 45, 46, 47, 48, 49, 50, 51, 52, 53, 54] (by decide +kernel) (by decide +kernel)
set_option maxRecDepth 20000 in
theorem gX7_bars_X7_putBarred : GoodIn wsX7_bars (wsV RX7 109 RX7 yX7_putBarred wsX7_putBarred) := goodIn_app (goodIn_of _ (by decide +kernel)) ggX7_bars_X7_putBarred
set_option maxRecDepth 20000 in
theorem ggX7_bars_X7_finish : GoodIn wsX7_bars wsX7_finish := goodIn_r _ [29, 30, 31, 7, 32, 33, 4, 34, 35, 36, 37, 38, 39, 8, 9, 10, 40, 41, 42, 43, 44, 45, 46, 47, 48, 49, 50, 51, 52, 53, 54] (by decide +kernel) (by decide +kernel)
set_option maxRecDepth 20000 in
theorem gX7_bars_X7_finish : GoodIn wsX7_bars (wsV RX7 100 RX7 yX7_finish wsX7_finish) := goodIn_app (goodIn_of _ (by decide +kernel)) ggX7_bars_X7_finish
theorem dX7_bars_0 : decode cX7_bars 0 = .ok (.aload_n 0, 1) := by decide +kernel
theorem dX7_bars_1 : decode cX7_bars 1 = .ok (.invokevirtual 93, 3) := by decide +kernel
theorem dX7_bars_4 : decode cX7_bars 4 = .ok (.aload_n 0, 1) := by decide +kernel
theorem dX7_bars_5 : decode cX7_bars 5 = .ok (.aload_n 0, 1) := by decide +kernel
theorem dX7_bars_6 : decode cX7_bars 6 = .ok (.iload_n 1, 1) := by decide +kernel
theorem dX7_bars_7 : decode cX7_bars 7 = .ok (.iload_n 2, 1) := by decide +kernel
theorem dX7_bars_8 : decode cX7_bars 8 = .ok (.invokevirtual 109, 3) := by decide +kernel
theorem dX7_bars_11 : decode cX7_bars 11 = .ok (.invokevirtual 100, 3) := by decide +kernel
theorem dX7_bars_14 : decode cX7_bars 14 = .ok (.ireturn, 1) := by decide +kernel
set_option maxRecDepth 20000 in
theorem ggX7_online_X7_save : GoodIn wsX7_online wsX7_save := goodIn_r _ [5, 6, 7, 8, 9, 4, 10, 60, 61, 62, 63, 64, 65, 66, 67, 68, 69, 70, 71, 72, 73, 74] (by decide +kernel) (by decide +kernel)
set_option maxRecDepth 20000 in
theorem gX7_online_X7_save : GoodIn wsX7_online (wsV RX7 93 RX7 yX7_save wsX7_save) := goodIn_app (goodIn_of _ (by decide +kernel)) ggX7_online_X7_save
set_option maxRecDepth 20000 in
theorem ggX7_online_X7_putOnline : GoodIn wsX7_online wsX7_putOnline := goodIn_r _ [14, 6, 15, 16, 17, 4, 18, 19, 20, 21, 22, 23, 24, 25, 26, 27, 28, 29, 30, 31, 32, 33, 34, 35, 36, 37, 38, 39, 40, 41, 42, 43, 44, 45, 60, 61, 62, 63, 64, 65, 66, 67, 68, 69, 70, 71, 72, 73, 74] (by decide +kernel) (by decide +kernel)
set_option maxRecDepth 20000 in
theorem gX7_online_X7_putOnline : GoodIn wsX7_online (wsV RX7 112 RX7 yX7_putOnline wsX7_putOnline) := goodIn_app (goodIn_of _ (by decide +kernel)) ggX7_online_X7_putOnline
set_option maxRecDepth 20000 in
theorem ggX7_online_X7_finish : GoodIn wsX7_online wsX7_finish := goodIn_r _ [49, 50, 51, 7, 52, 53, 4, 54, 55, 56, 57, 58, 59, 8, 9, 10, 60, 61, 62, 63, 64, 65, 66, 67, 68, 69, 70, 71, 72, 73, 74] (by decide +kernel) (by decide +kernel)
set_option maxRecDepth 20000 in
theorem gX7_online_X7_finish : GoodIn wsX7_online (wsV RX7 100 RX7 yX7_finish wsX7_finish) := goodIn_app (goodIn_of _ (by decide +kernel)) ggX7_online_X7_finish
theorem dX7_online_0 : decode cX7_online 0 = .ok (.aload_n 0, 1) := by decide +kernel
theorem dX7_online_1 : decode cX7_online 1 = .ok (.invokevirtual 93, 3) := by decide +kernel
theorem dX7_online_4 : decode cX7_online 4 = .ok (.aload_n 0, 1) := by decide +kernel
theorem dX7_online_5 : decode cX7_online 5 = .ok (.aload_n 0, 1) := by decide +kernel
theorem dX7_online_6 : decode cX7_online 6 = .ok (.iload_n 1, 1) := by decide +kernel
theorem dX7_online_7 : decode cX7_online 7 = .ok (.iload_n 2, 1) := by decide +kernel
theorem dX7_online_8 : decode cX7_online 8 = .ok (.invokevirtual 112, 3) := by decide +kernel
theorem dX7_online_11 : decode cX7_online 11 = .ok (.invokevirtual 100, 3) := by decide +kernel
theorem dX7_online_14 : decode cX7_online 14 = .ok (.ireturn, 1) := by decide +kernel
set_option maxRecDepth 20000 in
theorem ggX7_isDay_X7_in : GoodIn wsX7_isDay wsX7_in := goodIn_r _ [5] (by decide +kernel) (by decide +kernel)
set_option maxRecDepth 20000 in
theorem gX7_isDay_X7_in : GoodIn wsX7_isDay (va_wsS RX7 56 yX7_in wsX7_in) := goodIn_app (goodIn_of _ (by decide +kernel)) ggX7_isDay_X7_in
theorem dX7_isDay_0 : decode cX7_isDay 0 = .ok (.aload_n 0, 1) := by decide +kernel
theorem dX7_isDay_1 : decode cX7_isDay 1 = .ok (.getfield 7, 3) := by decide +kernel
theorem dX7_isDay_4 : decode cX7_isDay 4 = .ok (.sipush 528, 3) := by decide +kernel
theorem dX7_isDay_7 : decode cX7_isDay 7 = .ok (.iaload, 1) := by decide +kernel
theorem dX7_isDay_8 : decode cX7_isDay 8 = .ok (.bipush 24, 2) := by decide +kernel
theorem dX7_isDay_10 : decode cX7_isDay 10 = .ok (.irem, 1) := by decide +kernel
theorem dX7_isDay_11 : decode cX7_isDay 11 = .ok (.bipush 8, 2) := by decide +kernel
theorem dX7_isDay_13 : decode cX7_isDay 13 = .ok (.bipush 17, 2) := by decide +kernel
theorem dX7_isDay_15 : decode cX7_isDay 15 = .ok (.invokestatic 56, 3) := by decide +kernel
theorem dX7_isDay_18 : decode cX7_isDay 18 = .ok (.ireturn, 1) := by decide +kernel
set_option maxRecDepth 20000 in
theorem ggX7_levelOf_X7_isDay : GoodIn wsX7_levelOf wsX7_isDay := goodIn_r _ [5, 6, 7, 8, 4, 9, 14, 15, 16, 17, 18, 19, 20, 21, 22, 23, 24, 25, 26, 27, 28] (by decide +kernel) (by decide +kernel)
set_option maxRecDepth 20000 in
theorem gX7_levelOf_X7_isDay : GoodIn wsX7_levelOf (wsV RX7 115 RX7 yX7_isDay wsX7_isDay) := goodIn_app (goodIn_of _ (by decide +kernel)) ggX7_levelOf_X7_isDay
set_option maxRecDepth 20000 in
theorem ggX7_levelOf_X7_ofDoor : GoodIn wsX7_levelOf wsX7_ofDoor := goodIn_r _ [13, 6, 14, 15, 16, 17, 18, 19, 20, 21, 22, 23, 24, 25, 26, 27, 28] (by decide +kernel) (by decide +kernel)
set_option maxRecDepth 20000 in
theorem gX7_levelOf_X7_ofDoor : GoodIn wsX7_levelOf (wsV RX7 69 RX7 yX7_ofDoor wsX7_ofDoor) := goodIn_app (goodIn_of _ (by decide +kernel)) ggX7_levelOf_X7_ofDoor
theorem dX7_levelOf_0 : decode cX7_levelOf 0 = .ok (.aload_n 0, 1) := by decide +kernel
theorem dX7_levelOf_1 : decode cX7_levelOf 1 = .ok (.iload_n 1, 1) := by decide +kernel
theorem dX7_levelOf_2 : decode cX7_levelOf 2 = .ok (.aload_n 0, 1) := by decide +kernel
theorem dX7_levelOf_3 : decode cX7_levelOf 3 = .ok (.invokevirtual 115, 3) := by decide +kernel
theorem dX7_levelOf_6 : decode cX7_levelOf 6 = .ok (.ifCond .eq 7, 3) := by decide +kernel
theorem dX7_levelOf_9 : decode cX7_levelOf 9 = .ok (.iconst 2, 1) := by decide +kernel
theorem dX7_levelOf_10 : decode cX7_levelOf 10 = .ok (.goto 4, 3) := by decide +kernel
theorem dX7_levelOf_13 : decode cX7_levelOf 13 = .ok (.iconst 3, 1) := by decide +kernel
theorem dX7_levelOf_14 : decode cX7_levelOf 14 = .ok (.invokevirtual 69, 3) := by decide +kernel
theorem dX7_levelOf_17 : decode cX7_levelOf 17 = .ok (.ireturn, 1) := by decide +kernel
set_option maxRecDepth 20000 in
theorem ggX7_isOpen_X7_ofDoor : GoodIn wsX7_isOpen wsX7_ofDoor := goodIn_r _ [6, 1, 7, 8, 9, 10, 11, 12, 13, 14, 15, 16, 17, 18, 19, 20, 21] (by decide +kernel) (by decide +kernel)
set_option maxRecDepth 20000 in
theorem gX7_isOpen_X7_ofDoor : GoodIn wsX7_isOpen (wsV RX7 69 RX7 yX7_ofDoor wsX7_ofDoor) := goodIn_app (goodIn_of _ (by decide +kernel)) ggX7_isOpen_X7_ofDoor
theorem dX7_isOpen_0 : decode cX7_isOpen 0 = .ok (.iload_n 1, 1) := by decide +kernel
theorem dX7_isOpen_1 : decode cX7_isOpen 1 = .ok (.iconst (-1), 1) := by decide +kernel
theorem dX7_isOpen_2 : decode cX7_isOpen 2 = .ok (.if_icmp .eq 25, 3) := by decide +kernel
theorem dX7_isOpen_5 : decode cX7_isOpen 5 = .ok (.aload_n 0, 1) := by decide +kernel
theorem dX7_isOpen_6 : decode cX7_isOpen 6 = .ok (.iload_n 1, 1) := by decide +kernel
theorem dX7_isOpen_7 : decode cX7_isOpen 7 = .ok (.bipush 8, 2) := by decide +kernel
theorem dX7_isOpen_9 : decode cX7_isOpen 9 = .ok (.invokevirtual 69, 3) := by decide +kernel
theorem dX7_isOpen_12 : decode cX7_isOpen 12 = .ok (.aload_n 0, 1) := by decide +kernel
theorem dX7_isOpen_13 : decode cX7_isOpen 13 = .ok (.getfield 7, 3) := by decide +kernel
theorem dX7_isOpen_16 : decode cX7_isOpen 16 = .ok (.sipush 528, 3) := by decide +kernel
theorem dX7_isOpen_19 : decode cX7_isOpen 19 = .ok (.iaload, 1) := by decide +kernel
theorem dX7_isOpen_20 : decode cX7_isOpen 20 = .ok (.if_icmp .ne 7, 3) := by decide +kernel
theorem dX7_isOpen_23 : decode cX7_isOpen 23 = .ok (.iconst 1, 1) := by decide +kernel
theorem dX7_isOpen_24 : decode cX7_isOpen 24 = .ok (.goto 4, 3) := by decide +kernel
theorem dX7_isOpen_27 : decode cX7_isOpen 27 = .ok (.iconst 0, 1) := by decide +kernel
theorem dX7_isOpen_28 : decode cX7_isOpen 28 = .ok (.ireturn, 1) := by decide +kernel
set_option maxRecDepth 20000 in
theorem ggX7_move_X7_ofDoor : GoodIn wsX7_move wsX7_ofDoor := goodIn_r _ [6, 1, 11, 12, 13, 14, 15, 16, 17, 18, 19, 20, 21, 22, 23, 24, 25] (by decide +kernel) (by decide +kernel)
set_option maxRecDepth 20000 in
theorem gX7_move_X7_ofDoor : GoodIn wsX7_move (wsV RX7 69 RX7 yX7_ofDoor wsX7_ofDoor) := goodIn_app (goodIn_of _ (by decide +kernel)) ggX7_move_X7_ofDoor
set_option maxRecDepth 20000 in
theorem ggX7_move_X7_ofBadge : GoodIn wsX7_move wsX7_ofBadge := goodIn_r _ [10, 1, 11, 12, 13, 14, 15, 16, 17, 18, 19, 20, 21, 22, 23, 24, 25] (by decide +kernel) (by decide +kernel)
set_option maxRecDepth 20000 in
theorem gX7_move_X7_ofBadge : GoodIn wsX7_move (wsV RX7 79 RX7 yX7_ofBadge wsX7_ofBadge) := goodIn_app (goodIn_of _ (by decide +kernel)) ggX7_move_X7_ofBadge
theorem dX7_move_0 : decode cX7_move 0 = .ok (.aload_n 0, 1) := by decide +kernel
theorem dX7_move_1 : decode cX7_move 1 = .ok (.getfield 7, 3) := by decide +kernel
theorem dX7_move_4 : decode cX7_move 4 = .ok (.sipush 531, 3) := by decide +kernel
theorem dX7_move_7 : decode cX7_move 7 = .ok (.dup2, 1) := by decide +kernel
theorem dX7_move_8 : decode cX7_move 8 = .ok (.iaload, 1) := by decide +kernel
theorem dX7_move_9 : decode cX7_move 9 = .ok (.aload_n 0, 1) := by decide +kernel
theorem dX7_move_10 : decode cX7_move 10 = .ok (.iload_n 2, 1) := by decide +kernel
theorem dX7_move_11 : decode cX7_move 11 = .ok (.iconst 4, 1) := by decide +kernel
theorem dX7_move_12 : decode cX7_move 12 = .ok (.invokevirtual 69, 3) := by decide +kernel
theorem dX7_move_15 : decode cX7_move 15 = .ok (.ifCond .eq 22, 3) := by decide +kernel
theorem dX7_move_18 : decode cX7_move 18 = .ok (.aload_n 0, 1) := by decide +kernel
theorem dX7_move_19 : decode cX7_move 19 = .ok (.iload_n 1, 1) := by decide +kernel
theorem dX7_move_20 : decode cX7_move 20 = .ok (.iconst 2, 1) := by decide +kernel
theorem dX7_move_21 : decode cX7_move 21 = .ok (.invokevirtual 79, 3) := by decide +kernel
theorem dX7_move_24 : decode cX7_move 24 = .ok (.aload_n 0, 1) := by decide +kernel
theorem dX7_move_25 : decode cX7_move 25 = .ok (.iload_n 2, 1) := by decide +kernel
theorem dX7_move_26 : decode cX7_move 26 = .ok (.iconst 0, 1) := by decide +kernel
theorem dX7_move_27 : decode cX7_move 27 = .ok (.invokevirtual 69, 3) := by decide +kernel
theorem dX7_move_30 : decode cX7_move 30 = .ok (.if_icmp .eq 7, 3) := by decide +kernel
theorem dX7_move_33 : decode cX7_move 33 = .ok (.iconst 1, 1) := by decide +kernel
theorem dX7_move_34 : decode cX7_move 34 = .ok (.goto 4, 3) := by decide +kernel
theorem dX7_move_37 : decode cX7_move 37 = .ok (.iconst 0, 1) := by decide +kernel
theorem dX7_move_38 : decode cX7_move 38 = .ok (.iadd, 1) := by decide +kernel
theorem dX7_move_39 : decode cX7_move 39 = .ok (.iastore, 1) := by decide +kernel
theorem dX7_move_40 : decode cX7_move 40 = .ok (.aload_n 0, 1) := by decide +kernel
theorem dX7_move_41 : decode cX7_move 41 = .ok (.getfield 7, 3) := by decide +kernel
theorem dX7_move_44 : decode cX7_move 44 = .ok (.sipush 480, 3) := by decide +kernel
theorem dX7_move_47 : decode cX7_move 47 = .ok (.bipush 6, 2) := by decide +kernel
theorem dX7_move_49 : decode cX7_move 49 = .ok (.iload_n 1, 1) := by decide +kernel
theorem dX7_move_50 : decode cX7_move 50 = .ok (.imul, 1) := by decide +kernel
theorem dX7_move_51 : decode cX7_move 51 = .ok (.iadd, 1) := by decide +kernel
theorem dX7_move_52 : decode cX7_move 52 = .ok (.iconst 2, 1) := by decide +kernel
theorem dX7_move_53 : decode cX7_move 53 = .ok (.iadd, 1) := by decide +kernel
theorem dX7_move_54 : decode cX7_move 54 = .ok (.aload_n 0, 1) := by decide +kernel
theorem dX7_move_55 : decode cX7_move 55 = .ok (.iload_n 2, 1) := by decide +kernel
theorem dX7_move_56 : decode cX7_move 56 = .ok (.iconst 1, 1) := by decide +kernel
theorem dX7_move_57 : decode cX7_move 57 = .ok (.invokevirtual 69, 3) := by decide +kernel
theorem dX7_move_60 : decode cX7_move 60 = .ok (.iastore, 1) := by decide +kernel
theorem dX7_move_61 : decode cX7_move 61 = .ok (.aload_n 0, 1) := by decide +kernel
theorem dX7_move_62 : decode cX7_move 62 = .ok (.getfield 7, 3) := by decide +kernel
theorem dX7_move_65 : decode cX7_move 65 = .ok (.sipush 480, 3) := by decide +kernel
theorem dX7_move_68 : decode cX7_move 68 = .ok (.bipush 6, 2) := by decide +kernel
theorem dX7_move_70 : decode cX7_move 70 = .ok (.iload_n 1, 1) := by decide +kernel
theorem dX7_move_71 : decode cX7_move 71 = .ok (.imul, 1) := by decide +kernel
theorem dX7_move_72 : decode cX7_move 72 = .ok (.iadd, 1) := by decide +kernel
theorem dX7_move_73 : decode cX7_move 73 = .ok (.iconst 3, 1) := by decide +kernel
theorem dX7_move_74 : decode cX7_move 74 = .ok (.iadd, 1) := by decide +kernel
theorem dX7_move_75 : decode cX7_move 75 = .ok (.iload_n 3, 1) := by decide +kernel
theorem dX7_move_76 : decode cX7_move 76 = .ok (.iastore, 1) := by decide +kernel
theorem dX7_move_77 : decode cX7_move 77 = .ok (.return_, 1) := by decide +kernel
theorem dX7_pass_0 : decode cX7_pass 0 = .ok (.aload_n 0, 1) := by decide +kernel
theorem dX7_pass_1 : decode cX7_pass 1 = .ok (.getfield 7, 3) := by decide +kernel
theorem dX7_pass_4 : decode cX7_pass 4 = .ok (.bipush 60, 2) := by decide +kernel
theorem dX7_pass_6 : decode cX7_pass 6 = .ok (.iload_n 2, 1) := by decide +kernel
theorem dX7_pass_7 : decode cX7_pass 7 = .ok (.imul, 1) := by decide +kernel
theorem dX7_pass_8 : decode cX7_pass 8 = .ok (.bipush 8, 2) := by decide +kernel
theorem dX7_pass_10 : decode cX7_pass 10 = .ok (.iadd, 1) := by decide +kernel
theorem dX7_pass_11 : decode cX7_pass 11 = .ok (.aload_n 0, 1) := by decide +kernel
theorem dX7_pass_12 : decode cX7_pass 12 = .ok (.getfield 7, 3) := by decide +kernel
theorem dX7_pass_15 : decode cX7_pass 15 = .ok (.sipush 528, 3) := by decide +kernel
theorem dX7_pass_18 : decode cX7_pass 18 = .ok (.iaload, 1) := by decide +kernel
theorem dX7_pass_19 : decode cX7_pass 19 = .ok (.iastore, 1) := by decide +kernel
theorem dX7_pass_20 : decode cX7_pass 20 = .ok (.aload_n 0, 1) := by decide +kernel
theorem dX7_pass_21 : decode cX7_pass 21 = .ok (.getfield 7, 3) := by decide +kernel
theorem dX7_pass_24 : decode cX7_pass 24 = .ok (.sipush 534, 3) := by decide +kernel
theorem dX7_pass_27 : decode cX7_pass 27 = .ok (.dup2, 1) := by decide +kernel
theorem dX7_pass_28 : decode cX7_pass 28 = .ok (.iaload, 1) := by decide +kernel
theorem dX7_pass_29 : decode cX7_pass 29 = .ok (.iconst 1, 1) := by decide +kernel
theorem dX7_pass_30 : decode cX7_pass 30 = .ok (.iadd, 1) := by decide +kernel
theorem dX7_pass_31 : decode cX7_pass 31 = .ok (.iastore, 1) := by decide +kernel
theorem dX7_pass_32 : decode cX7_pass 32 = .ok (.aload_n 0, 1) := by decide +kernel
theorem dX7_pass_33 : decode cX7_pass 33 = .ok (.getfield 7, 3) := by decide +kernel
theorem dX7_pass_36 : decode cX7_pass 36 = .ok (.sipush 480, 3) := by decide +kernel
theorem dX7_pass_39 : decode cX7_pass 39 = .ok (.bipush 6, 2) := by decide +kernel
theorem dX7_pass_41 : decode cX7_pass 41 = .ok (.iload_n 1, 1) := by decide +kernel
theorem dX7_pass_42 : decode cX7_pass 42 = .ok (.imul, 1) := by decide +kernel
theorem dX7_pass_43 : decode cX7_pass 43 = .ok (.iadd, 1) := by decide +kernel
theorem dX7_pass_44 : decode cX7_pass 44 = .ok (.iconst 5, 1) := by decide +kernel
theorem dX7_pass_45 : decode cX7_pass 45 = .ok (.iadd, 1) := by decide +kernel
theorem dX7_pass_46 : decode cX7_pass 46 = .ok (.dup2, 1) := by decide +kernel
theorem dX7_pass_47 : decode cX7_pass 47 = .ok (.iaload, 1) := by decide +kernel
theorem dX7_pass_48 : decode cX7_pass 48 = .ok (.iconst 1, 1) := by decide +kernel
theorem dX7_pass_49 : decode cX7_pass 49 = .ok (.iadd, 1) := by decide +kernel
theorem dX7_pass_50 : decode cX7_pass 50 = .ok (.iastore, 1) := by decide +kernel
theorem dX7_pass_51 : decode cX7_pass 51 = .ok (.iconst 0, 1) := by decide +kernel
theorem dX7_pass_52 : decode cX7_pass 52 = .ok (.istore_n 3, 1) := by decide +kernel
theorem dX7_pass_53 : decode cX7_pass 53 = .ok (.iload_n 3, 1) := by decide +kernel
theorem dX7_pass_54 : decode cX7_pass 54 = .ok (.aload_n 0, 1) := by decide +kernel
theorem dX7_pass_55 : decode cX7_pass 55 = .ok (.getfield 7, 3) := by decide +kernel
theorem dX7_pass_58 : decode cX7_pass 58 = .ok (.sipush 540, 3) := by decide +kernel
theorem dX7_pass_61 : decode cX7_pass 61 = .ok (.iaload, 1) := by decide +kernel
theorem dX7_pass_62 : decode cX7_pass 62 = .ok (.if_icmp .ge 43, 3) := by decide +kernel
theorem dX7_pass_65 : decode cX7_pass 65 = .ok (.aload_n 0, 1) := by decide +kernel
theorem dX7_pass_66 : decode cX7_pass 66 = .ok (.getfield 7, 3) := by decide +kernel
theorem dX7_pass_69 : decode cX7_pass 69 = .ok (.sipush 541, 3) := by decide +kernel
theorem dX7_pass_72 : decode cX7_pass 72 = .ok (.iconst 3, 1) := by decide +kernel
theorem dX7_pass_73 : decode cX7_pass 73 = .ok (.iload_n 3, 1) := by decide +kernel
theorem dX7_pass_74 : decode cX7_pass 74 = .ok (.imul, 1) := by decide +kernel
theorem dX7_pass_75 : decode cX7_pass 75 = .ok (.iadd, 1) := by decide +kernel
theorem dX7_pass_76 : decode cX7_pass 76 = .ok (.iaload, 1) := by decide +kernel
theorem dX7_pass_77 : decode cX7_pass 77 = .ok (.iload_n 1, 1) := by decide +kernel
theorem dX7_pass_78 : decode cX7_pass 78 = .ok (.if_icmp .ne 21, 3) := by decide +kernel
theorem dX7_pass_81 : decode cX7_pass 81 = .ok (.aload_n 0, 1) := by decide +kernel
theorem dX7_pass_82 : decode cX7_pass 82 = .ok (.getfield 7, 3) := by decide +kernel
theorem dX7_pass_85 : decode cX7_pass 85 = .ok (.sipush 541, 3) := by decide +kernel
theorem dX7_pass_88 : decode cX7_pass 88 = .ok (.iconst 3, 1) := by decide +kernel
theorem dX7_pass_89 : decode cX7_pass 89 = .ok (.iload_n 3, 1) := by decide +kernel
theorem dX7_pass_90 : decode cX7_pass 90 = .ok (.imul, 1) := by decide +kernel
theorem dX7_pass_91 : decode cX7_pass 91 = .ok (.iadd, 1) := by decide +kernel
theorem dX7_pass_92 : decode cX7_pass 92 = .ok (.iconst 1, 1) := by decide +kernel
theorem dX7_pass_93 : decode cX7_pass 93 = .ok (.iadd, 1) := by decide +kernel
theorem dX7_pass_94 : decode cX7_pass 94 = .ok (.iaload, 1) := by decide +kernel
theorem dX7_pass_95 : decode cX7_pass 95 = .ok (.iload_n 2, 1) := by decide +kernel
theorem dX7_pass_96 : decode cX7_pass 96 = .ok (.if_icmp .eq 9, 3) := by decide +kernel
theorem dX7_pass_99 : decode cX7_pass 99 = .ok (.iinc 3 1, 3) := by decide +kernel
theorem dX7_pass_102 : decode cX7_pass 102 = .ok (.goto (-49), 3) := by decide +kernel
theorem dX7_pass_105 : decode cX7_pass 105 = .ok (.iload_n 3, 1) := by decide +kernel
theorem dX7_pass_106 : decode cX7_pass 106 = .ok (.aload_n 0, 1) := by decide +kernel
theorem dX7_pass_107 : decode cX7_pass 107 = .ok (.getfield 7, 3) := by decide +kernel
theorem dX7_pass_110 : decode cX7_pass 110 = .ok (.sipush 540, 3) := by decide +kernel
theorem dX7_pass_113 : decode cX7_pass 113 = .ok (.iaload, 1) := by decide +kernel
theorem dX7_pass_114 : decode cX7_pass 114 = .ok (.if_icmp .ne 58, 3) := by decide +kernel
theorem dX7_pass_117 : decode cX7_pass 117 = .ok (.aload_n 0, 1) := by decide +kernel
theorem dX7_pass_118 : decode cX7_pass 118 = .ok (.getfield 7, 3) := by decide +kernel
theorem dX7_pass_121 : decode cX7_pass 121 = .ok (.sipush 541, 3) := by decide +kernel
theorem dX7_pass_124 : decode cX7_pass 124 = .ok (.iconst 3, 1) := by decide +kernel
theorem dX7_pass_125 : decode cX7_pass 125 = .ok (.iload_n 3, 1) := by decide +kernel
theorem dX7_pass_126 : decode cX7_pass 126 = .ok (.imul, 1) := by decide +kernel
theorem dX7_pass_127 : decode cX7_pass 127 = .ok (.iadd, 1) := by decide +kernel
theorem dX7_pass_128 : decode cX7_pass 128 = .ok (.iload_n 1, 1) := by decide +kernel
theorem dX7_pass_129 : decode cX7_pass 129 = .ok (.iastore, 1) := by decide +kernel
theorem dX7_pass_130 : decode cX7_pass 130 = .ok (.aload_n 0, 1) := by decide +kernel
theorem dX7_pass_131 : decode cX7_pass 131 = .ok (.getfield 7, 3) := by decide +kernel
theorem dX7_pass_134 : decode cX7_pass 134 = .ok (.sipush 541, 3) := by decide +kernel
theorem dX7_pass_137 : decode cX7_pass 137 = .ok (.iconst 3, 1) := by decide +kernel
theorem dX7_pass_138 : decode cX7_pass 138 = .ok (.iload_n 3, 1) := by decide +kernel
theorem dX7_pass_139 : decode cX7_pass 139 = .ok (.imul, 1) := by decide +kernel
theorem dX7_pass_140 : decode cX7_pass 140 = .ok (.iadd, 1) := by decide +kernel
theorem dX7_pass_141 : decode cX7_pass 141 = .ok (.iconst 1, 1) := by decide +kernel
theorem dX7_pass_142 : decode cX7_pass 142 = .ok (.iadd, 1) := by decide +kernel
theorem dX7_pass_143 : decode cX7_pass 143 = .ok (.iload_n 2, 1) := by decide +kernel
theorem dX7_pass_144 : decode cX7_pass 144 = .ok (.iastore, 1) := by decide +kernel
theorem dX7_pass_145 : decode cX7_pass 145 = .ok (.aload_n 0, 1) := by decide +kernel
theorem dX7_pass_146 : decode cX7_pass 146 = .ok (.getfield 7, 3) := by decide +kernel
theorem dX7_pass_149 : decode cX7_pass 149 = .ok (.sipush 541, 3) := by decide +kernel
theorem dX7_pass_152 : decode cX7_pass 152 = .ok (.iconst 3, 1) := by decide +kernel
theorem dX7_pass_153 : decode cX7_pass 153 = .ok (.iload_n 3, 1) := by decide +kernel
theorem dX7_pass_154 : decode cX7_pass 154 = .ok (.imul, 1) := by decide +kernel
theorem dX7_pass_155 : decode cX7_pass 155 = .ok (.iadd, 1) := by decide +kernel
theorem dX7_pass_156 : decode cX7_pass 156 = .ok (.iconst 2, 1) := by decide +kernel
theorem dX7_pass_157 : decode cX7_pass 157 = .ok (.iadd, 1) := by decide +kernel
theorem dX7_pass_158 : decode cX7_pass 158 = .ok (.iconst 0, 1) := by decide +kernel
theorem dX7_pass_159 : decode cX7_pass 159 = .ok (.iastore, 1) := by decide +kernel
theorem dX7_pass_160 : decode cX7_pass 160 = .ok (.aload_n 0, 1) := by decide +kernel
theorem dX7_pass_161 : decode cX7_pass 161 = .ok (.getfield 7, 3) := by decide +kernel
theorem dX7_pass_164 : decode cX7_pass 164 = .ok (.sipush 540, 3) := by decide +kernel
theorem dX7_pass_167 : decode cX7_pass 167 = .ok (.dup2, 1) := by decide +kernel
theorem dX7_pass_168 : decode cX7_pass 168 = .ok (.iaload, 1) := by decide +kernel
theorem dX7_pass_169 : decode cX7_pass 169 = .ok (.iconst 1, 1) := by decide +kernel
theorem dX7_pass_170 : decode cX7_pass 170 = .ok (.iadd, 1) := by decide +kernel
theorem dX7_pass_171 : decode cX7_pass 171 = .ok (.iastore, 1) := by decide +kernel
theorem dX7_pass_172 : decode cX7_pass 172 = .ok (.aload_n 0, 1) := by decide +kernel
theorem dX7_pass_173 : decode cX7_pass 173 = .ok (.getfield 7, 3) := by decide +kernel
theorem dX7_pass_176 : decode cX7_pass 176 = .ok (.sipush 541, 3) := by decide +kernel
theorem dX7_pass_179 : decode cX7_pass 179 = .ok (.iconst 3, 1) := by decide +kernel
theorem dX7_pass_180 : decode cX7_pass 180 = .ok (.iload_n 3, 1) := by decide +kernel
theorem dX7_pass_181 : decode cX7_pass 181 = .ok (.imul, 1) := by decide +kernel
theorem dX7_pass_182 : decode cX7_pass 182 = .ok (.iadd, 1) := by decide +kernel
theorem dX7_pass_183 : decode cX7_pass 183 = .ok (.iconst 2, 1) := by decide +kernel
theorem dX7_pass_184 : decode cX7_pass 184 = .ok (.iadd, 1) := by decide +kernel
theorem dX7_pass_185 : decode cX7_pass 185 = .ok (.dup2, 1) := by decide +kernel
theorem dX7_pass_186 : decode cX7_pass 186 = .ok (.iaload, 1) := by decide +kernel
theorem dX7_pass_187 : decode cX7_pass 187 = .ok (.iconst 1, 1) := by decide +kernel
theorem dX7_pass_188 : decode cX7_pass 188 = .ok (.iadd, 1) := by decide +kernel
theorem dX7_pass_189 : decode cX7_pass 189 = .ok (.iastore, 1) := by decide +kernel
theorem dX7_pass_190 : decode cX7_pass 190 = .ok (.return_, 1) := by decide +kernel
set_option maxRecDepth 20000 in
theorem ggX7_let_X7_move : GoodIn wsX7_let wsX7_move := goodIn_r _ [6, 1, 7, 8, 9, 5, 10, 11, 12, 13, 14, 19, 20, 21, 22, 23, 24, 25, 26, 27, 28, 29, 30, 31, 32, 33] (by decide +kernel) (by decide +kernel)
set_option maxRecDepth 20000 in
theorem gX7_let_X7_move : GoodIn wsX7_let (wsV RX7 82 RX7 yX7_move wsX7_move) := goodIn_app (goodIn_of _ (by decide +kernel)) ggX7_let_X7_move
set_option maxRecDepth 20000 in
theorem ggX7_let_X7_pass : GoodIn wsX7_let wsX7_pass := goodIn_r _ [18, 1, 19, 20, 21, 22, 23, 24, 25, 26, 27, 28, 29, 30, 31, 32, 33] (by decide +kernel) (by decide +kernel)
set_option maxRecDepth 20000 in
theorem gX7_let_X7_pass : GoodIn wsX7_let (wsV RX7 119 RX7 yX7_pass wsX7_pass) := goodIn_app (goodIn_of _ (by decide +kernel)) ggX7_let_X7_pass
theorem dX7_let_0 : decode cX7_let 0 = .ok (.aload_n 0, 1) := by decide +kernel
theorem dX7_let_1 : decode cX7_let 1 = .ok (.iload_n 1, 1) := by decide +kernel
theorem dX7_let_2 : decode cX7_let 2 = .ok (.iload_n 2, 1) := by decide +kernel
theorem dX7_let_3 : decode cX7_let 3 = .ok (.aload_n 0, 1) := by decide +kernel
theorem dX7_let_4 : decode cX7_let 4 = .ok (.getfield 7, 3) := by decide +kernel
theorem dX7_let_7 : decode cX7_let 7 = .ok (.sipush 528, 3) := by decide +kernel
theorem dX7_let_10 : decode cX7_let 10 = .ok (.iaload, 1) := by decide +kernel
theorem dX7_let_11 : decode cX7_let 11 = .ok (.invokevirtual 82, 3) := by decide +kernel
theorem dX7_let_14 : decode cX7_let 14 = .ok (.aload_n 0, 1) := by decide +kernel
theorem dX7_let_15 : decode cX7_let 15 = .ok (.iload_n 1, 1) := by decide +kernel
theorem dX7_let_16 : decode cX7_let 16 = .ok (.iload_n 2, 1) := by decide +kernel
theorem dX7_let_17 : decode cX7_let 17 = .ok (.invokevirtual 119, 3) := by decide +kernel
theorem dX7_let_20 : decode cX7_let 20 = .ok (.return_, 1) := by decide +kernel
set_option maxRecDepth 20000 in
theorem ggX7_askOnline_X7_ofDoor : GoodIn wsX7_askOnline wsX7_ofDoor := goodIn_r _ [6, 1, 34, 35, 36, 37, 38, 39, 40, 41, 42, 43, 44, 45, 46, 47, 48] (by decide +kernel) (by decide +kernel)
set_option maxRecDepth 20000 in
theorem gX7_askOnline_X7_ofDoor : GoodIn wsX7_askOnline (wsV RX7 69 RX7 yX7_ofDoor wsX7_ofDoor) := goodIn_app (goodIn_of _ (by decide +kernel)) ggX7_askOnline_X7_ofDoor
set_option maxRecDepth 20000 in
theorem ggX7_askOnline_X7_let : GoodIn wsX7_askOnline wsX7_let := goodIn_r _ [10, 1, 11, 12, 13, 5, 14, 2, 3, 4, 6, 15, 16, 17, 18, 19, 20, 21, 22, 34, 35, 36, 37, 38, 39, 40, 41, 42, 43, 44, 45, 46, 47, 48] (by decide +kernel) (by decide +kernel)
set_option maxRecDepth 20000 in
theorem gX7_askOnline_X7_let : GoodIn wsX7_askOnline (wsV RX7 123 RX7 yX7_let wsX7_let) := goodIn_app (goodIn_of _ (by decide +kernel)) ggX7_askOnline_X7_let
set_option maxRecDepth 20000 in
theorem ggX7_askOnline_X7_ofBadge : GoodIn wsX7_askOnline wsX7_ofBadge := goodIn_r _ [18, 1, 34, 35, 36, 37, 38, 39, 40, 41, 42, 43, 44, 45, 46, 47, 48] (by decide +kernel) (by decide +kernel)
set_option maxRecDepth 20000 in
theorem gX7_askOnline_X7_ofBadge : GoodIn wsX7_askOnline (wsV RX7 79 RX7 yX7_ofBadge wsX7_ofBadge) := goodIn_app (goodIn_of _ (by decide +kernel)) ggX7_askOnline_X7_ofBadge
set_option maxRecDepth 20000 in
theorem ggX7_askOnline_X7_levelOf : GoodIn wsX7_askOnline wsX7_levelOf := goodIn_r _ [26, 27, 28, 29, 5, 30, 1, 31, 32, 33, 2, 3, 4, 6, 34, 35, 36, 37, 38, 39, 40, 41, 42, 43, 44, 45, 46, 47, 48] (by decide +kernel) (by decide +kernel)
set_option maxRecDepth 20000 in
theorem gX7_askOnline_X7_levelOf : GoodIn wsX7_askOnline (wsV RX7 126 RX7 yX7_levelOf wsX7_levelOf) := goodIn_app (goodIn_of _ (by decide +kernel)) ggX7_askOnline_X7_levelOf
theorem dX7_askOnline_0 : decode cX7_askOnline 0 = .ok (.aload_n 0, 1) := by decide +kernel
theorem dX7_askOnline_1 : decode cX7_askOnline 1 = .ok (.iload_n 2, 1) := by decide +kernel
theorem dX7_askOnline_2 : decode cX7_askOnline 2 = .ok (.iconst 1, 1) := by decide +kernel
theorem dX7_askOnline_3 : decode cX7_askOnline 3 = .ok (.invokevirtual 69, 3) := by decide +kernel
theorem dX7_askOnline_6 : decode cX7_askOnline 6 = .ok (.ifCond .ne 11, 3) := by decide +kernel
theorem dX7_askOnline_9 : decode cX7_askOnline 9 = .ok (.aload_n 0, 1) := by decide +kernel
theorem dX7_askOnline_10 : decode cX7_askOnline 10 = .ok (.iload_n 1, 1) := by decide +kernel
theorem dX7_askOnline_11 : decode cX7_askOnline 11 = .ok (.iload_n 2, 1) := by decide +kernel
theorem dX7_askOnline_12 : decode cX7_askOnline 12 = .ok (.invokevirtual 123, 3) := by decide +kernel
theorem dX7_askOnline_15 : decode cX7_askOnline 15 = .ok (.iconst 0, 1) := by decide +kernel
theorem dX7_askOnline_16 : decode cX7_askOnline 16 = .ok (.ireturn, 1) := by decide +kernel
theorem dX7_askOnline_17 : decode cX7_askOnline 17 = .ok (.aload_n 0, 1) := by decide +kernel
theorem dX7_askOnline_18 : decode cX7_askOnline 18 = .ok (.iload_n 1, 1) := by decide +kernel
theorem dX7_askOnline_19 : decode cX7_askOnline 19 = .ok (.iconst 1, 1) := by decide +kernel
theorem dX7_askOnline_20 : decode cX7_askOnline 20 = .ok (.invokevirtual 79, 3) := by decide +kernel
theorem dX7_askOnline_23 : decode cX7_askOnline 23 = .ok (.iconst 1, 1) := by decide +kernel
theorem dX7_askOnline_24 : decode cX7_askOnline 24 = .ok (.if_icmp .ne 5, 3) := by decide +kernel
theorem dX7_askOnline_27 : decode cX7_askOnline 27 = .ok (.iconst 2, 1) := by decide +kernel
theorem dX7_askOnline_28 : decode cX7_askOnline 28 = .ok (.ireturn, 1) := by decide +kernel
theorem dX7_askOnline_29 : decode cX7_askOnline 29 = .ok (.aload_n 0, 1) := by decide +kernel
theorem dX7_askOnline_30 : decode cX7_askOnline 30 = .ok (.iload_n 1, 1) := by decide +kernel
theorem dX7_askOnline_31 : decode cX7_askOnline 31 = .ok (.iconst 0, 1) := by decide +kernel
theorem dX7_askOnline_32 : decode cX7_askOnline 32 = .ok (.invokevirtual 79, 3) := by decide +kernel
theorem dX7_askOnline_35 : decode cX7_askOnline 35 = .ok (.aload_n 0, 1) := by decide +kernel
theorem dX7_askOnline_36 : decode cX7_askOnline 36 = .ok (.iload_n 2, 1) := by decide +kernel
theorem dX7_askOnline_37 : decode cX7_askOnline 37 = .ok (.invokevirtual 126, 3) := by decide +kernel
theorem dX7_askOnline_40 : decode cX7_askOnline 40 = .ok (.if_icmp .ge 5, 3) := by decide +kernel
theorem dX7_askOnline_43 : decode cX7_askOnline 43 = .ok (.iconst 3, 1) := by decide +kernel
theorem dX7_askOnline_44 : decode cX7_askOnline 44 = .ok (.ireturn, 1) := by decide +kernel
theorem dX7_askOnline_45 : decode cX7_askOnline 45 = .ok (.aload_n 0, 1) := by decide +kernel
theorem dX7_askOnline_46 : decode cX7_askOnline 46 = .ok (.iload_n 2, 1) := by decide +kernel
theorem dX7_askOnline_47 : decode cX7_askOnline 47 = .ok (.iconst 4, 1) := by decide +kernel
theorem dX7_askOnline_48 : decode cX7_askOnline 48 = .ok (.invokevirtual 69, 3) := by decide +kernel
theorem dX7_askOnline_51 : decode cX7_askOnline 51 = .ok (.iconst 2, 1) := by decide +kernel
theorem dX7_askOnline_52 : decode cX7_askOnline 52 = .ok (.if_icmp .ne 20, 3) := by decide +kernel
theorem dX7_askOnline_55 : decode cX7_askOnline 55 = .ok (.aload_n 0, 1) := by decide +kernel
theorem dX7_askOnline_56 : decode cX7_askOnline 56 = .ok (.iload_n 1, 1) := by decide +kernel
theorem dX7_askOnline_57 : decode cX7_askOnline 57 = .ok (.iconst 2, 1) := by decide +kernel
theorem dX7_askOnline_58 : decode cX7_askOnline 58 = .ok (.invokevirtual 79, 3) := by decide +kernel
theorem dX7_askOnline_61 : decode cX7_askOnline 61 = .ok (.aload_n 0, 1) := by decide +kernel
theorem dX7_askOnline_62 : decode cX7_askOnline 62 = .ok (.iload_n 2, 1) := by decide +kernel
theorem dX7_askOnline_63 : decode cX7_askOnline 63 = .ok (.iconst 0, 1) := by decide +kernel
theorem dX7_askOnline_64 : decode cX7_askOnline 64 = .ok (.invokevirtual 69, 3) := by decide +kernel
theorem dX7_askOnline_67 : decode cX7_askOnline 67 = .ok (.if_icmp .eq 5, 3) := by decide +kernel
theorem dX7_askOnline_70 : decode cX7_askOnline 70 = .ok (.iconst 4, 1) := by decide +kernel
theorem dX7_askOnline_71 : decode cX7_askOnline 71 = .ok (.ireturn, 1) := by decide +kernel
theorem dX7_askOnline_72 : decode cX7_askOnline 72 = .ok (.aload_n 0, 1) := by decide +kernel
theorem dX7_askOnline_73 : decode cX7_askOnline 73 = .ok (.iload_n 2, 1) := by decide +kernel
theorem dX7_askOnline_74 : decode cX7_askOnline 74 = .ok (.bipush 9, 2) := by decide +kernel
theorem dX7_askOnline_76 : decode cX7_askOnline 76 = .ok (.invokevirtual 69, 3) := by decide +kernel
theorem dX7_askOnline_79 : decode cX7_askOnline 79 = .ok (.istore_n 3, 1) := by decide +kernel
theorem dX7_askOnline_80 : decode cX7_askOnline 80 = .ok (.aload_n 0, 1) := by decide +kernel
theorem dX7_askOnline_81 : decode cX7_askOnline 81 = .ok (.iload_n 2, 1) := by decide +kernel
theorem dX7_askOnline_82 : decode cX7_askOnline 82 = .ok (.iconst 5, 1) := by decide +kernel
theorem dX7_askOnline_83 : decode cX7_askOnline 83 = .ok (.invokevirtual 69, 3) := by decide +kernel
theorem dX7_askOnline_86 : decode cX7_askOnline 86 = .ok (.iconst 1, 1) := by decide +kernel
theorem dX7_askOnline_87 : decode cX7_askOnline 87 = .ok (.if_icmp .ne 7, 3) := by decide +kernel
theorem dX7_askOnline_90 : decode cX7_askOnline 90 = .ok (.iconst 1, 1) := by decide +kernel
theorem dX7_askOnline_91 : decode cX7_askOnline 91 = .ok (.goto 4, 3) := by decide +kernel
theorem dX7_askOnline_94 : decode cX7_askOnline 94 = .ok (.iconst 0, 1) := by decide +kernel
theorem dX7_askOnline_95 : decode cX7_askOnline 95 = .ok (.istore 4, 2) := by decide +kernel
theorem dX7_askOnline_97 : decode cX7_askOnline 97 = .ok (.iload 4, 2) := by decide +kernel
theorem dX7_askOnline_99 : decode cX7_askOnline 99 = .ok (.ifCond .eq 28, 3) := by decide +kernel
theorem dX7_askOnline_102 : decode cX7_askOnline 102 = .ok (.iload_n 3, 1) := by decide +kernel
theorem dX7_askOnline_103 : decode cX7_askOnline 103 = .ok (.iconst (-1), 1) := by decide +kernel
theorem dX7_askOnline_104 : decode cX7_askOnline 104 = .ok (.if_icmp .eq 8, 3) := by decide +kernel
theorem dX7_askOnline_107 : decode cX7_askOnline 107 = .ok (.iload_n 3, 1) := by decide +kernel
theorem dX7_askOnline_108 : decode cX7_askOnline 108 = .ok (.iload_n 1, 1) := by decide +kernel
theorem dX7_askOnline_109 : decode cX7_askOnline 109 = .ok (.if_icmp .ne 18, 3) := by decide +kernel
theorem dX7_askOnline_112 : decode cX7_askOnline 112 = .ok (.aload_n 0, 1) := by decide +kernel
theorem dX7_askOnline_113 : decode cX7_askOnline 113 = .ok (.getfield 7, 3) := by decide +kernel
theorem dX7_askOnline_116 : decode cX7_askOnline 116 = .ok (.bipush 60, 2) := by decide +kernel
theorem dX7_askOnline_118 : decode cX7_askOnline 118 = .ok (.iload_n 2, 1) := by decide +kernel
theorem dX7_askOnline_119 : decode cX7_askOnline 119 = .ok (.imul, 1) := by decide +kernel
theorem dX7_askOnline_120 : decode cX7_askOnline 120 = .ok (.bipush 9, 2) := by decide +kernel
theorem dX7_askOnline_122 : decode cX7_askOnline 122 = .ok (.iadd, 1) := by decide +kernel
theorem dX7_askOnline_123 : decode cX7_askOnline 123 = .ok (.iload_n 1, 1) := by decide +kernel
theorem dX7_askOnline_124 : decode cX7_askOnline 124 = .ok (.iastore, 1) := by decide +kernel
theorem dX7_askOnline_125 : decode cX7_askOnline 125 = .ok (.iconst 5, 1) := by decide +kernel
theorem dX7_askOnline_126 : decode cX7_askOnline 126 = .ok (.ireturn, 1) := by decide +kernel
theorem dX7_askOnline_127 : decode cX7_askOnline 127 = .ok (.aload_n 0, 1) := by decide +kernel
theorem dX7_askOnline_128 : decode cX7_askOnline 128 = .ok (.iload_n 1, 1) := by decide +kernel
theorem dX7_askOnline_129 : decode cX7_askOnline 129 = .ok (.iload_n 2, 1) := by decide +kernel
theorem dX7_askOnline_130 : decode cX7_askOnline 130 = .ok (.invokevirtual 123, 3) := by decide +kernel
theorem dX7_askOnline_133 : decode cX7_askOnline 133 = .ok (.iload 4, 2) := by decide +kernel
theorem dX7_askOnline_135 : decode cX7_askOnline 135 = .ok (.ifCond .eq 22, 3) := by decide +kernel
theorem dX7_askOnline_138 : decode cX7_askOnline 138 = .ok (.aload_n 0, 1) := by decide +kernel
theorem dX7_askOnline_139 : decode cX7_askOnline 139 = .ok (.iload_n 3, 1) := by decide +kernel
theorem dX7_askOnline_140 : decode cX7_askOnline 140 = .ok (.iload_n 2, 1) := by decide +kernel
theorem dX7_askOnline_141 : decode cX7_askOnline 141 = .ok (.invokevirtual 123, 3) := by decide +kernel
theorem dX7_askOnline_144 : decode cX7_askOnline 144 = .ok (.aload_n 0, 1) := by decide +kernel
theorem dX7_askOnline_145 : decode cX7_askOnline 145 = .ok (.getfield 7, 3) := by decide +kernel
theorem dX7_askOnline_148 : decode cX7_askOnline 148 = .ok (.bipush 60, 2) := by decide +kernel
theorem dX7_askOnline_150 : decode cX7_askOnline 150 = .ok (.iload_n 2, 1) := by decide +kernel
theorem dX7_askOnline_151 : decode cX7_askOnline 151 = .ok (.imul, 1) := by decide +kernel
theorem dX7_askOnline_152 : decode cX7_askOnline 152 = .ok (.bipush 9, 2) := by decide +kernel
theorem dX7_askOnline_154 : decode cX7_askOnline 154 = .ok (.iadd, 1) := by decide +kernel
theorem dX7_askOnline_155 : decode cX7_askOnline 155 = .ok (.iconst (-1), 1) := by decide +kernel
theorem dX7_askOnline_156 : decode cX7_askOnline 156 = .ok (.iastore, 1) := by decide +kernel
theorem dX7_askOnline_157 : decode cX7_askOnline 157 = .ok (.iconst 0, 1) := by decide +kernel
theorem dX7_askOnline_158 : decode cX7_askOnline 158 = .ok (.ireturn, 1) := by decide +kernel
set_option maxRecDepth 20000 in
theorem ggX7_askAlone_X7_ofDoor : GoodIn wsX7_askAlone wsX7_ofDoor := goodIn_r _ [6, 1, 22, 23, 24, 25, 26, 27, 28, 29, 30, 31, 32, 33, 34, 35, 36] (by decide +kernel) (by decide +kernel)
set_option maxRecDepth 20000 in
theorem gX7_askAlone_X7_ofDoor : GoodIn wsX7_askAlone (wsV RX7 69 RX7 yX7_ofDoor wsX7_ofDoor) := goodIn_app (goodIn_of _ (by decide +kernel)) ggX7_askAlone_X7_ofDoor
set_option maxRecDepth 20000 in
theorem ggX7_askAlone_X7_levelOf : GoodIn wsX7_askAlone wsX7_levelOf := goodIn_r _ [10, 11, 12, 13, 5, 14, 1, 15, 16, 17, 2, 3, 4, 6, 22, 23, 24, 25, 26, 27, 28, 29, 30, 31, 32, 33, 34, 35, 36] (by decide +kernel) (by decide +kernel)
set_option maxRecDepth 20000 in
theorem gX7_askAlone_X7_levelOf : GoodIn wsX7_askAlone (wsV RX7 126 RX7 yX7_levelOf wsX7_levelOf) := goodIn_app (goodIn_of _ (by decide +kernel)) ggX7_askAlone_X7_levelOf
set_option maxRecDepth 20000 in
theorem ggX7_askAlone_X7_pass : GoodIn wsX7_askAlone wsX7_pass := goodIn_r _ [21, 1, 22, 23, 24, 25, 26, 27, 28, 29, 30, 31, 32, 33, 34, 35, 36] (by decide +kernel) (by decide +kernel)
set_option maxRecDepth 20000 in
theorem gX7_askAlone_X7_pass : GoodIn wsX7_askAlone (wsV RX7 119 RX7 yX7_pass wsX7_pass) := goodIn_app (goodIn_of _ (by decide +kernel)) ggX7_askAlone_X7_pass
theorem dX7_askAlone_0 : decode cX7_askAlone 0 = .ok (.aload_n 0, 1) := by decide +kernel
theorem dX7_askAlone_1 : decode cX7_askAlone 1 = .ok (.iload_n 2, 1) := by decide +kernel
theorem dX7_askAlone_2 : decode cX7_askAlone 2 = .ok (.iconst 1, 1) := by decide +kernel
theorem dX7_askAlone_3 : decode cX7_askAlone 3 = .ok (.invokevirtual 69, 3) := by decide +kernel
theorem dX7_askAlone_6 : decode cX7_askAlone 6 = .ok (.ifCond .eq 39, 3) := by decide +kernel
theorem dX7_askAlone_9 : decode cX7_askAlone 9 = .ok (.aload_n 0, 1) := by decide +kernel
theorem dX7_askAlone_10 : decode cX7_askAlone 10 = .ok (.iload_n 2, 1) := by decide +kernel
theorem dX7_askAlone_11 : decode cX7_askAlone 11 = .ok (.bipush 10, 2) := by decide +kernel
theorem dX7_askAlone_13 : decode cX7_askAlone 13 = .ok (.invokevirtual 69, 3) := by decide +kernel
theorem dX7_askAlone_16 : decode cX7_askAlone 16 = .ok (.iload_n 1, 1) := by decide +kernel
theorem dX7_askAlone_17 : decode cX7_askAlone 17 = .ok (.ishr, 1) := by decide +kernel
theorem dX7_askAlone_18 : decode cX7_askAlone 18 = .ok (.iconst 1, 1) := by decide +kernel
theorem dX7_askAlone_19 : decode cX7_askAlone 19 = .ok (.iand, 1) := by decide +kernel
theorem dX7_askAlone_20 : decode cX7_askAlone 20 = .ok (.iconst 1, 1) := by decide +kernel
theorem dX7_askAlone_21 : decode cX7_askAlone 21 = .ok (.if_icmp .ne 5, 3) := by decide +kernel
theorem dX7_askAlone_24 : decode cX7_askAlone 24 = .ok (.iconst 2, 1) := by decide +kernel
theorem dX7_askAlone_25 : decode cX7_askAlone 25 = .ok (.ireturn, 1) := by decide +kernel
theorem dX7_askAlone_26 : decode cX7_askAlone 26 = .ok (.aload_n 0, 1) := by decide +kernel
theorem dX7_askAlone_27 : decode cX7_askAlone 27 = .ok (.iload_n 2, 1) := by decide +kernel
theorem dX7_askAlone_28 : decode cX7_askAlone 28 = .ok (.bipush 11, 2) := by decide +kernel
theorem dX7_askAlone_30 : decode cX7_askAlone 30 = .ok (.iload_n 1, 1) := by decide +kernel
theorem dX7_askAlone_31 : decode cX7_askAlone 31 = .ok (.iadd, 1) := by decide +kernel
theorem dX7_askAlone_32 : decode cX7_askAlone 32 = .ok (.invokevirtual 69, 3) := by decide +kernel
theorem dX7_askAlone_35 : decode cX7_askAlone 35 = .ok (.aload_n 0, 1) := by decide +kernel
theorem dX7_askAlone_36 : decode cX7_askAlone 36 = .ok (.iload_n 2, 1) := by decide +kernel
theorem dX7_askAlone_37 : decode cX7_askAlone 37 = .ok (.invokevirtual 126, 3) := by decide +kernel
theorem dX7_askAlone_40 : decode cX7_askAlone 40 = .ok (.if_icmp .ge 5, 3) := by decide +kernel
theorem dX7_askAlone_43 : decode cX7_askAlone 43 = .ok (.iconst 3, 1) := by decide +kernel
theorem dX7_askAlone_44 : decode cX7_askAlone 44 = .ok (.ireturn, 1) := by decide +kernel
theorem dX7_askAlone_45 : decode cX7_askAlone 45 = .ok (.aload_n 0, 1) := by decide +kernel
theorem dX7_askAlone_46 : decode cX7_askAlone 46 = .ok (.iload_n 2, 1) := by decide +kernel
theorem dX7_askAlone_47 : decode cX7_askAlone 47 = .ok (.bipush 19, 2) := by decide +kernel
theorem dX7_askAlone_49 : decode cX7_askAlone 49 = .ok (.invokevirtual 69, 3) := by decide +kernel
theorem dX7_askAlone_52 : decode cX7_askAlone 52 = .ok (.istore_n 3, 1) := by decide +kernel
theorem dX7_askAlone_53 : decode cX7_askAlone 53 = .ok (.iload_n 3, 1) := by decide +kernel
theorem dX7_askAlone_54 : decode cX7_askAlone 54 = .ok (.bipush 20, 2) := by decide +kernel
theorem dX7_askAlone_56 : decode cX7_askAlone 56 = .ok (.if_icmp .ge 62, 3) := by decide +kernel
theorem dX7_askAlone_59 : decode cX7_askAlone 59 = .ok (.aload_n 0, 1) := by decide +kernel
theorem dX7_askAlone_60 : decode cX7_askAlone 60 = .ok (.getfield 7, 3) := by decide +kernel
theorem dX7_askAlone_63 : decode cX7_askAlone 63 = .ok (.bipush 60, 2) := by decide +kernel
theorem dX7_askAlone_65 : decode cX7_askAlone 65 = .ok (.iload_n 2, 1) := by decide +kernel
theorem dX7_askAlone_66 : decode cX7_askAlone 66 = .ok (.imul, 1) := by decide +kernel
theorem dX7_askAlone_67 : decode cX7_askAlone 67 = .ok (.bipush 20, 2) := by decide +kernel
theorem dX7_askAlone_69 : decode cX7_askAlone 69 = .ok (.iadd, 1) := by decide +kernel
theorem dX7_askAlone_70 : decode cX7_askAlone 70 = .ok (.iconst 2, 1) := by decide +kernel
theorem dX7_askAlone_71 : decode cX7_askAlone 71 = .ok (.iload_n 3, 1) := by decide +kernel
theorem dX7_askAlone_72 : decode cX7_askAlone 72 = .ok (.imul, 1) := by decide +kernel
theorem dX7_askAlone_73 : decode cX7_askAlone 73 = .ok (.iadd, 1) := by decide +kernel
theorem dX7_askAlone_74 : decode cX7_askAlone 74 = .ok (.aload_n 0, 1) := by decide +kernel
theorem dX7_askAlone_75 : decode cX7_askAlone 75 = .ok (.getfield 7, 3) := by decide +kernel
theorem dX7_askAlone_78 : decode cX7_askAlone 78 = .ok (.sipush 528, 3) := by decide +kernel
theorem dX7_askAlone_81 : decode cX7_askAlone 81 = .ok (.iaload, 1) := by decide +kernel
theorem dX7_askAlone_82 : decode cX7_askAlone 82 = .ok (.iastore, 1) := by decide +kernel
theorem dX7_askAlone_83 : decode cX7_askAlone 83 = .ok (.aload_n 0, 1) := by decide +kernel
theorem dX7_askAlone_84 : decode cX7_askAlone 84 = .ok (.getfield 7, 3) := by decide +kernel
theorem dX7_askAlone_87 : decode cX7_askAlone 87 = .ok (.bipush 60, 2) := by decide +kernel
theorem dX7_askAlone_89 : decode cX7_askAlone 89 = .ok (.iload_n 2, 1) := by decide +kernel
theorem dX7_askAlone_90 : decode cX7_askAlone 90 = .ok (.imul, 1) := by decide +kernel
theorem dX7_askAlone_91 : decode cX7_askAlone 91 = .ok (.bipush 20, 2) := by decide +kernel
theorem dX7_askAlone_93 : decode cX7_askAlone 93 = .ok (.iadd, 1) := by decide +kernel
theorem dX7_askAlone_94 : decode cX7_askAlone 94 = .ok (.iconst 2, 1) := by decide +kernel
theorem dX7_askAlone_95 : decode cX7_askAlone 95 = .ok (.iload_n 3, 1) := by decide +kernel
theorem dX7_askAlone_96 : decode cX7_askAlone 96 = .ok (.imul, 1) := by decide +kernel
theorem dX7_askAlone_97 : decode cX7_askAlone 97 = .ok (.iadd, 1) := by decide +kernel
theorem dX7_askAlone_98 : decode cX7_askAlone 98 = .ok (.iconst 1, 1) := by decide +kernel
theorem dX7_askAlone_99 : decode cX7_askAlone 99 = .ok (.iadd, 1) := by decide +kernel
theorem dX7_askAlone_100 : decode cX7_askAlone 100 = .ok (.iload_n 1, 1) := by decide +kernel
theorem dX7_askAlone_101 : decode cX7_askAlone 101 = .ok (.iastore, 1) := by decide +kernel
theorem dX7_askAlone_102 : decode cX7_askAlone 102 = .ok (.aload_n 0, 1) := by decide +kernel
theorem dX7_askAlone_103 : decode cX7_askAlone 103 = .ok (.getfield 7, 3) := by decide +kernel
theorem dX7_askAlone_106 : decode cX7_askAlone 106 = .ok (.bipush 60, 2) := by decide +kernel
theorem dX7_askAlone_108 : decode cX7_askAlone 108 = .ok (.iload_n 2, 1) := by decide +kernel
theorem dX7_askAlone_109 : decode cX7_askAlone 109 = .ok (.imul, 1) := by decide +kernel
theorem dX7_askAlone_110 : decode cX7_askAlone 110 = .ok (.bipush 19, 2) := by decide +kernel
theorem dX7_askAlone_112 : decode cX7_askAlone 112 = .ok (.iadd, 1) := by decide +kernel
theorem dX7_askAlone_113 : decode cX7_askAlone 113 = .ok (.dup2, 1) := by decide +kernel
theorem dX7_askAlone_114 : decode cX7_askAlone 114 = .ok (.iaload, 1) := by decide +kernel
theorem dX7_askAlone_115 : decode cX7_askAlone 115 = .ok (.iconst 1, 1) := by decide +kernel
theorem dX7_askAlone_116 : decode cX7_askAlone 116 = .ok (.iadd, 1) := by decide +kernel
theorem dX7_askAlone_117 : decode cX7_askAlone 117 = .ok (.iastore, 1) := by decide +kernel
theorem dX7_askAlone_118 : decode cX7_askAlone 118 = .ok (.aload_n 0, 1) := by decide +kernel
theorem dX7_askAlone_119 : decode cX7_askAlone 119 = .ok (.iload_n 1, 1) := by decide +kernel
theorem dX7_askAlone_120 : decode cX7_askAlone 120 = .ok (.iload_n 2, 1) := by decide +kernel
theorem dX7_askAlone_121 : decode cX7_askAlone 121 = .ok (.invokevirtual 119, 3) := by decide +kernel
theorem dX7_askAlone_124 : decode cX7_askAlone 124 = .ok (.iconst 0, 1) := by decide +kernel
theorem dX7_askAlone_125 : decode cX7_askAlone 125 = .ok (.ireturn, 1) := by decide +kernel
set_option maxRecDepth 20000 in
theorem ggX7_ask_X7_isBadge : GoodIn wsX7_ask wsX7_isBadge := goodIn_r _ [6, 1, 7, 8, 5, 9, 54, 55, 56, 57, 58, 59, 60, 61, 62, 63, 64, 65, 66, 67, 68] (by decide +kernel) (by decide +kernel)
set_option maxRecDepth 20000 in
theorem gX7_ask_X7_isBadge : GoodIn wsX7_ask (wsV RX7 73 RX7 yX7_isBadge wsX7_isBadge) := goodIn_app (goodIn_of _ (by decide +kernel)) ggX7_ask_X7_isBadge
set_option maxRecDepth 20000 in
theorem ggX7_ask_X7_isDoor : GoodIn wsX7_ask wsX7_isDoor := goodIn_r _ [13, 1, 7, 8, 5, 9, 54, 55, 56, 57, 58, 59, 60, 61, 62, 63, 64, 65, 66, 67, 68] (by decide +kernel) (by decide +kernel)
set_option maxRecDepth 20000 in
theorem gX7_ask_X7_isDoor : GoodIn wsX7_ask (wsV RX7 66 RX7 yX7_isDoor wsX7_isDoor) := goodIn_app (goodIn_of _ (by decide +kernel)) ggX7_ask_X7_isDoor
set_option maxRecDepth 20000 in
theorem ggX7_ask_X7_in : GoodIn wsX7_ask wsX7_in := goodIn_r _ [9] (by decide +kernel) (by decide +kernel)
set_option maxRecDepth 20000 in
theorem gX7_ask_X7_in : GoodIn wsX7_ask (va_wsS RX7 56 yX7_in wsX7_in) := goodIn_app (goodIn_of _ (by decide +kernel)) ggX7_ask_X7_in
set_option maxRecDepth 20000 in
theorem ggX7_ask_X7_ofDoor : GoodIn wsX7_ask wsX7_ofDoor := goodIn_r _ [17, 1, 54, 55, 56, 57, 58, 59, 60, 61, 62, 63, 64, 65, 66, 67, 68] (by decide +kernel) (by decide +kernel)
set_option maxRecDepth 20000 in
theorem gX7_ask_X7_ofDoor : GoodIn wsX7_ask (wsV RX7 69 RX7 yX7_ofDoor wsX7_ofDoor) := goodIn_app (goodIn_of _ (by decide +kernel)) ggX7_ask_X7_ofDoor
set_option maxRecDepth 20000 in
theorem ggX7_ask_X7_isOpen : GoodIn wsX7_ask wsX7_isOpen := goodIn_r _ [21, 1, 14, 15, 16, 5, 17, 54, 55, 56, 57, 58, 59, 60, 61, 62, 63, 64, 65, 66, 67, 68] (by decide +kernel) (by decide +kernel)
set_option maxRecDepth 20000 in
theorem gX7_ask_X7_isOpen : GoodIn wsX7_ask (wsV RX7 129 RX7 yX7_isOpen wsX7_isOpen) := goodIn_app (goodIn_of _ (by decide +kernel)) ggX7_ask_X7_isOpen
set_option maxRecDepth 20000 in
theorem ggX7_ask_X7_askOnline : GoodIn wsX7_ask wsX7_askOnline := goodIn_r _ [25, 1, 14, 15, 16, 5, 17, 26, 27, 28, 29, 30, 31, 32, 33, 34, 35, 36, 37, 38, 39, 40, 41, 42, 43, 44, 45, 46, 47, 48, 49, 7, 8, 9, 54, 55, 56, 57, 58, 59, 60, 61, 62, 63, 64, 65, 66, 67, 68] (by decide +kernel) (by decide +kernel)
set_option maxRecDepth 20000 in
theorem gX7_ask_X7_askOnline : GoodIn wsX7_ask (wsV RX7 132 RX7 yX7_askOnline wsX7_askOnline) := goodIn_app (goodIn_of _ (by decide +kernel)) ggX7_ask_X7_askOnline
set_option maxRecDepth 20000 in
theorem ggX7_ask_X7_askAlone : GoodIn wsX7_ask wsX7_askAlone := goodIn_r _ [53, 1, 14, 15, 16, 5, 17, 42, 43, 44, 45, 46, 47, 48, 49, 7, 8, 9, 38, 39, 40, 41, 54, 55, 56, 57, 58, 59, 60, 61, 62, 63, 64, 65, 66, 67, 68] (by decide +kernel) (by decide +kernel)
set_option maxRecDepth 20000 in
theorem gX7_ask_X7_askAlone : GoodIn wsX7_ask (wsV RX7 135 RX7 yX7_askAlone wsX7_askAlone) := goodIn_app (goodIn_of _ (by decide +kernel)) ggX7_ask_X7_askAlone
theorem dX7_ask_0 : decode cX7_ask 0 = .ok (.aload_n 0, 1) := by decide +kernel
theorem dX7_ask_1 : decode cX7_ask 1 = .ok (.iload_n 1, 1) := by decide +kernel
theorem dX7_ask_2 : decode cX7_ask 2 = .ok (.invokevirtual 73, 3) := by decide +kernel
theorem dX7_ask_5 : decode cX7_ask 5 = .ok (.ifCond .eq 20, 3) := by decide +kernel
theorem dX7_ask_8 : decode cX7_ask 8 = .ok (.aload_n 0, 1) := by decide +kernel
theorem dX7_ask_9 : decode cX7_ask 9 = .ok (.iload_n 2, 1) := by decide +kernel
theorem dX7_ask_10 : decode cX7_ask 10 = .ok (.invokevirtual 66, 3) := by decide +kernel
theorem dX7_ask_13 : decode cX7_ask 13 = .ok (.ifCond .eq 12, 3) := by decide +kernel
theorem dX7_ask_16 : decode cX7_ask 16 = .ok (.iload_n 3, 1) := by decide +kernel
theorem dX7_ask_17 : decode cX7_ask 17 = .ok (.iconst 0, 1) := by decide +kernel
theorem dX7_ask_18 : decode cX7_ask 18 = .ok (.iconst 1, 1) := by decide +kernel
theorem dX7_ask_19 : decode cX7_ask 19 = .ok (.invokestatic 56, 3) := by decide +kernel
theorem dX7_ask_22 : decode cX7_ask 22 = .ok (.ifCond .ne 6, 3) := by decide +kernel
theorem dX7_ask_25 : decode cX7_ask 25 = .ok (.bipush (-2), 2) := by decide +kernel
theorem dX7_ask_27 : decode cX7_ask 27 = .ok (.ireturn, 1) := by decide +kernel
theorem dX7_ask_28 : decode cX7_ask 28 = .ok (.aload_n 0, 1) := by decide +kernel
theorem dX7_ask_29 : decode cX7_ask 29 = .ok (.aload_n 0, 1) := by decide +kernel
theorem dX7_ask_30 : decode cX7_ask 30 = .ok (.iload_n 2, 1) := by decide +kernel
theorem dX7_ask_31 : decode cX7_ask 31 = .ok (.bipush 6, 2) := by decide +kernel
theorem dX7_ask_33 : decode cX7_ask 33 = .ok (.invokevirtual 69, 3) := by decide +kernel
theorem dX7_ask_36 : decode cX7_ask 36 = .ok (.invokevirtual 129, 3) := by decide +kernel
theorem dX7_ask_39 : decode cX7_ask 39 = .ok (.ifCond .eq 7, 3) := by decide +kernel
theorem dX7_ask_42 : decode cX7_ask 42 = .ok (.iconst 1, 1) := by decide +kernel
theorem dX7_ask_43 : decode cX7_ask 43 = .ok (.goto 29, 3) := by decide +kernel
theorem dX7_ask_46 : decode cX7_ask 46 = .ok (.aload_n 0, 1) := by decide +kernel
theorem dX7_ask_47 : decode cX7_ask 47 = .ok (.iload_n 2, 1) := by decide +kernel
theorem dX7_ask_48 : decode cX7_ask 48 = .ok (.bipush 7, 2) := by decide +kernel
theorem dX7_ask_50 : decode cX7_ask 50 = .ok (.invokevirtual 69, 3) := by decide +kernel
theorem dX7_ask_53 : decode cX7_ask 53 = .ok (.iconst 1, 1) := by decide +kernel
theorem dX7_ask_54 : decode cX7_ask 54 = .ok (.if_icmp .ne 12, 3) := by decide +kernel
theorem dX7_ask_57 : decode cX7_ask 57 = .ok (.aload_n 0, 1) := by decide +kernel
theorem dX7_ask_58 : decode cX7_ask 58 = .ok (.iload_n 1, 1) := by decide +kernel
theorem dX7_ask_59 : decode cX7_ask 59 = .ok (.iload_n 2, 1) := by decide +kernel
theorem dX7_ask_60 : decode cX7_ask 60 = .ok (.invokevirtual 132, 3) := by decide +kernel
theorem dX7_ask_63 : decode cX7_ask 63 = .ok (.goto 9, 3) := by decide +kernel
theorem dX7_ask_66 : decode cX7_ask 66 = .ok (.aload_n 0, 1) := by decide +kernel
theorem dX7_ask_67 : decode cX7_ask 67 = .ok (.iload_n 1, 1) := by decide +kernel
theorem dX7_ask_68 : decode cX7_ask 68 = .ok (.iload_n 2, 1) := by decide +kernel
theorem dX7_ask_69 : decode cX7_ask 69 = .ok (.invokevirtual 135, 3) := by decide +kernel
theorem dX7_ask_72 : decode cX7_ask 72 = .ok (.istore 4, 2) := by decide +kernel
theorem dX7_ask_74 : decode cX7_ask 74 = .ok (.iload 4, 2) := by decide +kernel
theorem dX7_ask_76 : decode cX7_ask 76 = .ok (.ifCond .le 21, 3) := by decide +kernel
theorem dX7_ask_79 : decode cX7_ask 79 = .ok (.aload_n 0, 1) := by decide +kernel
theorem dX7_ask_80 : decode cX7_ask 80 = .ok (.getfield 7, 3) := by decide +kernel
theorem dX7_ask_83 : decode cX7_ask 83 = .ok (.sipush 534, 3) := by decide +kernel
theorem dX7_ask_86 : decode cX7_ask 86 = .ok (.iload 4, 2) := by decide +kernel
theorem dX7_ask_88 : decode cX7_ask 88 = .ok (.iadd, 1) := by decide +kernel
theorem dX7_ask_89 : decode cX7_ask 89 = .ok (.dup2, 1) := by decide +kernel
theorem dX7_ask_90 : decode cX7_ask 90 = .ok (.iaload, 1) := by decide +kernel
theorem dX7_ask_91 : decode cX7_ask 91 = .ok (.iconst 1, 1) := by decide +kernel
theorem dX7_ask_92 : decode cX7_ask 92 = .ok (.iadd, 1) := by decide +kernel
theorem dX7_ask_93 : decode cX7_ask 93 = .ok (.iastore, 1) := by decide +kernel
theorem dX7_ask_94 : decode cX7_ask 94 = .ok (.goto 34, 3) := by decide +kernel
theorem dX7_ask_97 : decode cX7_ask 97 = .ok (.aload_n 0, 1) := by decide +kernel
theorem dX7_ask_98 : decode cX7_ask 98 = .ok (.getfield 7, 3) := by decide +kernel
theorem dX7_ask_101 : decode cX7_ask 101 = .ok (.sipush 533, 3) := by decide +kernel
theorem dX7_ask_104 : decode cX7_ask 104 = .ok (.dup2, 1) := by decide +kernel
theorem dX7_ask_105 : decode cX7_ask 105 = .ok (.iaload, 1) := by decide +kernel
theorem dX7_ask_106 : decode cX7_ask 106 = .ok (.iload_n 3, 1) := by decide +kernel
theorem dX7_ask_107 : decode cX7_ask 107 = .ok (.iadd, 1) := by decide +kernel
theorem dX7_ask_108 : decode cX7_ask 108 = .ok (.iastore, 1) := by decide +kernel
theorem dX7_ask_109 : decode cX7_ask 109 = .ok (.aload_n 0, 1) := by decide +kernel
theorem dX7_ask_110 : decode cX7_ask 110 = .ok (.getfield 7, 3) := by decide +kernel
theorem dX7_ask_113 : decode cX7_ask 113 = .ok (.sipush 480, 3) := by decide +kernel
theorem dX7_ask_116 : decode cX7_ask 116 = .ok (.bipush 6, 2) := by decide +kernel
theorem dX7_ask_118 : decode cX7_ask 118 = .ok (.iload_n 1, 1) := by decide +kernel
theorem dX7_ask_119 : decode cX7_ask 119 = .ok (.imul, 1) := by decide +kernel
theorem dX7_ask_120 : decode cX7_ask 120 = .ok (.iadd, 1) := by decide +kernel
theorem dX7_ask_121 : decode cX7_ask 121 = .ok (.iconst 4, 1) := by decide +kernel
theorem dX7_ask_122 : decode cX7_ask 122 = .ok (.iadd, 1) := by decide +kernel
theorem dX7_ask_123 : decode cX7_ask 123 = .ok (.dup2, 1) := by decide +kernel
theorem dX7_ask_124 : decode cX7_ask 124 = .ok (.iaload, 1) := by decide +kernel
theorem dX7_ask_125 : decode cX7_ask 125 = .ok (.iload_n 3, 1) := by decide +kernel
theorem dX7_ask_126 : decode cX7_ask 126 = .ok (.iadd, 1) := by decide +kernel
theorem dX7_ask_127 : decode cX7_ask 127 = .ok (.iastore, 1) := by decide +kernel
theorem dX7_ask_128 : decode cX7_ask 128 = .ok (.iload 4, 2) := by decide +kernel
theorem dX7_ask_130 : decode cX7_ask 130 = .ok (.ireturn, 1) := by decide +kernel
set_option maxRecDepth 20000 in
theorem ggX7_wait_X7_in : GoodIn wsX7_wait wsX7_in := goodIn_r _ [5] (by decide +kernel) (by decide +kernel)
set_option maxRecDepth 20000 in
theorem gX7_wait_X7_in : GoodIn wsX7_wait (va_wsS RX7 56 yX7_in wsX7_in) := goodIn_app (goodIn_of _ (by decide +kernel)) ggX7_wait_X7_in
theorem dX7_wait_0 : decode cX7_wait 0 = .ok (.iload_n 1, 1) := by decide +kernel
theorem dX7_wait_1 : decode cX7_wait 1 = .ok (.iconst 1, 1) := by decide +kernel
theorem dX7_wait_2 : decode cX7_wait 2 = .ok (.bipush 99, 2) := by decide +kernel
theorem dX7_wait_4 : decode cX7_wait 4 = .ok (.invokestatic 56, 3) := by decide +kernel
theorem dX7_wait_7 : decode cX7_wait 7 = .ok (.ifCond .ne 6, 3) := by decide +kernel
theorem dX7_wait_10 : decode cX7_wait 10 = .ok (.bipush (-2), 2) := by decide +kernel
theorem dX7_wait_12 : decode cX7_wait 12 = .ok (.ireturn, 1) := by decide +kernel
theorem dX7_wait_13 : decode cX7_wait 13 = .ok (.aload_n 0, 1) := by decide +kernel
theorem dX7_wait_14 : decode cX7_wait 14 = .ok (.getfield 7, 3) := by decide +kernel
theorem dX7_wait_17 : decode cX7_wait 17 = .ok (.sipush 528, 3) := by decide +kernel
theorem dX7_wait_20 : decode cX7_wait 20 = .ok (.dup2, 1) := by decide +kernel
theorem dX7_wait_21 : decode cX7_wait 21 = .ok (.iaload, 1) := by decide +kernel
theorem dX7_wait_22 : decode cX7_wait 22 = .ok (.iload_n 1, 1) := by decide +kernel
theorem dX7_wait_23 : decode cX7_wait 23 = .ok (.iadd, 1) := by decide +kernel
theorem dX7_wait_24 : decode cX7_wait 24 = .ok (.iastore, 1) := by decide +kernel
theorem dX7_wait_25 : decode cX7_wait 25 = .ok (.iconst 0, 1) := by decide +kernel
theorem dX7_wait_26 : decode cX7_wait 26 = .ok (.istore_n 2, 1) := by decide +kernel
theorem dX7_wait_27 : decode cX7_wait 27 = .ok (.iload_n 2, 1) := by decide +kernel
theorem dX7_wait_28 : decode cX7_wait 28 = .ok (.aload_n 0, 1) := by decide +kernel
theorem dX7_wait_29 : decode cX7_wait 29 = .ok (.getfield 7, 3) := by decide +kernel
theorem dX7_wait_32 : decode cX7_wait 32 = .ok (.sipush 529, 3) := by decide +kernel
theorem dX7_wait_35 : decode cX7_wait 35 = .ok (.iaload, 1) := by decide +kernel
theorem dX7_wait_36 : decode cX7_wait 36 = .ok (.if_icmp .ge 22, 3) := by decide +kernel
theorem dX7_wait_39 : decode cX7_wait 39 = .ok (.aload_n 0, 1) := by decide +kernel
theorem dX7_wait_40 : decode cX7_wait 40 = .ok (.getfield 7, 3) := by decide +kernel
theorem dX7_wait_43 : decode cX7_wait 43 = .ok (.bipush 60, 2) := by decide +kernel
theorem dX7_wait_45 : decode cX7_wait 45 = .ok (.iload_n 2, 1) := by decide +kernel
theorem dX7_wait_46 : decode cX7_wait 46 = .ok (.imul, 1) := by decide +kernel
theorem dX7_wait_47 : decode cX7_wait 47 = .ok (.bipush 9, 2) := by decide +kernel
theorem dX7_wait_49 : decode cX7_wait 49 = .ok (.iadd, 1) := by decide +kernel
theorem dX7_wait_50 : decode cX7_wait 50 = .ok (.iconst (-1), 1) := by decide +kernel
theorem dX7_wait_51 : decode cX7_wait 51 = .ok (.iastore, 1) := by decide +kernel
theorem dX7_wait_52 : decode cX7_wait 52 = .ok (.iinc 2 1, 3) := by decide +kernel
theorem dX7_wait_55 : decode cX7_wait 55 = .ok (.goto (-28), 3) := by decide +kernel
theorem dX7_wait_58 : decode cX7_wait 58 = .ok (.aload_n 0, 1) := by decide +kernel
theorem dX7_wait_59 : decode cX7_wait 59 = .ok (.getfield 7, 3) := by decide +kernel
theorem dX7_wait_62 : decode cX7_wait 62 = .ok (.sipush 528, 3) := by decide +kernel
theorem dX7_wait_65 : decode cX7_wait 65 = .ok (.iaload, 1) := by decide +kernel
theorem dX7_wait_66 : decode cX7_wait 66 = .ok (.bipush 24, 2) := by decide +kernel
theorem dX7_wait_68 : decode cX7_wait 68 = .ok (.irem, 1) := by decide +kernel
theorem dX7_wait_69 : decode cX7_wait 69 = .ok (.ireturn, 1) := by decide +kernel
set_option maxRecDepth 20000 in
theorem ggX7_asks_X7_save : GoodIn wsX7_asks wsX7_save := goodIn_r _ [5, 6, 7, 8, 9, 4, 10, 80, 81, 82, 83, 84, 85, 86, 87, 88, 89, 90, 91, 92, 93, 94] (by decide +kernel) (by decide +kernel)
set_option maxRecDepth 20000 in
theorem gX7_asks_X7_save : GoodIn wsX7_asks (wsV RX7 93 RX7 yX7_save wsX7_save) := goodIn_app (goodIn_of _ (by decide +kernel)) ggX7_asks_X7_save
set_option maxRecDepth 20000 in
theorem ggX7_asks_X7_ask : GoodIn wsX7_asks wsX7_ask := goodIn_r _ [14, 6, 15, 16, 17, 4, 18, 19, 20, 21, 22, 23, 24, 25, 26, 27, 28, 29, 30, 31, 32, 33, 34, 35, 36, 37, 38, 39, 40, 41, 42, 43, 44, 45, 46, 47, 48, 49, 50, 51, 52, 53, 54, 55, 56, 57, 58, 59, 60, 61, 62, 63, 64, 65, 80, 81, 82, 83, 84, 85, 86, 87, 88, 89, 90, 91, 92, 93, 94] (by decide +kernel) (by decide +kernel)
set_option maxRecDepth 20000 in
theorem gX7_asks_X7_ask : GoodIn wsX7_asks (wsV RX7 138 RX7 yX7_ask wsX7_ask) := goodIn_app (goodIn_of _ (by decide +kernel)) ggX7_asks_X7_ask
set_option maxRecDepth 20000 in
theorem ggX7_asks_X7_finish : GoodIn wsX7_asks wsX7_finish := goodIn_r _ [69, 70, 71, 7, 72, 73, 4, 74, 75, 76, 77, 78, 79, 8, 9, 10, 80, 81, 82, 83, 84, 85, 86, 87, 88, 89, 90, 91, 92, 93, 94] (by decide +kernel) (by decide +kernel)
set_option maxRecDepth 20000 in
theorem gX7_asks_X7_finish : GoodIn wsX7_asks (wsV RX7 100 RX7 yX7_finish wsX7_finish) := goodIn_app (goodIn_of _ (by decide +kernel)) ggX7_asks_X7_finish
theorem dX7_asks_0 : decode cX7_asks 0 = .ok (.aload_n 0, 1) := by decide +kernel
theorem dX7_asks_1 : decode cX7_asks 1 = .ok (.invokevirtual 93, 3) := by decide +kernel
theorem dX7_asks_4 : decode cX7_asks 4 = .ok (.aload_n 0, 1) := by decide +kernel
theorem dX7_asks_5 : decode cX7_asks 5 = .ok (.aload_n 0, 1) := by decide +kernel
theorem dX7_asks_6 : decode cX7_asks 6 = .ok (.iload_n 1, 1) := by decide +kernel
theorem dX7_asks_7 : decode cX7_asks 7 = .ok (.iload_n 2, 1) := by decide +kernel
theorem dX7_asks_8 : decode cX7_asks 8 = .ok (.iload_n 3, 1) := by decide +kernel
theorem dX7_asks_9 : decode cX7_asks 9 = .ok (.invokevirtual 138, 3) := by decide +kernel
theorem dX7_asks_12 : decode cX7_asks 12 = .ok (.invokevirtual 100, 3) := by decide +kernel
theorem dX7_asks_15 : decode cX7_asks 15 = .ok (.ireturn, 1) := by decide +kernel
set_option maxRecDepth 20000 in
theorem ggX7_waits_X7_save : GoodIn wsX7_waits wsX7_save := goodIn_r _ [5, 6, 7, 8, 9, 4, 10, 32, 33, 34, 35, 36, 37, 38, 39, 40, 41, 42, 43, 44, 45, 46] (by decide +kernel) (by decide +kernel)
set_option maxRecDepth 20000 in
theorem gX7_waits_X7_save : GoodIn wsX7_waits (wsV RX7 93 RX7 yX7_save wsX7_save) := goodIn_app (goodIn_of _ (by decide +kernel)) ggX7_waits_X7_save
set_option maxRecDepth 20000 in
theorem ggX7_waits_X7_wait : GoodIn wsX7_waits wsX7_wait := goodIn_r _ [14, 6, 15, 16, 4, 17, 32, 33, 34, 35, 36, 37, 38, 39, 40, 41, 42, 43, 44, 45, 46] (by decide +kernel) (by decide +kernel)
set_option maxRecDepth 20000 in
theorem gX7_waits_X7_wait : GoodIn wsX7_waits (wsV RX7 142 RX7 yX7_wait wsX7_wait) := goodIn_app (goodIn_of _ (by decide +kernel)) ggX7_waits_X7_wait
set_option maxRecDepth 20000 in
theorem ggX7_waits_X7_finish : GoodIn wsX7_waits wsX7_finish := goodIn_r _ [21, 22, 23, 7, 24, 25, 4, 26, 27, 28, 29, 30, 31, 8, 9, 10, 32, 33, 34, 35, 36, 37, 38, 39, 40, 41, 42, 43, 44, 45, 46] (by decide +kernel) (by decide +kernel)
set_option maxRecDepth 20000 in
theorem gX7_waits_X7_finish : GoodIn wsX7_waits (wsV RX7 100 RX7 yX7_finish wsX7_finish) := goodIn_app (goodIn_of _ (by decide +kernel)) ggX7_waits_X7_finish
theorem dX7_waits_0 : decode cX7_waits 0 = .ok (.aload_n 0, 1) := by decide +kernel
theorem dX7_waits_1 : decode cX7_waits 1 = .ok (.invokevirtual 93, 3) := by decide +kernel
theorem dX7_waits_4 : decode cX7_waits 4 = .ok (.aload_n 0, 1) := by decide +kernel
theorem dX7_waits_5 : decode cX7_waits 5 = .ok (.aload_n 0, 1) := by decide +kernel
theorem dX7_waits_6 : decode cX7_waits 6 = .ok (.iload_n 1, 1) := by decide +kernel
theorem dX7_waits_7 : decode cX7_waits 7 = .ok (.invokevirtual 142, 3) := by decide +kernel
theorem dX7_waits_10 : decode cX7_waits 10 = .ok (.invokevirtual 100, 3) := by decide +kernel
theorem dX7_waits_13 : decode cX7_waits 13 = .ok (.ireturn, 1) := by decide +kernel
set_option maxRecDepth 20000 in
theorem ggX7_aboutDoor_X7_isOpen : GoodIn wsX7_aboutDoor wsX7_isOpen := goodIn_r _ [5, 6, 7, 8, 9, 4, 10, 11, 12, 13, 14, 15, 16, 17, 18, 19, 20, 21, 22, 23, 24, 25] (by decide +kernel) (by decide +kernel)
set_option maxRecDepth 20000 in
theorem gX7_aboutDoor_X7_isOpen : GoodIn wsX7_aboutDoor (wsV RX7 129 RX7 yX7_isOpen wsX7_isOpen) := goodIn_app (goodIn_of _ (by decide +kernel)) ggX7_aboutDoor_X7_isOpen
set_option maxRecDepth 20000 in
theorem ggX7_aboutDoor_X7_ofDoor : GoodIn wsX7_aboutDoor wsX7_ofDoor := goodIn_r _ [10, 6, 11, 12, 13, 14, 15, 16, 17, 18, 19, 20, 21, 22, 23, 24, 25] (by decide +kernel) (by decide +kernel)
set_option maxRecDepth 20000 in
theorem gX7_aboutDoor_X7_ofDoor : GoodIn wsX7_aboutDoor (wsV RX7 69 RX7 yX7_ofDoor wsX7_ofDoor) := goodIn_app (goodIn_of _ (by decide +kernel)) ggX7_aboutDoor_X7_ofDoor
theorem dX7_aboutDoor_0 : decode cX7_aboutDoor 0 = .ok (.iload_n 2, 1) := by decide +kernel
theorem dX7_aboutDoor_1 : decode cX7_aboutDoor 1 = .ok (.bipush 8, 2) := by decide +kernel
theorem dX7_aboutDoor_3 : decode cX7_aboutDoor 3 = .ok (.if_icmp .ne 19, 3) := by decide +kernel
theorem dX7_aboutDoor_6 : decode cX7_aboutDoor 6 = .ok (.aload_n 0, 1) := by decide +kernel
theorem dX7_aboutDoor_7 : decode cX7_aboutDoor 7 = .ok (.iload_n 1, 1) := by decide +kernel
theorem dX7_aboutDoor_8 : decode cX7_aboutDoor 8 = .ok (.invokevirtual 129, 3) := by decide +kernel
theorem dX7_aboutDoor_11 : decode cX7_aboutDoor 11 = .ok (.ifCond .eq 7, 3) := by decide +kernel
theorem dX7_aboutDoor_14 : decode cX7_aboutDoor 14 = .ok (.iconst 1, 1) := by decide +kernel
theorem dX7_aboutDoor_15 : decode cX7_aboutDoor 15 = .ok (.goto 29, 3) := by decide +kernel
theorem dX7_aboutDoor_18 : decode cX7_aboutDoor 18 = .ok (.iconst 0, 1) := by decide +kernel
theorem dX7_aboutDoor_19 : decode cX7_aboutDoor 19 = .ok (.goto 25, 3) := by decide +kernel
theorem dX7_aboutDoor_22 : decode cX7_aboutDoor 22 = .ok (.iload_n 2, 1) := by decide +kernel
theorem dX7_aboutDoor_23 : decode cX7_aboutDoor 23 = .ok (.bipush 10, 2) := by decide +kernel
theorem dX7_aboutDoor_25 : decode cX7_aboutDoor 25 = .ok (.if_icmp .ne 13, 3) := by decide +kernel
theorem dX7_aboutDoor_28 : decode cX7_aboutDoor 28 = .ok (.aload_n 0, 1) := by decide +kernel
theorem dX7_aboutDoor_29 : decode cX7_aboutDoor 29 = .ok (.iload_n 1, 1) := by decide +kernel
theorem dX7_aboutDoor_30 : decode cX7_aboutDoor 30 = .ok (.bipush 19, 2) := by decide +kernel
theorem dX7_aboutDoor_32 : decode cX7_aboutDoor 32 = .ok (.invokevirtual 69, 3) := by decide +kernel
theorem dX7_aboutDoor_35 : decode cX7_aboutDoor 35 = .ok (.goto 9, 3) := by decide +kernel
theorem dX7_aboutDoor_38 : decode cX7_aboutDoor 38 = .ok (.aload_n 0, 1) := by decide +kernel
theorem dX7_aboutDoor_39 : decode cX7_aboutDoor 39 = .ok (.iload_n 1, 1) := by decide +kernel
theorem dX7_aboutDoor_40 : decode cX7_aboutDoor 40 = .ok (.iload_n 2, 1) := by decide +kernel
theorem dX7_aboutDoor_41 : decode cX7_aboutDoor 41 = .ok (.invokevirtual 69, 3) := by decide +kernel
theorem dX7_aboutDoor_44 : decode cX7_aboutDoor 44 = .ok (.ireturn, 1) := by decide +kernel
set_option maxRecDepth 20000 in
theorem ggX7_of_X7_isDoor : GoodIn wsX7_of wsX7_isDoor := goodIn_r _ [5, 6, 7, 8, 4, 9, 27, 28, 29, 30, 31, 32, 33, 34, 35, 36, 37, 38, 39, 40, 41] (by decide +kernel) (by decide +kernel)
set_option maxRecDepth 20000 in
theorem gX7_of_X7_isDoor : GoodIn wsX7_of (wsV RX7 66 RX7 yX7_isDoor wsX7_isDoor) := goodIn_app (goodIn_of _ (by decide +kernel)) ggX7_of_X7_isDoor
set_option maxRecDepth 20000 in
theorem ggX7_of_X7_in : GoodIn wsX7_of wsX7_in := goodIn_r _ [9] (by decide +kernel) (by decide +kernel)
set_option maxRecDepth 20000 in
theorem gX7_of_X7_in : GoodIn wsX7_of (va_wsS RX7 56 yX7_in wsX7_in) := goodIn_app (goodIn_of _ (by decide +kernel)) ggX7_of_X7_in
set_option maxRecDepth 20000 in
theorem ggX7_of_X7_aboutDoor : GoodIn wsX7_of wsX7_aboutDoor := goodIn_r _ [13, 14, 15, 16, 4, 17, 6, 18, 19, 20, 21, 27, 28, 29, 30, 31, 32, 33, 34, 35, 36, 37, 38, 39, 40, 41] (by decide +kernel) (by decide +kernel)
set_option maxRecDepth 20000 in
theorem gX7_of_X7_aboutDoor : GoodIn wsX7_of (wsV RX7 145 RX7 yX7_aboutDoor wsX7_aboutDoor) := goodIn_app (goodIn_of _ (by decide +kernel)) ggX7_of_X7_aboutDoor
set_option maxRecDepth 20000 in
theorem ggX7_of_X7_refuse : GoodIn wsX7_of wsX7_refuse := goodIn_r _ [25, 26, 27, 28, 29, 30, 31, 32, 33, 34, 35, 36, 37, 38, 39, 40, 41] (by decide +kernel) (by decide +kernel)
set_option maxRecDepth 20000 in
theorem gX7_of_X7_refuse : GoodIn wsX7_of (wsV RX7 48 RX7 yX7_refuse wsX7_refuse) := goodIn_app (goodIn_of _ (by decide +kernel)) ggX7_of_X7_refuse
theorem dX7_of_0 : decode cX7_of 0 = .ok (.aload_n 0, 1) := by decide +kernel
theorem dX7_of_1 : decode cX7_of 1 = .ok (.iload_n 1, 1) := by decide +kernel
theorem dX7_of_2 : decode cX7_of 2 = .ok (.invokevirtual 66, 3) := by decide +kernel
theorem dX7_of_5 : decode cX7_of 5 = .ok (.ifCond .eq 22, 3) := by decide +kernel
theorem dX7_of_8 : decode cX7_of 8 = .ok (.iload_n 2, 1) := by decide +kernel
theorem dX7_of_9 : decode cX7_of 9 = .ok (.iconst 0, 1) := by decide +kernel
theorem dX7_of_10 : decode cX7_of 10 = .ok (.bipush 10, 2) := by decide +kernel
theorem dX7_of_12 : decode cX7_of 12 = .ok (.invokestatic 56, 3) := by decide +kernel
theorem dX7_of_15 : decode cX7_of 15 = .ok (.ifCond .eq 12, 3) := by decide +kernel
theorem dX7_of_18 : decode cX7_of 18 = .ok (.aload_n 0, 1) := by decide +kernel
theorem dX7_of_19 : decode cX7_of 19 = .ok (.iload_n 1, 1) := by decide +kernel
theorem dX7_of_20 : decode cX7_of 20 = .ok (.iload_n 2, 1) := by decide +kernel
theorem dX7_of_21 : decode cX7_of 21 = .ok (.invokevirtual 145, 3) := by decide +kernel
theorem dX7_of_24 : decode cX7_of 24 = .ok (.goto 9, 3) := by decide +kernel
theorem dX7_of_27 : decode cX7_of 27 = .ok (.aload_n 0, 1) := by decide +kernel
theorem dX7_of_28 : decode cX7_of 28 = .ok (.bipush (-2), 2) := by decide +kernel
theorem dX7_of_30 : decode cX7_of 30 = .ok (.invokevirtual 48, 3) := by decide +kernel
theorem dX7_of_33 : decode cX7_of 33 = .ok (.ireturn, 1) := by decide +kernel
set_option maxRecDepth 20000 in
theorem ggX7_about_X7_isBadge : GoodIn wsX7_about wsX7_isBadge := goodIn_r _ [5, 6, 7, 8, 4, 9, 19, 20, 21, 22, 23, 24, 25, 26, 27, 28, 29, 30, 31, 32, 33] (by decide +kernel) (by decide +kernel)
set_option maxRecDepth 20000 in
theorem gX7_about_X7_isBadge : GoodIn wsX7_about (wsV RX7 73 RX7 yX7_isBadge wsX7_isBadge) := goodIn_app (goodIn_of _ (by decide +kernel)) ggX7_about_X7_isBadge
set_option maxRecDepth 20000 in
theorem ggX7_about_X7_in : GoodIn wsX7_about wsX7_in := goodIn_r _ [9] (by decide +kernel) (by decide +kernel)
set_option maxRecDepth 20000 in
theorem gX7_about_X7_in : GoodIn wsX7_about (va_wsS RX7 56 yX7_in wsX7_in) := goodIn_app (goodIn_of _ (by decide +kernel)) ggX7_about_X7_in
set_option maxRecDepth 20000 in
theorem ggX7_about_X7_ofBadge : GoodIn wsX7_about wsX7_ofBadge := goodIn_r _ [13, 6, 19, 20, 21, 22, 23, 24, 25, 26, 27, 28, 29, 30, 31, 32, 33] (by decide +kernel) (by decide +kernel)
set_option maxRecDepth 20000 in
theorem gX7_about_X7_ofBadge : GoodIn wsX7_about (wsV RX7 79 RX7 yX7_ofBadge wsX7_ofBadge) := goodIn_app (goodIn_of _ (by decide +kernel)) ggX7_about_X7_ofBadge
set_option maxRecDepth 20000 in
theorem ggX7_about_X7_refuse : GoodIn wsX7_about wsX7_refuse := goodIn_r _ [17, 18, 19, 20, 21, 22, 23, 24, 25, 26, 27, 28, 29, 30, 31, 32, 33] (by decide +kernel) (by decide +kernel)
set_option maxRecDepth 20000 in
theorem gX7_about_X7_refuse : GoodIn wsX7_about (wsV RX7 48 RX7 yX7_refuse wsX7_refuse) := goodIn_app (goodIn_of _ (by decide +kernel)) ggX7_about_X7_refuse
theorem dX7_about_0 : decode cX7_about 0 = .ok (.aload_n 0, 1) := by decide +kernel
theorem dX7_about_1 : decode cX7_about 1 = .ok (.iload_n 1, 1) := by decide +kernel
theorem dX7_about_2 : decode cX7_about 2 = .ok (.invokevirtual 73, 3) := by decide +kernel
theorem dX7_about_5 : decode cX7_about 5 = .ok (.ifCond .eq 21, 3) := by decide +kernel
theorem dX7_about_8 : decode cX7_about 8 = .ok (.iload_n 2, 1) := by decide +kernel
theorem dX7_about_9 : decode cX7_about 9 = .ok (.iconst 0, 1) := by decide +kernel
theorem dX7_about_10 : decode cX7_about 10 = .ok (.iconst 5, 1) := by decide +kernel
theorem dX7_about_11 : decode cX7_about 11 = .ok (.invokestatic 56, 3) := by decide +kernel
theorem dX7_about_14 : decode cX7_about 14 = .ok (.ifCond .eq 12, 3) := by decide +kernel
theorem dX7_about_17 : decode cX7_about 17 = .ok (.aload_n 0, 1) := by decide +kernel
theorem dX7_about_18 : decode cX7_about 18 = .ok (.iload_n 1, 1) := by decide +kernel
theorem dX7_about_19 : decode cX7_about 19 = .ok (.iload_n 2, 1) := by decide +kernel
theorem dX7_about_20 : decode cX7_about 20 = .ok (.invokevirtual 79, 3) := by decide +kernel
theorem dX7_about_23 : decode cX7_about 23 = .ok (.goto 9, 3) := by decide +kernel
theorem dX7_about_26 : decode cX7_about 26 = .ok (.aload_n 0, 1) := by decide +kernel
theorem dX7_about_27 : decode cX7_about 27 = .ok (.bipush (-2), 2) := by decide +kernel
theorem dX7_about_29 : decode cX7_about 29 = .ok (.invokevirtual 48, 3) := by decide +kernel
theorem dX7_about_32 : decode cX7_about 32 = .ok (.ireturn, 1) := by decide +kernel
set_option maxRecDepth 20000 in
theorem ggX7_note_X7_isDoor : GoodIn wsX7_note wsX7_isDoor := goodIn_r _ [5, 6, 7, 8, 4, 9, 19, 20, 21, 22, 23, 24, 25, 26, 27, 28, 29, 30, 31, 32, 33] (by decide +kernel) (by decide +kernel)
set_option maxRecDepth 20000 in
theorem gX7_note_X7_isDoor : GoodIn wsX7_note (wsV RX7 66 RX7 yX7_isDoor wsX7_isDoor) := goodIn_app (goodIn_of _ (by decide +kernel)) ggX7_note_X7_isDoor
set_option maxRecDepth 20000 in
theorem ggX7_note_X7_in : GoodIn wsX7_note wsX7_in := goodIn_r _ [9] (by decide +kernel) (by decide +kernel)
set_option maxRecDepth 20000 in
theorem gX7_note_X7_in : GoodIn wsX7_note (va_wsS RX7 56 yX7_in wsX7_in) := goodIn_app (goodIn_of _ (by decide +kernel)) ggX7_note_X7_in
set_option maxRecDepth 20000 in
theorem ggX7_note_X7_refuse : GoodIn wsX7_note wsX7_refuse := goodIn_r _ [13, 14, 19, 20, 21, 22, 23, 24, 25, 26, 27, 28, 29, 30, 31, 32, 33] (by decide +kernel) (by decide +kernel)
set_option maxRecDepth 20000 in
theorem gX7_note_X7_refuse : GoodIn wsX7_note (wsV RX7 48 RX7 yX7_refuse wsX7_refuse) := goodIn_app (goodIn_of _ (by decide +kernel)) ggX7_note_X7_refuse
set_option maxRecDepth 20000 in
theorem ggX7_note_X7_ofDoor : GoodIn wsX7_note wsX7_ofDoor := goodIn_r _ [18, 6, 19, 20, 21, 22, 23, 24, 25, 26, 27, 28, 29, 30, 31, 32, 33] (by decide +kernel) (by decide +kernel)
set_option maxRecDepth 20000 in
theorem gX7_note_X7_ofDoor : GoodIn wsX7_note (wsV RX7 69 RX7 yX7_ofDoor wsX7_ofDoor) := goodIn_app (goodIn_of _ (by decide +kernel)) ggX7_note_X7_ofDoor
theorem dX7_note_0 : decode cX7_note 0 = .ok (.aload_n 0, 1) := by decide +kernel
theorem dX7_note_1 : decode cX7_note 1 = .ok (.iload_n 1, 1) := by decide +kernel
theorem dX7_note_2 : decode cX7_note 2 = .ok (.invokevirtual 66, 3) := by decide +kernel
theorem dX7_note_5 : decode cX7_note 5 = .ok (.ifCond .eq 16, 3) := by decide +kernel
theorem dX7_note_8 : decode cX7_note 8 = .ok (.iload_n 2, 1) := by decide +kernel
theorem dX7_note_9 : decode cX7_note 9 = .ok (.ifCond .lt 12, 3) := by decide +kernel
theorem dX7_note_12 : decode cX7_note 12 = .ok (.iload_n 3, 1) := by decide +kernel
theorem dX7_note_13 : decode cX7_note 13 = .ok (.iconst 0, 1) := by decide +kernel
theorem dX7_note_14 : decode cX7_note 14 = .ok (.iconst 1, 1) := by decide +kernel
theorem dX7_note_15 : decode cX7_note 15 = .ok (.invokestatic 56, 3) := by decide +kernel
theorem dX7_note_18 : decode cX7_note 18 = .ok (.ifCond .ne 10, 3) := by decide +kernel
theorem dX7_note_21 : decode cX7_note 21 = .ok (.aload_n 0, 1) := by decide +kernel
theorem dX7_note_22 : decode cX7_note 22 = .ok (.bipush (-2), 2) := by decide +kernel
theorem dX7_note_24 : decode cX7_note 24 = .ok (.invokevirtual 48, 3) := by decide +kernel
theorem dX7_note_27 : decode cX7_note 27 = .ok (.ireturn, 1) := by decide +kernel
theorem dX7_note_28 : decode cX7_note 28 = .ok (.iload_n 2, 1) := by decide +kernel
theorem dX7_note_29 : decode cX7_note 29 = .ok (.aload_n 0, 1) := by decide +kernel
theorem dX7_note_30 : decode cX7_note 30 = .ok (.iload_n 1, 1) := by decide +kernel
theorem dX7_note_31 : decode cX7_note 31 = .ok (.bipush 19, 2) := by decide +kernel
theorem dX7_note_33 : decode cX7_note 33 = .ok (.invokevirtual 69, 3) := by decide +kernel
theorem dX7_note_36 : decode cX7_note 36 = .ok (.if_icmp .ge 19, 3) := by decide +kernel
theorem dX7_note_39 : decode cX7_note 39 = .ok (.aload_n 0, 1) := by decide +kernel
theorem dX7_note_40 : decode cX7_note 40 = .ok (.iload_n 1, 1) := by decide +kernel
theorem dX7_note_41 : decode cX7_note 41 = .ok (.bipush 20, 2) := by decide +kernel
theorem dX7_note_43 : decode cX7_note 43 = .ok (.iconst 2, 1) := by decide +kernel
theorem dX7_note_44 : decode cX7_note 44 = .ok (.iload_n 2, 1) := by decide +kernel
theorem dX7_note_45 : decode cX7_note 45 = .ok (.imul, 1) := by decide +kernel
theorem dX7_note_46 : decode cX7_note 46 = .ok (.iadd, 1) := by decide +kernel
theorem dX7_note_47 : decode cX7_note 47 = .ok (.iload_n 3, 1) := by decide +kernel
theorem dX7_note_48 : decode cX7_note 48 = .ok (.iadd, 1) := by decide +kernel
theorem dX7_note_49 : decode cX7_note 49 = .ok (.invokevirtual 69, 3) := by decide +kernel
theorem dX7_note_52 : decode cX7_note 52 = .ok (.goto 4, 3) := by decide +kernel
theorem dX7_note_55 : decode cX7_note 55 = .ok (.iconst (-1), 1) := by decide +kernel
theorem dX7_note_56 : decode cX7_note 56 = .ok (.ireturn, 1) := by decide +kernel
theorem dX7_ones_0 : decode cX7_ones 0 = .ok (.iconst 0, 1) := by decide +kernel
theorem dX7_ones_1 : decode cX7_ones 1 = .ok (.istore_n 1, 1) := by decide +kernel
theorem dX7_ones_2 : decode cX7_ones 2 = .ok (.iconst 0, 1) := by decide +kernel
theorem dX7_ones_3 : decode cX7_ones 3 = .ok (.istore_n 2, 1) := by decide +kernel
theorem dX7_ones_4 : decode cX7_ones 4 = .ok (.iload_n 2, 1) := by decide +kernel
theorem dX7_ones_5 : decode cX7_ones 5 = .ok (.bipush 8, 2) := by decide +kernel
theorem dX7_ones_7 : decode cX7_ones 7 = .ok (.if_icmp .ge 17, 3) := by decide +kernel
theorem dX7_ones_10 : decode cX7_ones 10 = .ok (.iload_n 1, 1) := by decide +kernel
theorem dX7_ones_11 : decode cX7_ones 11 = .ok (.iload_n 0, 1) := by decide +kernel
theorem dX7_ones_12 : decode cX7_ones 12 = .ok (.iload_n 2, 1) := by decide +kernel
theorem dX7_ones_13 : decode cX7_ones 13 = .ok (.ishr, 1) := by decide +kernel
theorem dX7_ones_14 : decode cX7_ones 14 = .ok (.iconst 1, 1) := by decide +kernel
theorem dX7_ones_15 : decode cX7_ones 15 = .ok (.iand, 1) := by decide +kernel
theorem dX7_ones_16 : decode cX7_ones 16 = .ok (.iadd, 1) := by decide +kernel
theorem dX7_ones_17 : decode cX7_ones 17 = .ok (.istore_n 1, 1) := by decide +kernel
theorem dX7_ones_18 : decode cX7_ones 18 = .ok (.iinc 2 1, 3) := by decide +kernel
theorem dX7_ones_21 : decode cX7_ones 21 = .ok (.goto (-17), 3) := by decide +kernel
theorem dX7_ones_24 : decode cX7_ones 24 = .ok (.iload_n 1, 1) := by decide +kernel
theorem dX7_ones_25 : decode cX7_ones 25 = .ok (.ireturn, 1) := by decide +kernel
set_option maxRecDepth 20000 in
theorem ggX7_insideOf_X7_ofBadge : GoodIn wsX7_insideOf wsX7_ofBadge := goodIn_r _ [6, 1, 7, 8, 9, 10, 11, 12, 13, 14, 15, 16, 17, 18, 19, 20, 21] (by decide +kernel) (by decide +kernel)
set_option maxRecDepth 20000 in
theorem gX7_insideOf_X7_ofBadge : GoodIn wsX7_insideOf (wsV RX7 79 RX7 yX7_ofBadge wsX7_ofBadge) := goodIn_app (goodIn_of _ (by decide +kernel)) ggX7_insideOf_X7_ofBadge
theorem dX7_insideOf_0 : decode cX7_insideOf 0 = .ok (.iconst 0, 1) := by decide +kernel
theorem dX7_insideOf_1 : decode cX7_insideOf 1 = .ok (.istore_n 2, 1) := by decide +kernel
theorem dX7_insideOf_2 : decode cX7_insideOf 2 = .ok (.iconst 0, 1) := by decide +kernel
theorem dX7_insideOf_3 : decode cX7_insideOf 3 = .ok (.istore_n 3, 1) := by decide +kernel
theorem dX7_insideOf_4 : decode cX7_insideOf 4 = .ok (.iload_n 3, 1) := by decide +kernel
theorem dX7_insideOf_5 : decode cX7_insideOf 5 = .ok (.aload_n 0, 1) := by decide +kernel
theorem dX7_insideOf_6 : decode cX7_insideOf 6 = .ok (.getfield 7, 3) := by decide +kernel
theorem dX7_insideOf_9 : decode cX7_insideOf 9 = .ok (.sipush 530, 3) := by decide +kernel
theorem dX7_insideOf_12 : decode cX7_insideOf 12 = .ok (.iaload, 1) := by decide +kernel
theorem dX7_insideOf_13 : decode cX7_insideOf 13 = .ok (.if_icmp .ge 29, 3) := by decide +kernel
theorem dX7_insideOf_16 : decode cX7_insideOf 16 = .ok (.iload_n 2, 1) := by decide +kernel
theorem dX7_insideOf_17 : decode cX7_insideOf 17 = .ok (.aload_n 0, 1) := by decide +kernel
theorem dX7_insideOf_18 : decode cX7_insideOf 18 = .ok (.iload_n 3, 1) := by decide +kernel
theorem dX7_insideOf_19 : decode cX7_insideOf 19 = .ok (.iconst 2, 1) := by decide +kernel
theorem dX7_insideOf_20 : decode cX7_insideOf 20 = .ok (.invokevirtual 79, 3) := by decide +kernel
theorem dX7_insideOf_23 : decode cX7_insideOf 23 = .ok (.iload_n 1, 1) := by decide +kernel
theorem dX7_insideOf_24 : decode cX7_insideOf 24 = .ok (.if_icmp .ne 9, 3) := by decide +kernel
theorem dX7_insideOf_27 : decode cX7_insideOf 27 = .ok (.iconst 1, 1) := by decide +kernel
theorem dX7_insideOf_28 : decode cX7_insideOf 28 = .ok (.iload_n 3, 1) := by decide +kernel
theorem dX7_insideOf_29 : decode cX7_insideOf 29 = .ok (.ishl, 1) := by decide +kernel
theorem dX7_insideOf_30 : decode cX7_insideOf 30 = .ok (.goto 4, 3) := by decide +kernel
theorem dX7_insideOf_33 : decode cX7_insideOf 33 = .ok (.iconst 0, 1) := by decide +kernel
theorem dX7_insideOf_34 : decode cX7_insideOf 34 = .ok (.ior, 1) := by decide +kernel
theorem dX7_insideOf_35 : decode cX7_insideOf 35 = .ok (.istore_n 2, 1) := by decide +kernel
theorem dX7_insideOf_36 : decode cX7_insideOf 36 = .ok (.iinc 3 1, 3) := by decide +kernel
theorem dX7_insideOf_39 : decode cX7_insideOf 39 = .ok (.goto (-35), 3) := by decide +kernel
theorem dX7_insideOf_42 : decode cX7_insideOf 42 = .ok (.iload_n 2, 1) := by decide +kernel
theorem dX7_insideOf_43 : decode cX7_insideOf 43 = .ok (.ireturn, 1) := by decide +kernel
set_option maxRecDepth 20000 in
theorem ggX7_inside_X7_isArea : GoodIn wsX7_inside wsX7_isArea := goodIn_r _ [4, 5, 6, 3, 7] (by decide +kernel) (by decide +kernel)
set_option maxRecDepth 20000 in
theorem gX7_inside_X7_isArea : GoodIn wsX7_inside (va_wsS RX7 60 yX7_isArea wsX7_isArea) := goodIn_app (goodIn_of _ (by decide +kernel)) ggX7_inside_X7_isArea
set_option maxRecDepth 20000 in
theorem ggX7_inside_X7_in : GoodIn wsX7_inside wsX7_in := goodIn_r _ [7] (by decide +kernel) (by decide +kernel)
set_option maxRecDepth 20000 in
theorem gX7_inside_X7_in : GoodIn wsX7_inside (va_wsS RX7 56 yX7_in wsX7_in) := goodIn_app (goodIn_of _ (by decide +kernel)) ggX7_inside_X7_in
set_option maxRecDepth 20000 in
theorem ggX7_inside_X7_refuse : GoodIn wsX7_inside wsX7_refuse := goodIn_r _ [11, 12, 25, 26, 27, 28, 29, 30, 31, 32, 33, 34, 35, 36, 37, 38, 39] (by decide +kernel) (by decide +kernel)
set_option maxRecDepth 20000 in
theorem gX7_inside_X7_refuse : GoodIn wsX7_inside (wsV RX7 48 RX7 yX7_refuse wsX7_refuse) := goodIn_app (goodIn_of _ (by decide +kernel)) ggX7_inside_X7_refuse
set_option maxRecDepth 20000 in
theorem ggX7_inside_X7_insideOf : GoodIn wsX7_inside wsX7_insideOf := goodIn_r _ [16, 17, 18, 19, 20, 3, 21, 25, 26, 27, 28, 29, 30, 31, 32, 33, 34, 35, 36, 37, 38, 39] (by decide +kernel) (by decide +kernel)
set_option maxRecDepth 20000 in
theorem gX7_inside_X7_insideOf : GoodIn wsX7_inside (wsV RX7 148 RX7 yX7_insideOf wsX7_insideOf) := goodIn_app (goodIn_of _ (by decide +kernel)) ggX7_inside_X7_insideOf
set_option maxRecDepth 20000 in
theorem ggX7_inside_X7_ones : GoodIn wsX7_inside wsX7_ones := goodIn_r _ [24] (by decide +kernel) (by decide +kernel)
set_option maxRecDepth 20000 in
theorem gX7_inside_X7_ones : GoodIn wsX7_inside (va_wsS RX7 151 yX7_ones wsX7_ones) := goodIn_app (goodIn_of _ (by decide +kernel)) ggX7_inside_X7_ones
theorem dX7_inside_0 : decode cX7_inside 0 = .ok (.iload_n 1, 1) := by decide +kernel
theorem dX7_inside_1 : decode cX7_inside 1 = .ok (.invokestatic 60, 3) := by decide +kernel
theorem dX7_inside_4 : decode cX7_inside 4 = .ok (.ifCond .eq 12, 3) := by decide +kernel
theorem dX7_inside_7 : decode cX7_inside 7 = .ok (.iload_n 2, 1) := by decide +kernel
theorem dX7_inside_8 : decode cX7_inside 8 = .ok (.iconst 0, 1) := by decide +kernel
theorem dX7_inside_9 : decode cX7_inside 9 = .ok (.iconst 1, 1) := by decide +kernel
theorem dX7_inside_10 : decode cX7_inside 10 = .ok (.invokestatic 56, 3) := by decide +kernel
theorem dX7_inside_13 : decode cX7_inside 13 = .ok (.ifCond .ne 10, 3) := by decide +kernel
theorem dX7_inside_16 : decode cX7_inside 16 = .ok (.aload_n 0, 1) := by decide +kernel
theorem dX7_inside_17 : decode cX7_inside 17 = .ok (.bipush (-2), 2) := by decide +kernel
theorem dX7_inside_19 : decode cX7_inside 19 = .ok (.invokevirtual 48, 3) := by decide +kernel
theorem dX7_inside_22 : decode cX7_inside 22 = .ok (.ireturn, 1) := by decide +kernel
theorem dX7_inside_23 : decode cX7_inside 23 = .ok (.iload_n 2, 1) := by decide +kernel
theorem dX7_inside_24 : decode cX7_inside 24 = .ok (.ifCond .ne 14, 3) := by decide +kernel
theorem dX7_inside_27 : decode cX7_inside 27 = .ok (.aload_n 0, 1) := by decide +kernel
theorem dX7_inside_28 : decode cX7_inside 28 = .ok (.iload_n 1, 1) := by decide +kernel
theorem dX7_inside_29 : decode cX7_inside 29 = .ok (.invokevirtual 148, 3) := by decide +kernel
theorem dX7_inside_32 : decode cX7_inside 32 = .ok (.invokestatic 151, 3) := by decide +kernel
theorem dX7_inside_35 : decode cX7_inside 35 = .ok (.goto 8, 3) := by decide +kernel
theorem dX7_inside_38 : decode cX7_inside 38 = .ok (.aload_n 0, 1) := by decide +kernel
theorem dX7_inside_39 : decode cX7_inside 39 = .ok (.iload_n 1, 1) := by decide +kernel
theorem dX7_inside_40 : decode cX7_inside 40 = .ok (.invokevirtual 148, 3) := by decide +kernel
theorem dX7_inside_43 : decode cX7_inside 43 = .ok (.ireturn, 1) := by decide +kernel
set_option maxRecDepth 20000 in
theorem ggX7_muster_X7_isArea : GoodIn wsX7_muster wsX7_isArea := goodIn_r _ [4, 5, 6, 3, 7] (by decide +kernel) (by decide +kernel)
set_option maxRecDepth 20000 in
theorem gX7_muster_X7_isArea : GoodIn wsX7_muster (va_wsS RX7 60 yX7_isArea wsX7_isArea) := goodIn_app (goodIn_of _ (by decide +kernel)) ggX7_muster_X7_isArea
set_option maxRecDepth 20000 in
theorem ggX7_muster_X7_refuse : GoodIn wsX7_muster wsX7_refuse := goodIn_r _ [11, 12, 22, 23, 24, 25, 26, 27, 28, 29, 30, 31, 32, 33, 34, 35, 36] (by decide +kernel) (by decide +kernel)
set_option maxRecDepth 20000 in
theorem gX7_muster_X7_refuse : GoodIn wsX7_muster (wsV RX7 48 RX7 yX7_refuse wsX7_refuse) := goodIn_app (goodIn_of _ (by decide +kernel)) ggX7_muster_X7_refuse
set_option maxRecDepth 20000 in
theorem ggX7_muster_X7_insideOf : GoodIn wsX7_muster wsX7_insideOf := goodIn_r _ [16, 17, 18, 19, 20, 3, 21, 22, 23, 24, 25, 26, 27, 28, 29, 30, 31, 32, 33, 34, 35, 36] (by decide +kernel) (by decide +kernel)
set_option maxRecDepth 20000 in
theorem gX7_muster_X7_insideOf : GoodIn wsX7_muster (wsV RX7 148 RX7 yX7_insideOf wsX7_insideOf) := goodIn_app (goodIn_of _ (by decide +kernel)) ggX7_muster_X7_insideOf
theorem dX7_muster_0 : decode cX7_muster 0 = .ok (.iload_n 1, 1) := by decide +kernel
theorem dX7_muster_1 : decode cX7_muster 1 = .ok (.invokestatic 60, 3) := by decide +kernel
theorem dX7_muster_4 : decode cX7_muster 4 = .ok (.ifCond .ne 10, 3) := by decide +kernel
theorem dX7_muster_7 : decode cX7_muster 7 = .ok (.aload_n 0, 1) := by decide +kernel
theorem dX7_muster_8 : decode cX7_muster 8 = .ok (.bipush (-2), 2) := by decide +kernel
theorem dX7_muster_10 : decode cX7_muster 10 = .ok (.invokevirtual 48, 3) := by decide +kernel
theorem dX7_muster_13 : decode cX7_muster 13 = .ok (.ireturn, 1) := by decide +kernel
theorem dX7_muster_14 : decode cX7_muster 14 = .ok (.iconst 0, 1) := by decide +kernel
theorem dX7_muster_15 : decode cX7_muster 15 = .ok (.istore_n 2, 1) := by decide +kernel
theorem dX7_muster_16 : decode cX7_muster 16 = .ok (.iconst 1, 1) := by decide +kernel
theorem dX7_muster_17 : decode cX7_muster 17 = .ok (.istore_n 3, 1) := by decide +kernel
theorem dX7_muster_18 : decode cX7_muster 18 = .ok (.iload_n 3, 1) := by decide +kernel
theorem dX7_muster_19 : decode cX7_muster 19 = .ok (.bipush 6, 2) := by decide +kernel
theorem dX7_muster_21 : decode cX7_muster 21 = .ok (.if_icmp .ge 26, 3) := by decide +kernel
theorem dX7_muster_24 : decode cX7_muster 24 = .ok (.iload_n 2, 1) := by decide +kernel
theorem dX7_muster_25 : decode cX7_muster 25 = .ok (.iload_n 3, 1) := by decide +kernel
theorem dX7_muster_26 : decode cX7_muster 26 = .ok (.iload_n 1, 1) := by decide +kernel
theorem dX7_muster_27 : decode cX7_muster 27 = .ok (.if_icmp .ne 7, 3) := by decide +kernel
theorem dX7_muster_30 : decode cX7_muster 30 = .ok (.iconst 0, 1) := by decide +kernel
theorem dX7_muster_31 : decode cX7_muster 31 = .ok (.goto 8, 3) := by decide +kernel
theorem dX7_muster_34 : decode cX7_muster 34 = .ok (.aload_n 0, 1) := by decide +kernel
theorem dX7_muster_35 : decode cX7_muster 35 = .ok (.iload_n 3, 1) := by decide +kernel
theorem dX7_muster_36 : decode cX7_muster 36 = .ok (.invokevirtual 148, 3) := by decide +kernel
theorem dX7_muster_39 : decode cX7_muster 39 = .ok (.ior, 1) := by decide +kernel
theorem dX7_muster_40 : decode cX7_muster 40 = .ok (.istore_n 2, 1) := by decide +kernel
theorem dX7_muster_41 : decode cX7_muster 41 = .ok (.iinc 3 1, 3) := by decide +kernel
theorem dX7_muster_44 : decode cX7_muster 44 = .ok (.goto (-26), 3) := by decide +kernel
theorem dX7_muster_47 : decode cX7_muster 47 = .ok (.iload_n 2, 1) := by decide +kernel
theorem dX7_muster_48 : decode cX7_muster 48 = .ok (.ireturn, 1) := by decide +kernel
set_option maxRecDepth 20000 in
theorem ggX7_couldPass_X7_ofDoor : GoodIn wsX7_couldPass wsX7_ofDoor := goodIn_r _ [5, 6, 22, 23, 24, 25, 26, 27, 28, 29, 30, 31, 32, 33, 34, 35, 36] (by decide +kernel) (by decide +kernel)
set_option maxRecDepth 20000 in
theorem gX7_couldPass_X7_ofDoor : GoodIn wsX7_couldPass (wsV RX7 69 RX7 yX7_ofDoor wsX7_ofDoor) := goodIn_app (goodIn_of _ (by decide +kernel)) ggX7_couldPass_X7_ofDoor
set_option maxRecDepth 20000 in
theorem ggX7_couldPass_X7_ofBadge : GoodIn wsX7_couldPass wsX7_ofBadge := goodIn_r _ [10, 6, 22, 23, 24, 25, 26, 27, 28, 29, 30, 31, 32, 33, 34, 35, 36] (by decide +kernel) (by decide +kernel)
set_option maxRecDepth 20000 in
theorem gX7_couldPass_X7_ofBadge : GoodIn wsX7_couldPass (wsV RX7 79 RX7 yX7_ofBadge wsX7_ofBadge) := goodIn_app (goodIn_of _ (by decide +kernel)) ggX7_couldPass_X7_ofBadge
set_option maxRecDepth 20000 in
theorem ggX7_couldPass_X7_levelOf : GoodIn wsX7_couldPass wsX7_levelOf := goodIn_r _ [14, 15, 16, 17, 4, 18, 6, 19, 20, 21, 1, 2, 3, 5, 22, 23, 24, 25, 26, 27, 28, 29, 30, 31, 32, 33, 34, 35, 36] (by decide +kernel) (by decide +kernel)
set_option maxRecDepth 20000 in
theorem gX7_couldPass_X7_levelOf : GoodIn wsX7_couldPass (wsV RX7 126 RX7 yX7_levelOf wsX7_levelOf) := goodIn_app (goodIn_of _ (by decide +kernel)) ggX7_couldPass_X7_levelOf
theorem dX7_couldPass_0 : decode cX7_couldPass 0 = .ok (.aload_n 0, 1) := by decide +kernel
theorem dX7_couldPass_1 : decode cX7_couldPass 1 = .ok (.iload_n 2, 1) := by decide +kernel
theorem dX7_couldPass_2 : decode cX7_couldPass 2 = .ok (.iconst 1, 1) := by decide +kernel
theorem dX7_couldPass_3 : decode cX7_couldPass 3 = .ok (.invokevirtual 69, 3) := by decide +kernel
theorem dX7_couldPass_6 : decode cX7_couldPass 6 = .ok (.ifCond .eq 26, 3) := by decide +kernel
theorem dX7_couldPass_9 : decode cX7_couldPass 9 = .ok (.aload_n 0, 1) := by decide +kernel
theorem dX7_couldPass_10 : decode cX7_couldPass 10 = .ok (.iload_n 1, 1) := by decide +kernel
theorem dX7_couldPass_11 : decode cX7_couldPass 11 = .ok (.iconst 1, 1) := by decide +kernel
theorem dX7_couldPass_12 : decode cX7_couldPass 12 = .ok (.invokevirtual 79, 3) := by decide +kernel
theorem dX7_couldPass_15 : decode cX7_couldPass 15 = .ok (.ifCond .ne 21, 3) := by decide +kernel
theorem dX7_couldPass_18 : decode cX7_couldPass 18 = .ok (.aload_n 0, 1) := by decide +kernel
theorem dX7_couldPass_19 : decode cX7_couldPass 19 = .ok (.iload_n 1, 1) := by decide +kernel
theorem dX7_couldPass_20 : decode cX7_couldPass 20 = .ok (.iconst 0, 1) := by decide +kernel
theorem dX7_couldPass_21 : decode cX7_couldPass 21 = .ok (.invokevirtual 79, 3) := by decide +kernel
theorem dX7_couldPass_24 : decode cX7_couldPass 24 = .ok (.aload_n 0, 1) := by decide +kernel
theorem dX7_couldPass_25 : decode cX7_couldPass 25 = .ok (.iload_n 2, 1) := by decide +kernel
theorem dX7_couldPass_26 : decode cX7_couldPass 26 = .ok (.invokevirtual 126, 3) := by decide +kernel
theorem dX7_couldPass_29 : decode cX7_couldPass 29 = .ok (.if_icmp .lt 7, 3) := by decide +kernel
theorem dX7_couldPass_32 : decode cX7_couldPass 32 = .ok (.iconst 1, 1) := by decide +kernel
theorem dX7_couldPass_33 : decode cX7_couldPass 33 = .ok (.goto 4, 3) := by decide +kernel
theorem dX7_couldPass_36 : decode cX7_couldPass 36 = .ok (.iconst 0, 1) := by decide +kernel
theorem dX7_couldPass_37 : decode cX7_couldPass 37 = .ok (.ireturn, 1) := by decide +kernel
set_option maxRecDepth 20000 in
theorem ggX7_findWay_X7_ofDoor : GoodIn wsX7_findWay wsX7_ofDoor := goodIn_r _ [9, 2, 29, 30, 31, 32, 33, 34, 35, 36, 37, 38, 39, 40, 41, 42, 43] (by decide +kernel) (by decide +kernel)
set_option maxRecDepth 20000 in
theorem gX7_findWay_X7_ofDoor : GoodIn wsX7_findWay (wsV RX7 69 RX7 yX7_ofDoor wsX7_ofDoor) := goodIn_app (goodIn_of _ (by decide +kernel)) ggX7_findWay_X7_ofDoor
set_option maxRecDepth 20000 in
theorem ggX7_findWay_X7_couldPass : GoodIn wsX7_findWay wsX7_couldPass := goodIn_r _ [13, 5, 6, 7, 8, 9, 2, 14, 15, 16, 17, 18, 19, 20, 21, 22, 23, 24, 25, 26, 27, 28, 29, 30, 31, 32, 33, 34, 35, 36, 37, 38, 39, 40, 41, 42, 43] (by decide +kernel) (by decide +kernel)
set_option maxRecDepth 20000 in
theorem gX7_findWay_X7_couldPass : GoodIn wsX7_findWay (wsV RX7 154 RX7 yX7_couldPass wsX7_couldPass) := goodIn_app (goodIn_of _ (by decide +kernel)) ggX7_findWay_X7_couldPass
theorem dX7_findWay_0 : decode cX7_findWay 0 = .ok (.iconst 0, 1) := by decide +kernel
theorem dX7_findWay_1 : decode cX7_findWay 1 = .ok (.istore 4, 2) := by decide +kernel
theorem dX7_findWay_3 : decode cX7_findWay 3 = .ok (.iload 4, 2) := by decide +kernel
theorem dX7_findWay_5 : decode cX7_findWay 5 = .ok (.bipush 6, 2) := by decide +kernel
theorem dX7_findWay_7 : decode cX7_findWay 7 = .ok (.if_icmp .ge 28, 3) := by decide +kernel
theorem dX7_findWay_10 : decode cX7_findWay 10 = .ok (.aload_n 0, 1) := by decide +kernel
theorem dX7_findWay_11 : decode cX7_findWay 11 = .ok (.getfield 34, 3) := by decide +kernel
theorem dX7_findWay_14 : decode cX7_findWay 14 = .ok (.iload 4, 2) := by decide +kernel
theorem dX7_findWay_16 : decode cX7_findWay 16 = .ok (.iload 4, 2) := by decide +kernel
theorem dX7_findWay_18 : decode cX7_findWay 18 = .ok (.iload_n 3, 1) := by decide +kernel
theorem dX7_findWay_19 : decode cX7_findWay 19 = .ok (.if_icmp .ne 7, 3) := by decide +kernel
theorem dX7_findWay_22 : decode cX7_findWay 22 = .ok (.iconst 0, 1) := by decide +kernel
theorem dX7_findWay_23 : decode cX7_findWay 23 = .ok (.goto 5, 3) := by decide +kernel
theorem dX7_findWay_26 : decode cX7_findWay 26 = .ok (.bipush 100, 2) := by decide +kernel
theorem dX7_findWay_28 : decode cX7_findWay 28 = .ok (.iastore, 1) := by decide +kernel
theorem dX7_findWay_29 : decode cX7_findWay 29 = .ok (.iinc 4 1, 3) := by decide +kernel
theorem dX7_findWay_32 : decode cX7_findWay 32 = .ok (.goto (-29), 3) := by decide +kernel
theorem dX7_findWay_35 : decode cX7_findWay 35 = .ok (.iconst 0, 1) := by decide +kernel
theorem dX7_findWay_36 : decode cX7_findWay 36 = .ok (.istore 4, 2) := by decide +kernel
theorem dX7_findWay_38 : decode cX7_findWay 38 = .ok (.iload 4, 2) := by decide +kernel
theorem dX7_findWay_40 : decode cX7_findWay 40 = .ok (.bipush 6, 2) := by decide +kernel
theorem dX7_findWay_42 : decode cX7_findWay 42 = .ok (.if_icmp .ge 97, 3) := by decide +kernel
theorem dX7_findWay_45 : decode cX7_findWay 45 = .ok (.iconst 0, 1) := by decide +kernel
theorem dX7_findWay_46 : decode cX7_findWay 46 = .ok (.istore 5, 2) := by decide +kernel
theorem dX7_findWay_48 : decode cX7_findWay 48 = .ok (.iload 5, 2) := by decide +kernel
theorem dX7_findWay_50 : decode cX7_findWay 50 = .ok (.aload_n 0, 1) := by decide +kernel
theorem dX7_findWay_51 : decode cX7_findWay 51 = .ok (.getfield 7, 3) := by decide +kernel
theorem dX7_findWay_54 : decode cX7_findWay 54 = .ok (.sipush 529, 3) := by decide +kernel
theorem dX7_findWay_57 : decode cX7_findWay 57 = .ok (.iaload, 1) := by decide +kernel
theorem dX7_findWay_58 : decode cX7_findWay 58 = .ok (.if_icmp .ge 75, 3) := by decide +kernel
theorem dX7_findWay_61 : decode cX7_findWay 61 = .ok (.aload_n 0, 1) := by decide +kernel
theorem dX7_findWay_62 : decode cX7_findWay 62 = .ok (.iload 5, 2) := by decide +kernel
theorem dX7_findWay_64 : decode cX7_findWay 64 = .ok (.iconst 0, 1) := by decide +kernel
theorem dX7_findWay_65 : decode cX7_findWay 65 = .ok (.invokevirtual 69, 3) := by decide +kernel
theorem dX7_findWay_68 : decode cX7_findWay 68 = .ok (.istore 6, 2) := by decide +kernel
theorem dX7_findWay_70 : decode cX7_findWay 70 = .ok (.aload_n 0, 1) := by decide +kernel
theorem dX7_findWay_71 : decode cX7_findWay 71 = .ok (.getfield 34, 3) := by decide +kernel
theorem dX7_findWay_74 : decode cX7_findWay 74 = .ok (.aload_n 0, 1) := by decide +kernel
theorem dX7_findWay_75 : decode cX7_findWay 75 = .ok (.iload 5, 2) := by decide +kernel
theorem dX7_findWay_77 : decode cX7_findWay 77 = .ok (.iconst 1, 1) := by decide +kernel
theorem dX7_findWay_78 : decode cX7_findWay 78 = .ok (.invokevirtual 69, 3) := by decide +kernel
theorem dX7_findWay_81 : decode cX7_findWay 81 = .ok (.iaload, 1) := by decide +kernel
theorem dX7_findWay_82 : decode cX7_findWay 82 = .ok (.iconst 1, 1) := by decide +kernel
theorem dX7_findWay_83 : decode cX7_findWay 83 = .ok (.iadd, 1) := by decide +kernel
theorem dX7_findWay_84 : decode cX7_findWay 84 = .ok (.istore 7, 2) := by decide +kernel
theorem dX7_findWay_86 : decode cX7_findWay 86 = .ok (.aload_n 0, 1) := by decide +kernel
theorem dX7_findWay_87 : decode cX7_findWay 87 = .ok (.getfield 34, 3) := by decide +kernel
theorem dX7_findWay_90 : decode cX7_findWay 90 = .ok (.iload 6, 2) := by decide +kernel
theorem dX7_findWay_92 : decode cX7_findWay 92 = .ok (.aload_n 0, 1) := by decide +kernel
theorem dX7_findWay_93 : decode cX7_findWay 93 = .ok (.iload_n 1, 1) := by decide +kernel
theorem dX7_findWay_94 : decode cX7_findWay 94 = .ok (.iload 5, 2) := by decide +kernel
theorem dX7_findWay_96 : decode cX7_findWay 96 = .ok (.invokevirtual 154, 3) := by decide +kernel
theorem dX7_findWay_99 : decode cX7_findWay 99 = .ok (.ifCond .eq 20, 3) := by decide +kernel
theorem dX7_findWay_102 : decode cX7_findWay 102 = .ok (.iload 7, 2) := by decide +kernel
theorem dX7_findWay_104 : decode cX7_findWay 104 = .ok (.aload_n 0, 1) := by decide +kernel
theorem dX7_findWay_105 : decode cX7_findWay 105 = .ok (.getfield 34, 3) := by decide +kernel
theorem dX7_findWay_108 : decode cX7_findWay 108 = .ok (.iload 6, 2) := by decide +kernel
theorem dX7_findWay_110 : decode cX7_findWay 110 = .ok (.iaload, 1) := by decide +kernel
theorem dX7_findWay_111 : decode cX7_findWay 111 = .ok (.if_icmp .ge 8, 3) := by decide +kernel
theorem dX7_findWay_114 : decode cX7_findWay 114 = .ok (.iload 7, 2) := by decide +kernel
theorem dX7_findWay_116 : decode cX7_findWay 116 = .ok (.goto 10, 3) := by decide +kernel
theorem dX7_findWay_119 : decode cX7_findWay 119 = .ok (.aload_n 0, 1) := by decide +kernel
theorem dX7_findWay_120 : decode cX7_findWay 120 = .ok (.getfield 34, 3) := by decide +kernel
theorem dX7_findWay_123 : decode cX7_findWay 123 = .ok (.iload 6, 2) := by decide +kernel
theorem dX7_findWay_125 : decode cX7_findWay 125 = .ok (.iaload, 1) := by decide +kernel
theorem dX7_findWay_126 : decode cX7_findWay 126 = .ok (.iastore, 1) := by decide +kernel
theorem dX7_findWay_127 : decode cX7_findWay 127 = .ok (.iinc 5 1, 3) := by decide +kernel
theorem dX7_findWay_130 : decode cX7_findWay 130 = .ok (.goto (-82), 3) := by decide +kernel
theorem dX7_findWay_133 : decode cX7_findWay 133 = .ok (.iinc 4 1, 3) := by decide +kernel
theorem dX7_findWay_136 : decode cX7_findWay 136 = .ok (.goto (-98), 3) := by decide +kernel
theorem dX7_findWay_139 : decode cX7_findWay 139 = .ok (.aload_n 0, 1) := by decide +kernel
theorem dX7_findWay_140 : decode cX7_findWay 140 = .ok (.iconst 0, 1) := by decide +kernel
theorem dX7_findWay_141 : decode cX7_findWay 141 = .ok (.putfield 158, 3) := by decide +kernel
theorem dX7_findWay_144 : decode cX7_findWay 144 = .ok (.iload_n 2, 1) := by decide +kernel
theorem dX7_findWay_145 : decode cX7_findWay 145 = .ok (.istore 4, 2) := by decide +kernel
theorem dX7_findWay_147 : decode cX7_findWay 147 = .ok (.aload_n 0, 1) := by decide +kernel
theorem dX7_findWay_148 : decode cX7_findWay 148 = .ok (.getfield 34, 3) := by decide +kernel
theorem dX7_findWay_151 : decode cX7_findWay 151 = .ok (.iload 4, 2) := by decide +kernel
theorem dX7_findWay_153 : decode cX7_findWay 153 = .ok (.iaload, 1) := by decide +kernel
theorem dX7_findWay_154 : decode cX7_findWay 154 = .ok (.ifCond .le 103, 3) := by decide +kernel
theorem dX7_findWay_157 : decode cX7_findWay 157 = .ok (.aload_n 0, 1) := by decide +kernel
theorem dX7_findWay_158 : decode cX7_findWay 158 = .ok (.getfield 34, 3) := by decide +kernel
theorem dX7_findWay_161 : decode cX7_findWay 161 = .ok (.iload 4, 2) := by decide +kernel
theorem dX7_findWay_163 : decode cX7_findWay 163 = .ok (.iaload, 1) := by decide +kernel
theorem dX7_findWay_164 : decode cX7_findWay 164 = .ok (.bipush 100, 2) := by decide +kernel
theorem dX7_findWay_166 : decode cX7_findWay 166 = .ok (.if_icmp .ge 91, 3) := by decide +kernel
theorem dX7_findWay_169 : decode cX7_findWay 169 = .ok (.iconst 0, 1) := by decide +kernel
theorem dX7_findWay_170 : decode cX7_findWay 170 = .ok (.istore 5, 2) := by decide +kernel
theorem dX7_findWay_172 : decode cX7_findWay 172 = .ok (.aload_n 0, 1) := by decide +kernel
theorem dX7_findWay_173 : decode cX7_findWay 173 = .ok (.iload 5, 2) := by decide +kernel
theorem dX7_findWay_175 : decode cX7_findWay 175 = .ok (.iconst 0, 1) := by decide +kernel
theorem dX7_findWay_176 : decode cX7_findWay 176 = .ok (.invokevirtual 69, 3) := by decide +kernel
theorem dX7_findWay_179 : decode cX7_findWay 179 = .ok (.iload 4, 2) := by decide +kernel
theorem dX7_findWay_181 : decode cX7_findWay 181 = .ok (.if_icmp .ne 37, 3) := by decide +kernel
theorem dX7_findWay_184 : decode cX7_findWay 184 = .ok (.aload_n 0, 1) := by decide +kernel
theorem dX7_findWay_185 : decode cX7_findWay 185 = .ok (.iload_n 1, 1) := by decide +kernel
theorem dX7_findWay_186 : decode cX7_findWay 186 = .ok (.iload 5, 2) := by decide +kernel
theorem dX7_findWay_188 : decode cX7_findWay 188 = .ok (.invokevirtual 154, 3) := by decide +kernel
theorem dX7_findWay_191 : decode cX7_findWay 191 = .ok (.ifCond .eq 27, 3) := by decide +kernel
theorem dX7_findWay_194 : decode cX7_findWay 194 = .ok (.aload_n 0, 1) := by decide +kernel
theorem dX7_findWay_195 : decode cX7_findWay 195 = .ok (.getfield 34, 3) := by decide +kernel
theorem dX7_findWay_198 : decode cX7_findWay 198 = .ok (.aload_n 0, 1) := by decide +kernel
theorem dX7_findWay_199 : decode cX7_findWay 199 = .ok (.iload 5, 2) := by decide +kernel
theorem dX7_findWay_201 : decode cX7_findWay 201 = .ok (.iconst 1, 1) := by decide +kernel
theorem dX7_findWay_202 : decode cX7_findWay 202 = .ok (.invokevirtual 69, 3) := by decide +kernel
theorem dX7_findWay_205 : decode cX7_findWay 205 = .ok (.iaload, 1) := by decide +kernel
theorem dX7_findWay_206 : decode cX7_findWay 206 = .ok (.iconst 1, 1) := by decide +kernel
theorem dX7_findWay_207 : decode cX7_findWay 207 = .ok (.iadd, 1) := by decide +kernel
theorem dX7_findWay_208 : decode cX7_findWay 208 = .ok (.aload_n 0, 1) := by decide +kernel
theorem dX7_findWay_209 : decode cX7_findWay 209 = .ok (.getfield 34, 3) := by decide +kernel
theorem dX7_findWay_212 : decode cX7_findWay 212 = .ok (.iload 4, 2) := by decide +kernel
theorem dX7_findWay_214 : decode cX7_findWay 214 = .ok (.iaload, 1) := by decide +kernel
theorem dX7_findWay_215 : decode cX7_findWay 215 = .ok (.if_icmp .eq 9, 3) := by decide +kernel
theorem dX7_findWay_218 : decode cX7_findWay 218 = .ok (.iinc 5 1, 3) := by decide +kernel
theorem dX7_findWay_221 : decode cX7_findWay 221 = .ok (.goto (-49), 3) := by decide +kernel
theorem dX7_findWay_224 : decode cX7_findWay 224 = .ok (.aload_n 0, 1) := by decide +kernel
theorem dX7_findWay_225 : decode cX7_findWay 225 = .ok (.getfield 37, 3) := by decide +kernel
theorem dX7_findWay_228 : decode cX7_findWay 228 = .ok (.aload_n 0, 1) := by decide +kernel
theorem dX7_findWay_229 : decode cX7_findWay 229 = .ok (.getfield 158, 3) := by decide +kernel
theorem dX7_findWay_232 : decode cX7_findWay 232 = .ok (.iload 5, 2) := by decide +kernel
theorem dX7_findWay_234 : decode cX7_findWay 234 = .ok (.iastore, 1) := by decide +kernel
theorem dX7_findWay_235 : decode cX7_findWay 235 = .ok (.aload_n 0, 1) := by decide +kernel
theorem dX7_findWay_236 : decode cX7_findWay 236 = .ok (.dup, 1) := by decide +kernel
theorem dX7_findWay_237 : decode cX7_findWay 237 = .ok (.getfield 158, 3) := by decide +kernel
theorem dX7_findWay_240 : decode cX7_findWay 240 = .ok (.iconst 1, 1) := by decide +kernel
theorem dX7_findWay_241 : decode cX7_findWay 241 = .ok (.iadd, 1) := by decide +kernel
theorem dX7_findWay_242 : decode cX7_findWay 242 = .ok (.putfield 158, 3) := by decide +kernel
theorem dX7_findWay_245 : decode cX7_findWay 245 = .ok (.aload_n 0, 1) := by decide +kernel
theorem dX7_findWay_246 : decode cX7_findWay 246 = .ok (.iload 5, 2) := by decide +kernel
theorem dX7_findWay_248 : decode cX7_findWay 248 = .ok (.iconst 1, 1) := by decide +kernel
theorem dX7_findWay_249 : decode cX7_findWay 249 = .ok (.invokevirtual 69, 3) := by decide +kernel
theorem dX7_findWay_252 : decode cX7_findWay 252 = .ok (.istore 4, 2) := by decide +kernel
theorem dX7_findWay_254 : decode cX7_findWay 254 = .ok (.goto (-107), 3) := by decide +kernel
theorem dX7_findWay_257 : decode cX7_findWay 257 = .ok (.return_, 1) := by decide +kernel
set_option maxRecDepth 20000 in
theorem ggX7_way_X7_isBadge : GoodIn wsX7_way wsX7_isBadge := goodIn_r _ [7, 8, 9, 10, 6, 11, 45, 46, 47, 48, 49, 50, 51, 52, 53, 54, 55, 56, 57, 58, 59] (by decide +kernel) (by decide +kernel)
set_option maxRecDepth 20000 in
theorem gX7_way_X7_isBadge : GoodIn wsX7_way (wsV RX7 73 RX7 yX7_isBadge wsX7_isBadge) := goodIn_app (goodIn_of _ (by decide +kernel)) ggX7_way_X7_isBadge
set_option maxRecDepth 20000 in
theorem ggX7_way_X7_isArea : GoodIn wsX7_way wsX7_isArea := goodIn_r _ [14, 9, 10, 6, 11] (by decide +kernel) (by decide +kernel)
set_option maxRecDepth 20000 in
theorem gX7_way_X7_isArea : GoodIn wsX7_way (va_wsS RX7 60 yX7_isArea wsX7_isArea) := goodIn_app (goodIn_of _ (by decide +kernel)) ggX7_way_X7_isArea
set_option maxRecDepth 20000 in
theorem ggX7_way_X7_refuse : GoodIn wsX7_way wsX7_refuse := goodIn_r _ [18, 19, 45, 46, 47, 48, 49, 50, 51, 52, 53, 54, 55, 56, 57, 58, 59] (by decide +kernel) (by decide +kernel)
set_option maxRecDepth 20000 in
theorem gX7_way_X7_refuse : GoodIn wsX7_way (wsV RX7 48 RX7 yX7_refuse wsX7_refuse) := goodIn_app (goodIn_of _ (by decide +kernel)) ggX7_way_X7_refuse
set_option maxRecDepth 20000 in
theorem ggX7_way_X7_findWay : GoodIn wsX7_way wsX7_findWay := goodIn_r _ [23, 24, 8, 1, 2, 25, 26, 27, 6, 28, 29, 30, 31, 32, 33, 34, 35, 36, 37, 38, 39, 40, 41, 42, 43, 44, 9, 10, 11, 45, 46, 47, 48, 49, 50, 51, 52, 53, 54, 55, 56, 57, 58, 59] (by decide +kernel) (by decide +kernel)
set_option maxRecDepth 20000 in
theorem gX7_way_X7_findWay : GoodIn wsX7_way (wsV RX7 161 RX7 yX7_findWay wsX7_findWay) := goodIn_app (goodIn_of _ (by decide +kernel)) ggX7_way_X7_findWay
theorem dX7_way_0 : decode cX7_way 0 = .ok (.aload_n 0, 1) := by decide +kernel
theorem dX7_way_1 : decode cX7_way 1 = .ok (.iload_n 1, 1) := by decide +kernel
theorem dX7_way_2 : decode cX7_way 2 = .ok (.invokevirtual 73, 3) := by decide +kernel
theorem dX7_way_5 : decode cX7_way 5 = .ok (.ifCond .eq 28, 3) := by decide +kernel
theorem dX7_way_8 : decode cX7_way 8 = .ok (.iload_n 2, 1) := by decide +kernel
theorem dX7_way_9 : decode cX7_way 9 = .ok (.invokestatic 60, 3) := by decide +kernel
theorem dX7_way_12 : decode cX7_way 12 = .ok (.ifCond .eq 21, 3) := by decide +kernel
theorem dX7_way_15 : decode cX7_way 15 = .ok (.iload_n 3, 1) := by decide +kernel
theorem dX7_way_16 : decode cX7_way 16 = .ok (.invokestatic 60, 3) := by decide +kernel
theorem dX7_way_19 : decode cX7_way 19 = .ok (.ifCond .eq 14, 3) := by decide +kernel
theorem dX7_way_22 : decode cX7_way 22 = .ok (.iload_n 2, 1) := by decide +kernel
theorem dX7_way_23 : decode cX7_way 23 = .ok (.iload_n 3, 1) := by decide +kernel
theorem dX7_way_24 : decode cX7_way 24 = .ok (.if_icmp .eq 9, 3) := by decide +kernel
theorem dX7_way_27 : decode cX7_way 27 = .ok (.iload 4, 2) := by decide +kernel
theorem dX7_way_29 : decode cX7_way 29 = .ok (.iconst (-1), 1) := by decide +kernel
theorem dX7_way_30 : decode cX7_way 30 = .ok (.if_icmp .ge 10, 3) := by decide +kernel
theorem dX7_way_33 : decode cX7_way 33 = .ok (.aload_n 0, 1) := by decide +kernel
theorem dX7_way_34 : decode cX7_way 34 = .ok (.bipush (-2), 2) := by decide +kernel
theorem dX7_way_36 : decode cX7_way 36 = .ok (.invokevirtual 48, 3) := by decide +kernel
theorem dX7_way_39 : decode cX7_way 39 = .ok (.ireturn, 1) := by decide +kernel
theorem dX7_way_40 : decode cX7_way 40 = .ok (.aload_n 0, 1) := by decide +kernel
theorem dX7_way_41 : decode cX7_way 41 = .ok (.iload_n 1, 1) := by decide +kernel
theorem dX7_way_42 : decode cX7_way 42 = .ok (.iload_n 2, 1) := by decide +kernel
theorem dX7_way_43 : decode cX7_way 43 = .ok (.iload_n 3, 1) := by decide +kernel
theorem dX7_way_44 : decode cX7_way 44 = .ok (.invokevirtual 161, 3) := by decide +kernel
theorem dX7_way_47 : decode cX7_way 47 = .ok (.aload_n 0, 1) := by decide +kernel
theorem dX7_way_48 : decode cX7_way 48 = .ok (.getfield 158, 3) := by decide +kernel
theorem dX7_way_51 : decode cX7_way 51 = .ok (.ifCond .eq 12, 3) := by decide +kernel
theorem dX7_way_54 : decode cX7_way 54 = .ok (.iload 4, 2) := by decide +kernel
theorem dX7_way_56 : decode cX7_way 56 = .ok (.aload_n 0, 1) := by decide +kernel
theorem dX7_way_57 : decode cX7_way 57 = .ok (.getfield 158, 3) := by decide +kernel
theorem dX7_way_60 : decode cX7_way 60 = .ok (.if_icmp .lt 8, 3) := by decide +kernel
theorem dX7_way_63 : decode cX7_way 63 = .ok (.bipush (-5), 2) := by decide +kernel
theorem dX7_way_65 : decode cX7_way 65 = .ok (.goto 23, 3) := by decide +kernel
theorem dX7_way_68 : decode cX7_way 68 = .ok (.iload 4, 2) := by decide +kernel
theorem dX7_way_70 : decode cX7_way 70 = .ok (.iconst (-1), 1) := by decide +kernel
theorem dX7_way_71 : decode cX7_way 71 = .ok (.if_icmp .ne 10, 3) := by decide +kernel
theorem dX7_way_74 : decode cX7_way 74 = .ok (.aload_n 0, 1) := by decide +kernel
theorem dX7_way_75 : decode cX7_way 75 = .ok (.getfield 158, 3) := by decide +kernel
theorem dX7_way_78 : decode cX7_way 78 = .ok (.goto 10, 3) := by decide +kernel
theorem dX7_way_81 : decode cX7_way 81 = .ok (.aload_n 0, 1) := by decide +kernel
theorem dX7_way_82 : decode cX7_way 82 = .ok (.getfield 37, 3) := by decide +kernel
theorem dX7_way_85 : decode cX7_way 85 = .ok (.iload 4, 2) := by decide +kernel
theorem dX7_way_87 : decode cX7_way 87 = .ok (.iaload, 1) := by decide +kernel
theorem dX7_way_88 : decode cX7_way 88 = .ok (.ireturn, 1) := by decide +kernel
set_option maxRecDepth 20000 in
theorem ggX7_passed_X7_in : GoodIn wsX7_passed wsX7_in := goodIn_r _ [5] (by decide +kernel) (by decide +kernel)
set_option maxRecDepth 20000 in
theorem gX7_passed_X7_in : GoodIn wsX7_passed (va_wsS RX7 56 yX7_in wsX7_in) := goodIn_app (goodIn_of _ (by decide +kernel)) ggX7_passed_X7_in
set_option maxRecDepth 20000 in
theorem ggX7_passed_X7_refuse : GoodIn wsX7_passed wsX7_refuse := goodIn_r _ [9, 10, 11, 12, 13, 14, 15, 16, 17, 18, 19, 20, 21, 22, 23, 24, 25] (by decide +kernel) (by decide +kernel)
set_option maxRecDepth 20000 in
theorem gX7_passed_X7_refuse : GoodIn wsX7_passed (wsV RX7 48 RX7 yX7_refuse wsX7_refuse) := goodIn_app (goodIn_of _ (by decide +kernel)) ggX7_passed_X7_refuse
theorem dX7_passed_0 : decode cX7_passed 0 = .ok (.iload_n 1, 1) := by decide +kernel
theorem dX7_passed_1 : decode cX7_passed 1 = .ok (.ifCond .lt 12, 3) := by decide +kernel
theorem dX7_passed_4 : decode cX7_passed 4 = .ok (.iload_n 2, 1) := by decide +kernel
theorem dX7_passed_5 : decode cX7_passed 5 = .ok (.iconst 0, 1) := by decide +kernel
theorem dX7_passed_6 : decode cX7_passed 6 = .ok (.iconst 2, 1) := by decide +kernel
theorem dX7_passed_7 : decode cX7_passed 7 = .ok (.invokestatic 56, 3) := by decide +kernel
theorem dX7_passed_10 : decode cX7_passed 10 = .ok (.ifCond .ne 10, 3) := by decide +kernel
theorem dX7_passed_13 : decode cX7_passed 13 = .ok (.aload_n 0, 1) := by decide +kernel
theorem dX7_passed_14 : decode cX7_passed 14 = .ok (.bipush (-2), 2) := by decide +kernel
theorem dX7_passed_16 : decode cX7_passed 16 = .ok (.invokevirtual 48, 3) := by decide +kernel
theorem dX7_passed_19 : decode cX7_passed 19 = .ok (.ireturn, 1) := by decide +kernel
theorem dX7_passed_20 : decode cX7_passed 20 = .ok (.iload_n 1, 1) := by decide +kernel
theorem dX7_passed_21 : decode cX7_passed 21 = .ok (.aload_n 0, 1) := by decide +kernel
theorem dX7_passed_22 : decode cX7_passed 22 = .ok (.getfield 7, 3) := by decide +kernel
theorem dX7_passed_25 : decode cX7_passed 25 = .ok (.sipush 540, 3) := by decide +kernel
theorem dX7_passed_28 : decode cX7_passed 28 = .ok (.iaload, 1) := by decide +kernel
theorem dX7_passed_29 : decode cX7_passed 29 = .ok (.if_icmp .ge 20, 3) := by decide +kernel
theorem dX7_passed_32 : decode cX7_passed 32 = .ok (.aload_n 0, 1) := by decide +kernel
theorem dX7_passed_33 : decode cX7_passed 33 = .ok (.getfield 7, 3) := by decide +kernel
theorem dX7_passed_36 : decode cX7_passed 36 = .ok (.sipush 541, 3) := by decide +kernel
theorem dX7_passed_39 : decode cX7_passed 39 = .ok (.iconst 3, 1) := by decide +kernel
theorem dX7_passed_40 : decode cX7_passed 40 = .ok (.iload_n 1, 1) := by decide +kernel
theorem dX7_passed_41 : decode cX7_passed 41 = .ok (.imul, 1) := by decide +kernel
theorem dX7_passed_42 : decode cX7_passed 42 = .ok (.iadd, 1) := by decide +kernel
theorem dX7_passed_43 : decode cX7_passed 43 = .ok (.iload_n 2, 1) := by decide +kernel
theorem dX7_passed_44 : decode cX7_passed 44 = .ok (.iadd, 1) := by decide +kernel
theorem dX7_passed_45 : decode cX7_passed 45 = .ok (.iaload, 1) := by decide +kernel
theorem dX7_passed_46 : decode cX7_passed 46 = .ok (.goto 4, 3) := by decide +kernel
theorem dX7_passed_49 : decode cX7_passed 49 = .ok (.iconst (-1), 1) := by decide +kernel
theorem dX7_passed_50 : decode cX7_passed 50 = .ok (.ireturn, 1) := by decide +kernel
theorem dX7_countOf_0 : decode cX7_countOf 0 = .ok (.iload_n 1, 1) := by decide +kernel
theorem dX7_countOf_1 : decode cX7_countOf 1 = .ok (.ifCond .ne 14, 3) := by decide +kernel
theorem dX7_countOf_4 : decode cX7_countOf 4 = .ok (.aload_n 0, 1) := by decide +kernel
theorem dX7_countOf_5 : decode cX7_countOf 5 = .ok (.getfield 7, 3) := by decide +kernel
theorem dX7_countOf_8 : decode cX7_countOf 8 = .ok (.sipush 528, 3) := by decide +kernel
theorem dX7_countOf_11 : decode cX7_countOf 11 = .ok (.iaload, 1) := by decide +kernel
theorem dX7_countOf_12 : decode cX7_countOf 12 = .ok (.goto 34, 3) := by decide +kernel
theorem dX7_countOf_15 : decode cX7_countOf 15 = .ok (.iload_n 1, 1) := by decide +kernel
theorem dX7_countOf_16 : decode cX7_countOf 16 = .ok (.iconst 1, 1) := by decide +kernel
theorem dX7_countOf_17 : decode cX7_countOf 17 = .ok (.if_icmp .ne 17, 3) := by decide +kernel
theorem dX7_countOf_20 : decode cX7_countOf 20 = .ok (.aload_n 0, 1) := by decide +kernel
theorem dX7_countOf_21 : decode cX7_countOf 21 = .ok (.getfield 7, 3) := by decide +kernel
theorem dX7_countOf_24 : decode cX7_countOf 24 = .ok (.sipush 528, 3) := by decide +kernel
theorem dX7_countOf_27 : decode cX7_countOf 27 = .ok (.iaload, 1) := by decide +kernel
theorem dX7_countOf_28 : decode cX7_countOf 28 = .ok (.bipush 24, 2) := by decide +kernel
theorem dX7_countOf_30 : decode cX7_countOf 30 = .ok (.irem, 1) := by decide +kernel
theorem dX7_countOf_31 : decode cX7_countOf 31 = .ok (.goto 15, 3) := by decide +kernel
theorem dX7_countOf_34 : decode cX7_countOf 34 = .ok (.aload_n 0, 1) := by decide +kernel
theorem dX7_countOf_35 : decode cX7_countOf 35 = .ok (.getfield 7, 3) := by decide +kernel
theorem dX7_countOf_38 : decode cX7_countOf 38 = .ok (.sipush 531, 3) := by decide +kernel
theorem dX7_countOf_41 : decode cX7_countOf 41 = .ok (.iload_n 1, 1) := by decide +kernel
theorem dX7_countOf_42 : decode cX7_countOf 42 = .ok (.iadd, 1) := by decide +kernel
theorem dX7_countOf_43 : decode cX7_countOf 43 = .ok (.iconst 2, 1) := by decide +kernel
theorem dX7_countOf_44 : decode cX7_countOf 44 = .ok (.isub, 1) := by decide +kernel
theorem dX7_countOf_45 : decode cX7_countOf 45 = .ok (.iaload, 1) := by decide +kernel
theorem dX7_countOf_46 : decode cX7_countOf 46 = .ok (.ireturn, 1) := by decide +kernel
set_option maxRecDepth 20000 in
theorem ggX7_count_X7_in : GoodIn wsX7_count wsX7_in := goodIn_r _ [4] (by decide +kernel) (by decide +kernel)
set_option maxRecDepth 20000 in
theorem gX7_count_X7_in : GoodIn wsX7_count (va_wsS RX7 56 yX7_in wsX7_in) := goodIn_app (goodIn_of _ (by decide +kernel)) ggX7_count_X7_in
set_option maxRecDepth 20000 in
theorem ggX7_count_X7_countOf : GoodIn wsX7_count wsX7_countOf := goodIn_r _ [8, 9, 15, 16, 17, 18, 19, 20, 21, 22, 23, 24, 25, 26, 27, 28, 29] (by decide +kernel) (by decide +kernel)
set_option maxRecDepth 20000 in
theorem gX7_count_X7_countOf : GoodIn wsX7_count (wsV RX7 164 RX7 yX7_countOf wsX7_countOf) := goodIn_app (goodIn_of _ (by decide +kernel)) ggX7_count_X7_countOf
set_option maxRecDepth 20000 in
theorem ggX7_count_X7_refuse : GoodIn wsX7_count wsX7_refuse := goodIn_r _ [13, 14, 15, 16, 17, 18, 19, 20, 21, 22, 23, 24, 25, 26, 27, 28, 29] (by decide +kernel) (by decide +kernel)
set_option maxRecDepth 20000 in
theorem gX7_count_X7_refuse : GoodIn wsX7_count (wsV RX7 48 RX7 yX7_refuse wsX7_refuse) := goodIn_app (goodIn_of _ (by decide +kernel)) ggX7_count_X7_refuse
theorem dX7_count_0 : decode cX7_count 0 = .ok (.iload_n 1, 1) := by decide +kernel
theorem dX7_count_1 : decode cX7_count 1 = .ok (.iconst 0, 1) := by decide +kernel
theorem dX7_count_2 : decode cX7_count 2 = .ok (.bipush 11, 2) := by decide +kernel
theorem dX7_count_4 : decode cX7_count 4 = .ok (.invokestatic 56, 3) := by decide +kernel
theorem dX7_count_7 : decode cX7_count 7 = .ok (.ifCond .eq 11, 3) := by decide +kernel
theorem dX7_count_10 : decode cX7_count 10 = .ok (.aload_n 0, 1) := by decide +kernel
theorem dX7_count_11 : decode cX7_count 11 = .ok (.iload_n 1, 1) := by decide +kernel
theorem dX7_count_12 : decode cX7_count 12 = .ok (.invokevirtual 164, 3) := by decide +kernel
theorem dX7_count_15 : decode cX7_count 15 = .ok (.goto 9, 3) := by decide +kernel
theorem dX7_count_18 : decode cX7_count 18 = .ok (.aload_n 0, 1) := by decide +kernel
theorem dX7_count_19 : decode cX7_count 19 = .ok (.bipush (-2), 2) := by decide +kernel
theorem dX7_count_21 : decode cX7_count 21 = .ok (.invokevirtual 48, 3) := by decide +kernel
theorem dX7_count_24 : decode cX7_count 24 = .ok (.ireturn, 1) := by decide +kernel
set_option maxRecDepth 20000 in
theorem ggX7_type_X7_in : GoodIn wsX7_type wsX7_in := goodIn_r _ [6] (by decide +kernel) (by decide +kernel)
set_option maxRecDepth 20000 in
theorem gX7_type_X7_in : GoodIn wsX7_type (va_wsS RX7 56 yX7_in wsX7_in) := goodIn_app (goodIn_of _ (by decide +kernel)) ggX7_type_X7_in
set_option maxRecDepth 20000 in
theorem ggX7_type_X7_refuse : GoodIn wsX7_type wsX7_refuse := goodIn_r _ [10, 11, 12, 13, 14, 15, 16, 17, 18, 19, 20, 21, 22, 23, 24, 25, 26] (by decide +kernel) (by decide +kernel)
set_option maxRecDepth 20000 in
theorem gX7_type_X7_refuse : GoodIn wsX7_type (wsV RX7 48 RX7 yX7_refuse wsX7_refuse) := goodIn_app (goodIn_of _ (by decide +kernel)) ggX7_type_X7_refuse
theorem dX7_type_0 : decode cX7_type 0 = .ok (.iload_n 1, 1) := by decide +kernel
theorem dX7_type_1 : decode cX7_type 1 = .ok (.iconst 0, 1) := by decide +kernel
theorem dX7_type_2 : decode cX7_type 2 = .ok (.bipush 127, 2) := by decide +kernel
theorem dX7_type_4 : decode cX7_type 4 = .ok (.invokestatic 56, 3) := by decide +kernel
theorem dX7_type_7 : decode cX7_type 7 = .ok (.ifCond .ne 10, 3) := by decide +kernel
theorem dX7_type_10 : decode cX7_type 10 = .ok (.aload_n 0, 1) := by decide +kernel
theorem dX7_type_11 : decode cX7_type 11 = .ok (.bipush (-2), 2) := by decide +kernel
theorem dX7_type_13 : decode cX7_type 13 = .ok (.invokevirtual 48, 3) := by decide +kernel
theorem dX7_type_16 : decode cX7_type 16 = .ok (.ireturn, 1) := by decide +kernel
theorem dX7_type_17 : decode cX7_type 17 = .ok (.aload_n 0, 1) := by decide +kernel
theorem dX7_type_18 : decode cX7_type 18 = .ok (.getfield 167, 3) := by decide +kernel
theorem dX7_type_21 : decode cX7_type 21 = .ok (.sipush 150, 3) := by decide +kernel
theorem dX7_type_24 : decode cX7_type 24 = .ok (.if_icmp .ne 10, 3) := by decide +kernel
theorem dX7_type_27 : decode cX7_type 27 = .ok (.aload_n 0, 1) := by decide +kernel
theorem dX7_type_28 : decode cX7_type 28 = .ok (.bipush (-4), 2) := by decide +kernel
theorem dX7_type_30 : decode cX7_type 30 = .ok (.invokevirtual 48, 3) := by decide +kernel
theorem dX7_type_33 : decode cX7_type 33 = .ok (.ireturn, 1) := by decide +kernel
theorem dX7_type_34 : decode cX7_type 34 = .ok (.aload_n 0, 1) := by decide +kernel
theorem dX7_type_35 : decode cX7_type 35 = .ok (.getfield 22, 3) := by decide +kernel
theorem dX7_type_38 : decode cX7_type 38 = .ok (.aload_n 0, 1) := by decide +kernel
theorem dX7_type_39 : decode cX7_type 39 = .ok (.getfield 167, 3) := by decide +kernel
theorem dX7_type_42 : decode cX7_type 42 = .ok (.iload_n 1, 1) := by decide +kernel
theorem dX7_type_43 : decode cX7_type 43 = .ok (.iastore, 1) := by decide +kernel
theorem dX7_type_44 : decode cX7_type 44 = .ok (.aload_n 0, 1) := by decide +kernel
theorem dX7_type_45 : decode cX7_type 45 = .ok (.dup, 1) := by decide +kernel
theorem dX7_type_46 : decode cX7_type 46 = .ok (.getfield 167, 3) := by decide +kernel
theorem dX7_type_49 : decode cX7_type 49 = .ok (.iconst 1, 1) := by decide +kernel
theorem dX7_type_50 : decode cX7_type 50 = .ok (.iadd, 1) := by decide +kernel
theorem dX7_type_51 : decode cX7_type 51 = .ok (.putfield 167, 3) := by decide +kernel
theorem dX7_type_54 : decode cX7_type 54 = .ok (.aload_n 0, 1) := by decide +kernel
theorem dX7_type_55 : decode cX7_type 55 = .ok (.getfield 167, 3) := by decide +kernel
theorem dX7_type_58 : decode cX7_type 58 = .ok (.ireturn, 1) := by decide +kernel
theorem dX7_clear_0 : decode cX7_clear 0 = .ok (.aload_n 0, 1) := by decide +kernel
theorem dX7_clear_1 : decode cX7_clear 1 = .ok (.getfield 167, 3) := by decide +kernel
theorem dX7_clear_4 : decode cX7_clear 4 = .ok (.istore_n 1, 1) := by decide +kernel
theorem dX7_clear_5 : decode cX7_clear 5 = .ok (.aload_n 0, 1) := by decide +kernel
theorem dX7_clear_6 : decode cX7_clear 6 = .ok (.iconst 0, 1) := by decide +kernel
theorem dX7_clear_7 : decode cX7_clear 7 = .ok (.putfield 167, 3) := by decide +kernel
theorem dX7_clear_10 : decode cX7_clear 10 = .ok (.iload_n 1, 1) := by decide +kernel
theorem dX7_clear_11 : decode cX7_clear 11 = .ok (.ireturn, 1) := by decide +kernel
theorem dX7_lettersFrom_0 : decode cX7_lettersFrom 0 = .ok (.lconst 0, 1) := by decide +kernel
theorem dX7_lettersFrom_1 : decode cX7_lettersFrom 1 = .ok (.lstore_n 3, 1) := by decide +kernel
theorem dX7_lettersFrom_2 : decode cX7_lettersFrom 2 = .ok (.iload_n 2, 1) := by decide +kernel
theorem dX7_lettersFrom_3 : decode cX7_lettersFrom 3 = .ok (.iconst 1, 1) := by decide +kernel
theorem dX7_lettersFrom_4 : decode cX7_lettersFrom 4 = .ok (.isub, 1) := by decide +kernel
theorem dX7_lettersFrom_5 : decode cX7_lettersFrom 5 = .ok (.istore 5, 2) := by decide +kernel
theorem dX7_lettersFrom_7 : decode cX7_lettersFrom 7 = .ok (.iload 5, 2) := by decide +kernel
theorem dX7_lettersFrom_9 : decode cX7_lettersFrom 9 = .ok (.iload_n 1, 1) := by decide +kernel
theorem dX7_lettersFrom_10 : decode cX7_lettersFrom 10 = .ok (.if_icmp .lt 38, 3) := by decide +kernel
theorem dX7_lettersFrom_13 : decode cX7_lettersFrom 13 = .ok (.iload_n 2, 1) := by decide +kernel
theorem dX7_lettersFrom_14 : decode cX7_lettersFrom 14 = .ok (.iload_n 1, 1) := by decide +kernel
theorem dX7_lettersFrom_15 : decode cX7_lettersFrom 15 = .ok (.isub, 1) := by decide +kernel
theorem dX7_lettersFrom_16 : decode cX7_lettersFrom 16 = .ok (.bipush 10, 2) := by decide +kernel
theorem dX7_lettersFrom_18 : decode cX7_lettersFrom 18 = .ok (.if_icmp .ge 30, 3) := by decide +kernel
theorem dX7_lettersFrom_21 : decode cX7_lettersFrom 21 = .ok (.lload_n 3, 1) := by decide +kernel
theorem dX7_lettersFrom_22 : decode cX7_lettersFrom 22 = .ok (.ldc2_w 170, 3) := by decide +kernel
theorem dX7_lettersFrom_25 : decode cX7_lettersFrom 25 = .ok (.lmul, 1) := by decide +kernel
theorem dX7_lettersFrom_26 : decode cX7_lettersFrom 26 = .ok (.aload_n 0, 1) := by decide +kernel
theorem dX7_lettersFrom_27 : decode cX7_lettersFrom 27 = .ok (.getfield 22, 3) := by decide +kernel
theorem dX7_lettersFrom_30 : decode cX7_lettersFrom 30 = .ok (.iload 5, 2) := by decide +kernel
theorem dX7_lettersFrom_32 : decode cX7_lettersFrom 32 = .ok (.iaload, 1) := by decide +kernel
theorem dX7_lettersFrom_33 : decode cX7_lettersFrom 33 = .ok (.i2l, 1) := by decide +kernel
theorem dX7_lettersFrom_34 : decode cX7_lettersFrom 34 = .ok (.ladd, 1) := by decide +kernel
theorem dX7_lettersFrom_35 : decode cX7_lettersFrom 35 = .ok (.ldc2_w 172, 3) := by decide +kernel
theorem dX7_lettersFrom_38 : decode cX7_lettersFrom 38 = .ok (.lsub, 1) := by decide +kernel
theorem dX7_lettersFrom_39 : decode cX7_lettersFrom 39 = .ok (.lconst 1, 1) := by decide +kernel
theorem dX7_lettersFrom_40 : decode cX7_lettersFrom 40 = .ok (.ladd, 1) := by decide +kernel
theorem dX7_lettersFrom_41 : decode cX7_lettersFrom 41 = .ok (.lstore_n 3, 1) := by decide +kernel
theorem dX7_lettersFrom_42 : decode cX7_lettersFrom 42 = .ok (.iinc 5 (-1), 3) := by decide +kernel
theorem dX7_lettersFrom_45 : decode cX7_lettersFrom 45 = .ok (.goto (-38), 3) := by decide +kernel
theorem dX7_lettersFrom_48 : decode cX7_lettersFrom 48 = .ok (.lload_n 3, 1) := by decide +kernel
theorem dX7_lettersFrom_49 : decode cX7_lettersFrom 49 = .ok (.lreturn, 1) := by decide +kernel
theorem dX7_word_0 : decode cX7_word 0 = .ok (.iload 5, 2) := by decide +kernel
theorem dX7_word_2 : decode cX7_word 2 = .ok (.i2l, 1) := by decide +kernel
theorem dX7_word_3 : decode cX7_word 3 = .ok (.ldc2_w 170, 3) := by decide +kernel
theorem dX7_word_6 : decode cX7_word 6 = .ok (.lmul, 1) := by decide +kernel
theorem dX7_word_7 : decode cX7_word 7 = .ok (.iload 4, 2) := by decide +kernel
theorem dX7_word_9 : decode cX7_word 9 = .ok (.i2l, 1) := by decide +kernel
theorem dX7_word_10 : decode cX7_word 10 = .ok (.ladd, 1) := by decide +kernel
theorem dX7_word_11 : decode cX7_word 11 = .ok (.ldc2_w 170, 3) := by decide +kernel
theorem dX7_word_14 : decode cX7_word 14 = .ok (.lmul, 1) := by decide +kernel
theorem dX7_word_15 : decode cX7_word 15 = .ok (.iload_n 3, 1) := by decide +kernel
theorem dX7_word_16 : decode cX7_word 16 = .ok (.i2l, 1) := by decide +kernel
theorem dX7_word_17 : decode cX7_word 17 = .ok (.ladd, 1) := by decide +kernel
theorem dX7_word_18 : decode cX7_word 18 = .ok (.ldc2_w 170, 3) := by decide +kernel
theorem dX7_word_21 : decode cX7_word 21 = .ok (.lmul, 1) := by decide +kernel
theorem dX7_word_22 : decode cX7_word 22 = .ok (.iload_n 2, 1) := by decide +kernel
theorem dX7_word_23 : decode cX7_word 23 = .ok (.i2l, 1) := by decide +kernel
theorem dX7_word_24 : decode cX7_word 24 = .ok (.ladd, 1) := by decide +kernel
theorem dX7_word_25 : decode cX7_word 25 = .ok (.ldc2_w 170, 3) := by decide +kernel
theorem dX7_word_28 : decode cX7_word 28 = .ok (.lmul, 1) := by decide +kernel
theorem dX7_word_29 : decode cX7_word 29 = .ok (.iload_n 1, 1) := by decide +kernel
theorem dX7_word_30 : decode cX7_word 30 = .ok (.i2l, 1) := by decide +kernel
theorem dX7_word_31 : decode cX7_word 31 = .ok (.ladd, 1) := by decide +kernel
theorem dX7_word_32 : decode cX7_word 32 = .ok (.ldc2_w 170, 3) := by decide +kernel
theorem dX7_word_35 : decode cX7_word 35 = .ok (.lmul, 1) := by decide +kernel
theorem dX7_word_36 : decode cX7_word 36 = .ok (.iload_n 0, 1) := by decide +kernel
theorem dX7_word_37 : decode cX7_word 37 = .ok (.i2l, 1) := by decide +kernel
theorem dX7_word_38 : decode cX7_word 38 = .ok (.ladd, 1) := by decide +kernel
theorem dX7_word_39 : decode cX7_word 39 = .ok (.lreturn, 1) := by decide +kernel
set_option maxRecDepth 20000 in
theorem ggX7_wordOf_X7_lettersFrom : GoodIn wsX7_wordOf wsX7_lettersFrom := goodIn_r _ [5, 6, 7, 8, 12, 13, 14, 15, 16, 17, 18, 19, 20, 21, 22, 23, 24, 25, 26] (by decide +kernel) (by decide +kernel)
set_option maxRecDepth 20000 in
theorem gX7_wordOf_X7_lettersFrom : GoodIn wsX7_wordOf (wsV RX7 174 RX7 yX7_lettersFrom wsX7_lettersFrom) := goodIn_app (goodIn_of _ (by decide +kernel)) ggX7_wordOf_X7_lettersFrom
set_option maxRecDepth 20000 in
theorem ggX7_wordOf_X7_word : GoodIn wsX7_wordOf wsX7_word := goodIn_r _ [11, 6] (by decide +kernel) (by decide +kernel)
set_option maxRecDepth 20000 in
theorem gX7_wordOf_X7_word : GoodIn wsX7_wordOf (va_wsS RX7 178 yX7_word wsX7_word) := goodIn_app (goodIn_of _ (by decide +kernel)) ggX7_wordOf_X7_word
theorem dX7_wordOf_0 : decode cX7_wordOf 0 = .ok (.aload_n 0, 1) := by decide +kernel
theorem dX7_wordOf_1 : decode cX7_wordOf 1 = .ok (.iload_n 1, 1) := by decide +kernel
theorem dX7_wordOf_2 : decode cX7_wordOf 2 = .ok (.iload_n 2, 1) := by decide +kernel
theorem dX7_wordOf_3 : decode cX7_wordOf 3 = .ok (.invokevirtual 174, 3) := by decide +kernel
theorem dX7_wordOf_6 : decode cX7_wordOf 6 = .ok (.lstore_n 3, 1) := by decide +kernel
theorem dX7_wordOf_7 : decode cX7_wordOf 7 = .ok (.iconst (-1), 1) := by decide +kernel
theorem dX7_wordOf_8 : decode cX7_wordOf 8 = .ok (.istore 5, 2) := by decide +kernel
theorem dX7_wordOf_10 : decode cX7_wordOf 10 = .ok (.lload_n 3, 1) := by decide +kernel
theorem dX7_wordOf_11 : decode cX7_wordOf 11 = .ok (.iconst 2, 1) := by decide +kernel
theorem dX7_wordOf_12 : decode cX7_wordOf 12 = .ok (.iconst 1, 1) := by decide +kernel
theorem dX7_wordOf_13 : decode cX7_wordOf 13 = .ok (.iconst 4, 1) := by decide +kernel
theorem dX7_wordOf_14 : decode cX7_wordOf 14 = .ok (.bipush 7, 2) := by decide +kernel
theorem dX7_wordOf_16 : decode cX7_wordOf 16 = .ok (.iconst 5, 1) := by decide +kernel
theorem dX7_wordOf_17 : decode cX7_wordOf 17 = .ok (.iconst 0, 1) := by decide +kernel
theorem dX7_wordOf_18 : decode cX7_wordOf 18 = .ok (.invokestatic 178, 3) := by decide +kernel
theorem dX7_wordOf_21 : decode cX7_wordOf 21 = .ok (.lcmp, 1) := by decide +kernel
theorem dX7_wordOf_22 : decode cX7_wordOf 22 = .ok (.ifCond .ne 7, 3) := by decide +kernel
theorem dX7_wordOf_25 : decode cX7_wordOf 25 = .ok (.iconst 0, 1) := by decide +kernel
theorem dX7_wordOf_26 : decode cX7_wordOf 26 = .ok (.goto 5, 3) := by decide +kernel
theorem dX7_wordOf_29 : decode cX7_wordOf 29 = .ok (.iload 5, 2) := by decide +kernel
theorem dX7_wordOf_31 : decode cX7_wordOf 31 = .ok (.istore 5, 2) := by decide +kernel
theorem dX7_wordOf_33 : decode cX7_wordOf 33 = .ok (.lload_n 3, 1) := by decide +kernel
theorem dX7_wordOf_34 : decode cX7_wordOf 34 = .ok (.iconst 4, 1) := by decide +kernel
theorem dX7_wordOf_35 : decode cX7_wordOf 35 = .ok (.bipush 15, 2) := by decide +kernel
theorem dX7_wordOf_37 : decode cX7_wordOf 37 = .ok (.bipush 15, 2) := by decide +kernel
theorem dX7_wordOf_39 : decode cX7_wordOf 39 = .ok (.bipush 18, 2) := by decide +kernel
theorem dX7_wordOf_41 : decode cX7_wordOf 41 = .ok (.iconst 0, 1) := by decide +kernel
theorem dX7_wordOf_42 : decode cX7_wordOf 42 = .ok (.iconst 0, 1) := by decide +kernel
theorem dX7_wordOf_43 : decode cX7_wordOf 43 = .ok (.invokestatic 178, 3) := by decide +kernel
theorem dX7_wordOf_46 : decode cX7_wordOf 46 = .ok (.lcmp, 1) := by decide +kernel
theorem dX7_wordOf_47 : decode cX7_wordOf 47 = .ok (.ifCond .ne 7, 3) := by decide +kernel
theorem dX7_wordOf_50 : decode cX7_wordOf 50 = .ok (.iconst 1, 1) := by decide +kernel
theorem dX7_wordOf_51 : decode cX7_wordOf 51 = .ok (.goto 5, 3) := by decide +kernel
theorem dX7_wordOf_54 : decode cX7_wordOf 54 = .ok (.iload 5, 2) := by decide +kernel
theorem dX7_wordOf_56 : decode cX7_wordOf 56 = .ok (.istore 5, 2) := by decide +kernel
theorem dX7_wordOf_58 : decode cX7_wordOf 58 = .ok (.lload_n 3, 1) := by decide +kernel
theorem dX7_wordOf_59 : decode cX7_wordOf 59 = .ok (.iconst 1, 1) := by decide +kernel
theorem dX7_wordOf_60 : decode cX7_wordOf 60 = .ok (.bipush 19, 2) := by decide +kernel
theorem dX7_wordOf_62 : decode cX7_wordOf 62 = .ok (.bipush 11, 2) := by decide +kernel
theorem dX7_wordOf_64 : decode cX7_wordOf 64 = .ok (.iconst 0, 1) := by decide +kernel
theorem dX7_wordOf_65 : decode cX7_wordOf 65 = .ok (.iconst 0, 1) := by decide +kernel
theorem dX7_wordOf_66 : decode cX7_wordOf 66 = .ok (.iconst 0, 1) := by decide +kernel
theorem dX7_wordOf_67 : decode cX7_wordOf 67 = .ok (.invokestatic 178, 3) := by decide +kernel
theorem dX7_wordOf_70 : decode cX7_wordOf 70 = .ok (.lcmp, 1) := by decide +kernel
theorem dX7_wordOf_71 : decode cX7_wordOf 71 = .ok (.ifCond .ne 7, 3) := by decide +kernel
theorem dX7_wordOf_74 : decode cX7_wordOf 74 = .ok (.iconst 2, 1) := by decide +kernel
theorem dX7_wordOf_75 : decode cX7_wordOf 75 = .ok (.goto 5, 3) := by decide +kernel
theorem dX7_wordOf_78 : decode cX7_wordOf 78 = .ok (.iload 5, 2) := by decide +kernel
theorem dX7_wordOf_80 : decode cX7_wordOf 80 = .ok (.istore 5, 2) := by decide +kernel
theorem dX7_wordOf_82 : decode cX7_wordOf 82 = .ok (.lload_n 3, 1) := by decide +kernel
theorem dX7_wordOf_83 : decode cX7_wordOf 83 = .ok (.iconst 4, 1) := by decide +kernel
theorem dX7_wordOf_84 : decode cX7_wordOf 84 = .ok (.bipush 21, 2) := by decide +kernel
theorem dX7_wordOf_86 : decode cX7_wordOf 86 = .ok (.bipush 18, 2) := by decide +kernel
theorem dX7_wordOf_88 : decode cX7_wordOf 88 = .ok (.iconst 5, 1) := by decide +kernel
theorem dX7_wordOf_89 : decode cX7_wordOf 89 = .ok (.bipush 19, 2) := by decide +kernel
theorem dX7_wordOf_91 : decode cX7_wordOf 91 = .ok (.bipush 19, 2) := by decide +kernel
theorem dX7_wordOf_93 : decode cX7_wordOf 93 = .ok (.invokestatic 178, 3) := by decide +kernel
theorem dX7_wordOf_96 : decode cX7_wordOf 96 = .ok (.lcmp, 1) := by decide +kernel
theorem dX7_wordOf_97 : decode cX7_wordOf 97 = .ok (.ifCond .ne 7, 3) := by decide +kernel
theorem dX7_wordOf_100 : decode cX7_wordOf 100 = .ok (.iconst 3, 1) := by decide +kernel
theorem dX7_wordOf_101 : decode cX7_wordOf 101 = .ok (.goto 5, 3) := by decide +kernel
theorem dX7_wordOf_104 : decode cX7_wordOf 104 = .ok (.iload 5, 2) := by decide +kernel
theorem dX7_wordOf_106 : decode cX7_wordOf 106 = .ok (.istore 5, 2) := by decide +kernel
theorem dX7_wordOf_108 : decode cX7_wordOf 108 = .ok (.lload_n 3, 1) := by decide +kernel
theorem dX7_wordOf_109 : decode cX7_wordOf 109 = .ok (.bipush 23, 2) := by decide +kernel
theorem dX7_wordOf_111 : decode cX7_wordOf 111 = .ok (.iconst 1, 1) := by decide +kernel
theorem dX7_wordOf_112 : decode cX7_wordOf 112 = .ok (.bipush 9, 2) := by decide +kernel
theorem dX7_wordOf_114 : decode cX7_wordOf 114 = .ok (.bipush 20, 2) := by decide +kernel
theorem dX7_wordOf_116 : decode cX7_wordOf 116 = .ok (.iconst 0, 1) := by decide +kernel
theorem dX7_wordOf_117 : decode cX7_wordOf 117 = .ok (.iconst 0, 1) := by decide +kernel
theorem dX7_wordOf_118 : decode cX7_wordOf 118 = .ok (.invokestatic 178, 3) := by decide +kernel
theorem dX7_wordOf_121 : decode cX7_wordOf 121 = .ok (.lcmp, 1) := by decide +kernel
theorem dX7_wordOf_122 : decode cX7_wordOf 122 = .ok (.ifCond .ne 7, 3) := by decide +kernel
theorem dX7_wordOf_125 : decode cX7_wordOf 125 = .ok (.iconst 4, 1) := by decide +kernel
theorem dX7_wordOf_126 : decode cX7_wordOf 126 = .ok (.goto 5, 3) := by decide +kernel
theorem dX7_wordOf_129 : decode cX7_wordOf 129 = .ok (.iload 5, 2) := by decide +kernel
theorem dX7_wordOf_131 : decode cX7_wordOf 131 = .ok (.istore 5, 2) := by decide +kernel
theorem dX7_wordOf_133 : decode cX7_wordOf 133 = .ok (.lload_n 3, 1) := by decide +kernel
theorem dX7_wordOf_134 : decode cX7_wordOf 134 = .ok (.bipush 15, 2) := by decide +kernel
theorem dX7_wordOf_136 : decode cX7_wordOf 136 = .ok (.bipush 6, 2) := by decide +kernel
theorem dX7_wordOf_138 : decode cX7_wordOf 138 = .ok (.bipush 6, 2) := by decide +kernel
theorem dX7_wordOf_140 : decode cX7_wordOf 140 = .ok (.iconst 0, 1) := by decide +kernel
theorem dX7_wordOf_141 : decode cX7_wordOf 141 = .ok (.iconst 0, 1) := by decide +kernel
theorem dX7_wordOf_142 : decode cX7_wordOf 142 = .ok (.iconst 0, 1) := by decide +kernel
theorem dX7_wordOf_143 : decode cX7_wordOf 143 = .ok (.invokestatic 178, 3) := by decide +kernel
theorem dX7_wordOf_146 : decode cX7_wordOf 146 = .ok (.lcmp, 1) := by decide +kernel
theorem dX7_wordOf_147 : decode cX7_wordOf 147 = .ok (.ifCond .ne 7, 3) := by decide +kernel
theorem dX7_wordOf_150 : decode cX7_wordOf 150 = .ok (.iconst 5, 1) := by decide +kernel
theorem dX7_wordOf_151 : decode cX7_wordOf 151 = .ok (.goto 5, 3) := by decide +kernel
theorem dX7_wordOf_154 : decode cX7_wordOf 154 = .ok (.iload 5, 2) := by decide +kernel
theorem dX7_wordOf_156 : decode cX7_wordOf 156 = .ok (.istore 5, 2) := by decide +kernel
theorem dX7_wordOf_158 : decode cX7_wordOf 158 = .ok (.lload_n 3, 1) := by decide +kernel
theorem dX7_wordOf_159 : decode cX7_wordOf 159 = .ok (.bipush 15, 2) := by decide +kernel
theorem dX7_wordOf_161 : decode cX7_wordOf 161 = .ok (.bipush 14, 2) := by decide +kernel
theorem dX7_wordOf_163 : decode cX7_wordOf 163 = .ok (.iconst 0, 1) := by decide +kernel
theorem dX7_wordOf_164 : decode cX7_wordOf 164 = .ok (.iconst 0, 1) := by decide +kernel
theorem dX7_wordOf_165 : decode cX7_wordOf 165 = .ok (.iconst 0, 1) := by decide +kernel
theorem dX7_wordOf_166 : decode cX7_wordOf 166 = .ok (.iconst 0, 1) := by decide +kernel
theorem dX7_wordOf_167 : decode cX7_wordOf 167 = .ok (.invokestatic 178, 3) := by decide +kernel
theorem dX7_wordOf_170 : decode cX7_wordOf 170 = .ok (.lcmp, 1) := by decide +kernel
theorem dX7_wordOf_171 : decode cX7_wordOf 171 = .ok (.ifCond .ne 8, 3) := by decide +kernel
theorem dX7_wordOf_174 : decode cX7_wordOf 174 = .ok (.bipush 6, 2) := by decide +kernel
theorem dX7_wordOf_176 : decode cX7_wordOf 176 = .ok (.goto 5, 3) := by decide +kernel
theorem dX7_wordOf_179 : decode cX7_wordOf 179 = .ok (.iload 5, 2) := by decide +kernel
theorem dX7_wordOf_181 : decode cX7_wordOf 181 = .ok (.istore 5, 2) := by decide +kernel
theorem dX7_wordOf_183 : decode cX7_wordOf 183 = .ok (.lload_n 3, 1) := by decide +kernel
theorem dX7_wordOf_184 : decode cX7_wordOf 184 = .ok (.iconst 2, 1) := by decide +kernel
theorem dX7_wordOf_185 : decode cX7_wordOf 185 = .ok (.iconst 1, 1) := by decide +kernel
theorem dX7_wordOf_186 : decode cX7_wordOf 186 = .ok (.bipush 18, 2) := by decide +kernel
theorem dX7_wordOf_188 : decode cX7_wordOf 188 = .ok (.iconst 0, 1) := by decide +kernel
theorem dX7_wordOf_189 : decode cX7_wordOf 189 = .ok (.iconst 0, 1) := by decide +kernel
theorem dX7_wordOf_190 : decode cX7_wordOf 190 = .ok (.iconst 0, 1) := by decide +kernel
theorem dX7_wordOf_191 : decode cX7_wordOf 191 = .ok (.invokestatic 178, 3) := by decide +kernel
theorem dX7_wordOf_194 : decode cX7_wordOf 194 = .ok (.lcmp, 1) := by decide +kernel
theorem dX7_wordOf_195 : decode cX7_wordOf 195 = .ok (.ifCond .ne 8, 3) := by decide +kernel
theorem dX7_wordOf_198 : decode cX7_wordOf 198 = .ok (.bipush 7, 2) := by decide +kernel
theorem dX7_wordOf_200 : decode cX7_wordOf 200 = .ok (.goto 5, 3) := by decide +kernel
theorem dX7_wordOf_203 : decode cX7_wordOf 203 = .ok (.iload 5, 2) := by decide +kernel
theorem dX7_wordOf_205 : decode cX7_wordOf 205 = .ok (.ireturn, 1) := by decide +kernel
theorem dX7_wantsOf_0 : decode cX7_wantsOf 0 = .ok (.iload_n 0, 1) := by decide +kernel
theorem dX7_wantsOf_1 : decode cX7_wantsOf 1 = .ok (.iconst 1, 1) := by decide +kernel
theorem dX7_wantsOf_2 : decode cX7_wantsOf 2 = .ok (.if_icmp .ne 7, 3) := by decide +kernel
theorem dX7_wantsOf_5 : decode cX7_wantsOf 5 = .ok (.iconst 4, 1) := by decide +kernel
theorem dX7_wantsOf_6 : decode cX7_wantsOf 6 = .ok (.goto 18, 3) := by decide +kernel
theorem dX7_wantsOf_9 : decode cX7_wantsOf 9 = .ok (.iload_n 0, 1) := by decide +kernel
theorem dX7_wantsOf_10 : decode cX7_wantsOf 10 = .ok (.iconst 2, 1) := by decide +kernel
theorem dX7_wantsOf_11 : decode cX7_wantsOf 11 = .ok (.if_icmp .eq 8, 3) := by decide +kernel
theorem dX7_wantsOf_14 : decode cX7_wantsOf 14 = .ok (.iload_n 0, 1) := by decide +kernel
theorem dX7_wantsOf_15 : decode cX7_wantsOf 15 = .ok (.iconst 3, 1) := by decide +kernel
theorem dX7_wantsOf_16 : decode cX7_wantsOf 16 = .ok (.if_icmp .ne 7, 3) := by decide +kernel
theorem dX7_wantsOf_19 : decode cX7_wantsOf 19 = .ok (.iconst 2, 1) := by decide +kernel
theorem dX7_wantsOf_20 : decode cX7_wantsOf 20 = .ok (.goto 4, 3) := by decide +kernel
theorem dX7_wantsOf_23 : decode cX7_wantsOf 23 = .ok (.iconst 1, 1) := by decide +kernel
theorem dX7_wantsOf_24 : decode cX7_wantsOf 24 = .ok (.ireturn, 1) := by decide +kernel
theorem dX7_next_0 : decode cX7_next 0 = .ok (.aload_n 0, 1) := by decide +kernel
theorem dX7_next_1 : decode cX7_next 1 = .ok (.getfield 182, 3) := by decide +kernel
theorem dX7_next_4 : decode cX7_next 4 = .ok (.aload_n 0, 1) := by decide +kernel
theorem dX7_next_5 : decode cX7_next 5 = .ok (.getfield 167, 3) := by decide +kernel
theorem dX7_next_8 : decode cX7_next 8 = .ok (.if_icmp .ge 30, 3) := by decide +kernel
theorem dX7_next_11 : decode cX7_next 11 = .ok (.aload_n 0, 1) := by decide +kernel
theorem dX7_next_12 : decode cX7_next 12 = .ok (.getfield 22, 3) := by decide +kernel
theorem dX7_next_15 : decode cX7_next 15 = .ok (.aload_n 0, 1) := by decide +kernel
theorem dX7_next_16 : decode cX7_next 16 = .ok (.getfield 182, 3) := by decide +kernel
theorem dX7_next_19 : decode cX7_next 19 = .ok (.iaload, 1) := by decide +kernel
theorem dX7_next_20 : decode cX7_next 20 = .ok (.bipush 32, 2) := by decide +kernel
theorem dX7_next_22 : decode cX7_next 22 = .ok (.if_icmp .ne 16, 3) := by decide +kernel
theorem dX7_next_25 : decode cX7_next 25 = .ok (.aload_n 0, 1) := by decide +kernel
theorem dX7_next_26 : decode cX7_next 26 = .ok (.dup, 1) := by decide +kernel
theorem dX7_next_27 : decode cX7_next 27 = .ok (.getfield 182, 3) := by decide +kernel
theorem dX7_next_30 : decode cX7_next 30 = .ok (.iconst 1, 1) := by decide +kernel
theorem dX7_next_31 : decode cX7_next 31 = .ok (.iadd, 1) := by decide +kernel
theorem dX7_next_32 : decode cX7_next 32 = .ok (.putfield 182, 3) := by decide +kernel
theorem dX7_next_35 : decode cX7_next 35 = .ok (.goto (-35), 3) := by decide +kernel
theorem dX7_next_38 : decode cX7_next 38 = .ok (.aload_n 0, 1) := by decide +kernel
theorem dX7_next_39 : decode cX7_next 39 = .ok (.getfield 182, 3) := by decide +kernel
theorem dX7_next_42 : decode cX7_next 42 = .ok (.aload_n 0, 1) := by decide +kernel
theorem dX7_next_43 : decode cX7_next 43 = .ok (.getfield 167, 3) := by decide +kernel
theorem dX7_next_46 : decode cX7_next 46 = .ok (.if_icmp .ge 15, 3) := by decide +kernel
theorem dX7_next_49 : decode cX7_next 49 = .ok (.aload_n 0, 1) := by decide +kernel
theorem dX7_next_50 : decode cX7_next 50 = .ok (.getfield 22, 3) := by decide +kernel
theorem dX7_next_53 : decode cX7_next 53 = .ok (.aload_n 0, 1) := by decide +kernel
theorem dX7_next_54 : decode cX7_next 54 = .ok (.getfield 182, 3) := by decide +kernel
theorem dX7_next_57 : decode cX7_next 57 = .ok (.iaload, 1) := by decide +kernel
theorem dX7_next_58 : decode cX7_next 58 = .ok (.goto 4, 3) := by decide +kernel
theorem dX7_next_61 : decode cX7_next 61 = .ok (.iconst (-1), 1) := by decide +kernel
theorem dX7_next_62 : decode cX7_next 62 = .ok (.ireturn, 1) := by decide +kernel
set_option maxRecDepth 20000 in
theorem ggX7_isFigure_X7_in : GoodIn wsX7_isFigure wsX7_in := goodIn_r _ [7] (by decide +kernel) (by decide +kernel)
set_option maxRecDepth 20000 in
theorem gX7_isFigure_X7_in : GoodIn wsX7_isFigure (va_wsS RX7 56 yX7_in wsX7_in) := goodIn_app (goodIn_of _ (by decide +kernel)) ggX7_isFigure_X7_in
theorem dX7_isFigure_0 : decode cX7_isFigure 0 = .ok (.aload_n 0, 1) := by decide +kernel
theorem dX7_isFigure_1 : decode cX7_isFigure 1 = .ok (.getfield 182, 3) := by decide +kernel
theorem dX7_isFigure_4 : decode cX7_isFigure 4 = .ok (.aload_n 0, 1) := by decide +kernel
