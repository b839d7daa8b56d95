set_option maxRecDepth 20000 in
theorem gX5_find_X3_run : GoodIn wsX5_find (wsV RX5 126 RX3 yX3_run wsX3_run) := goodIn_app (goodIn_of _ (by decide +kernel)) ggX5_find_X3_run
set_option maxRecDepth 20000 in
theorem ggX5_find_X3_met : GoodIn wsX5_find wsX3_met := goodIn_r _ [78, 15, 90, 91] (by decide +kernel) (by decide +kernel)
set_option maxRecDepth 20000 in
theorem gX5_find_X3_met : GoodIn wsX5_find (wsV RX5 130 RX3 yX3_met wsX3_met) := goodIn_app (goodIn_of _ (by decide +kernel)) ggX5_find_X3_met
theorem dX5_find_0 : decode cX5_find 0 = .ok (.iload_n 1, 1) := by decide +kernel
theorem dX5_find_1 : decode cX5_find 1 = .ok (.invokestatic 54, 3) := by decide +kernel
theorem dX5_find_4 : decode cX5_find 4 = .ok (.ifCond .ne 6, 3) := by decide +kernel
theorem dX5_find_7 : decode cX5_find 7 = .ok (.bipush (-2), 2) := by decide +kernel
theorem dX5_find_9 : decode cX5_find 9 = .ok (.ireturn, 1) := by decide +kernel
theorem dX5_find_10 : decode cX5_find 10 = .ok (.aload_n 0, 1) := by decide +kernel
theorem dX5_find_11 : decode cX5_find 11 = .ok (.getfield 46, 3) := by decide +kernel
theorem dX5_find_14 : decode cX5_find 14 = .ok (.aload_n 0, 1) := by decide +kernel
theorem dX5_find_15 : decode cX5_find 15 = .ok (.getfield 16, 3) := by decide +kernel
theorem dX5_find_18 : decode cX5_find 18 = .ok (.aload_n 0, 1) := by decide +kernel
theorem dX5_find_19 : decode cX5_find 19 = .ok (.getfield 32, 3) := by decide +kernel
theorem dX5_find_22 : decode cX5_find 22 = .ok (.iload_n 1, 1) := by decide +kernel
theorem dX5_find_23 : decode cX5_find 23 = .ok (.aload_n 0, 1) := by decide +kernel
theorem dX5_find_24 : decode cX5_find 24 = .ok (.getfield 50, 3) := by decide +kernel
theorem dX5_find_27 : decode cX5_find 27 = .ok (.invokevirtual 126, 3) := by decide +kernel
theorem dX5_find_30 : decode cX5_find 30 = .ok (.aload_n 0, 1) := by decide +kernel
theorem dX5_find_31 : decode cX5_find 31 = .ok (.getfield 46, 3) := by decide +kernel
theorem dX5_find_34 : decode cX5_find 34 = .ok (.invokevirtual 130, 3) := by decide +kernel
theorem dX5_find_37 : decode cX5_find 37 = .ok (.ireturn, 1) := by decide +kernel
set_option maxRecDepth 20000 in
theorem ggX5_looks_X5_isNumber : GoodIn wsX5_looks wsX5_isNumber := goodIn_r _ [8, 9] (by decide +kernel) (by decide +kernel)
set_option maxRecDepth 20000 in
theorem gX5_looks_X5_isNumber : GoodIn wsX5_looks (va_wsS RX5 54 yX5_isNumber wsX5_isNumber) := goodIn_app (goodIn_of _ (by decide +kernel)) ggX5_looks_X5_isNumber
set_option maxRecDepth 20000 in
theorem ggX5_looks_X3_run : GoodIn wsX5_looks wsX3_run := goodIn_r _ [14, 15, 16, 17, 18, 19, 20, 21, 22, 23, 24, 25, 26, 27, 28, 29, 30, 31, 32, 33, 34, 35, 36, 37, 38, 39, 40, 41, 42, 43, 44, 45, 46, 47, 48, 49, 50, 51, 52, 53, 54, 55, 56, 57, 58, 13, 59, 60, 61, 62, 63, 64, 65, 66, 67, 68, 69, 70, 71, 72, 73, 74, 90, 91, 92, 93, 94, 95, 96, 97, 98, 99, 100, 101, 102] (by decide +kernel) (by decide +kernel)
set_option maxRecDepth 20000 in
theorem gX5_looks_X3_run : GoodIn wsX5_looks (wsV RX5 126 RX3 yX3_run wsX3_run) := goodIn_app (goodIn_of _ (by decide +kernel)) ggX5_looks_X3_run
set_option maxRecDepth 20000 in
theorem ggX5_looks_X3_ranksSeen : GoodIn wsX5_looks wsX3_ranksSeen := goodIn_r _ [78, 16, 90, 91] (by decide +kernel) (by decide +kernel)
set_option maxRecDepth 20000 in
theorem gX5_looks_X3_ranksSeen : GoodIn wsX5_looks (wsV RX5 133 RX3 yX3_ranksSeen wsX3_ranksSeen) := goodIn_app (goodIn_of _ (by decide +kernel)) ggX5_looks_X3_ranksSeen
theorem dX5_looks_0 : decode cX5_looks 0 = .ok (.iload_n 1, 1) := by decide +kernel
theorem dX5_looks_1 : decode cX5_looks 1 = .ok (.invokestatic 54, 3) := by decide +kernel
theorem dX5_looks_4 : decode cX5_looks 4 = .ok (.ifCond .ne 6, 3) := by decide +kernel
theorem dX5_looks_7 : decode cX5_looks 7 = .ok (.bipush (-2), 2) := by decide +kernel
theorem dX5_looks_9 : decode cX5_looks 9 = .ok (.ireturn, 1) := by decide +kernel
theorem dX5_looks_10 : decode cX5_looks 10 = .ok (.aload_n 0, 1) := by decide +kernel
theorem dX5_looks_11 : decode cX5_looks 11 = .ok (.getfield 46, 3) := by decide +kernel
theorem dX5_looks_14 : decode cX5_looks 14 = .ok (.aload_n 0, 1) := by decide +kernel
theorem dX5_looks_15 : decode cX5_looks 15 = .ok (.getfield 16, 3) := by decide +kernel
theorem dX5_looks_18 : decode cX5_looks 18 = .ok (.aload_n 0, 1) := by decide +kernel
theorem dX5_looks_19 : decode cX5_looks 19 = .ok (.getfield 32, 3) := by decide +kernel
theorem dX5_looks_22 : decode cX5_looks 22 = .ok (.iload_n 1, 1) := by decide +kernel
theorem dX5_looks_23 : decode cX5_looks 23 = .ok (.aload_n 0, 1) := by decide +kernel
theorem dX5_looks_24 : decode cX5_looks 24 = .ok (.getfield 50, 3) := by decide +kernel
theorem dX5_looks_27 : decode cX5_looks 27 = .ok (.invokevirtual 126, 3) := by decide +kernel
theorem dX5_looks_30 : decode cX5_looks 30 = .ok (.aload_n 0, 1) := by decide +kernel
theorem dX5_looks_31 : decode cX5_looks 31 = .ok (.getfield 46, 3) := by decide +kernel
theorem dX5_looks_34 : decode cX5_looks 34 = .ok (.invokevirtual 133, 3) := by decide +kernel
theorem dX5_looks_37 : decode cX5_looks 37 = .ok (.ireturn, 1) := by decide +kernel
set_option maxRecDepth 20000 in
theorem ggX5_maybe_X5_isNumber : GoodIn wsX5_maybe wsX5_isNumber := goodIn_r _ [5, 6] (by decide +kernel) (by decide +kernel)
set_option maxRecDepth 20000 in
theorem gX5_maybe_X5_isNumber : GoodIn wsX5_maybe (va_wsS RX5 54 yX5_isNumber wsX5_isNumber) := goodIn_app (goodIn_of _ (by decide +kernel)) ggX5_maybe_X5_isNumber
set_option maxRecDepth 20000 in
theorem ggX5_maybe_X1_passes : GoodIn wsX5_maybe wsX1_passes := goodIn_r _ [11, 12, 13, 14, 10, 15, 27] (by decide +kernel) (by decide +kernel)
set_option maxRecDepth 20000 in
theorem gX5_maybe_X1_passes : GoodIn wsX5_maybe (wsV RX5 136 RX1 yX1_passes wsX1_passes) := goodIn_app (goodIn_of _ (by decide +kernel)) ggX5_maybe_X1_passes
theorem dX5_maybe_0 : decode cX5_maybe 0 = .ok (.iload_n 1, 1) := by decide +kernel
theorem dX5_maybe_1 : decode cX5_maybe 1 = .ok (.invokestatic 54, 3) := by decide +kernel
theorem dX5_maybe_4 : decode cX5_maybe 4 = .ok (.ifCond .ne 6, 3) := by decide +kernel
theorem dX5_maybe_7 : decode cX5_maybe 7 = .ok (.bipush (-2), 2) := by decide +kernel
theorem dX5_maybe_9 : decode cX5_maybe 9 = .ok (.ireturn, 1) := by decide +kernel
theorem dX5_maybe_10 : decode cX5_maybe 10 = .ok (.aload_n 0, 1) := by decide +kernel
theorem dX5_maybe_11 : decode cX5_maybe 11 = .ok (.getfield 39, 3) := by decide +kernel
theorem dX5_maybe_14 : decode cX5_maybe 14 = .ok (.iload_n 1, 1) := by decide +kernel
theorem dX5_maybe_15 : decode cX5_maybe 15 = .ok (.invokevirtual 136, 3) := by decide +kernel
theorem dX5_maybe_18 : decode cX5_maybe 18 = .ok (.ifCond .eq 7, 3) := by decide +kernel
theorem dX5_maybe_21 : decode cX5_maybe 21 = .ok (.iconst 1, 1) := by decide +kernel
theorem dX5_maybe_22 : decode cX5_maybe 22 = .ok (.goto 4, 3) := by decide +kernel
theorem dX5_maybe_25 : decode cX5_maybe 25 = .ok (.iconst 0, 1) := by decide +kernel
theorem dX5_maybe_26 : decode cX5_maybe 26 = .ok (.ireturn, 1) := by decide +kernel
set_option maxRecDepth 20000 in
theorem ggX5_wrong_X5_isSpan : GoodIn wsX5_wrong wsX5_isSpan := goodIn_r _ [6, 7, 8, 5, 9, 10] (by decide +kernel) (by decide +kernel)
set_option maxRecDepth 20000 in
theorem gX5_wrong_X5_isSpan : GoodIn wsX5_wrong (va_wsS RX5 96 yX5_isSpan wsX5_isSpan) := goodIn_app (goodIn_of _ (by decide +kernel)) ggX5_wrong_X5_isSpan
set_option maxRecDepth 20000 in
theorem ggX5_wrong_X1_passes : GoodIn wsX5_wrong wsX1_passes := goodIn_r _ [15, 16, 17, 18, 14, 19, 42] (by decide +kernel) (by decide +kernel)
set_option maxRecDepth 20000 in
theorem gX5_wrong_X1_passes : GoodIn wsX5_wrong (wsV RX5 136 RX1 yX1_passes wsX1_passes) := goodIn_app (goodIn_of _ (by decide +kernel)) ggX5_wrong_X1_passes
set_option maxRecDepth 20000 in
theorem ggX5_wrong_X2_within : GoodIn wsX5_wrong wsX2_within := goodIn_r _ [24, 25, 26, 27, 23, 28, 29, 30, 43, 44] (by decide +kernel) (by decide +kernel)
set_option maxRecDepth 20000 in
theorem gX5_wrong_X2_within : GoodIn wsX5_wrong (wsV RX5 100 RX2 yX2_within wsX2_within) := goodIn_app (goodIn_of _ (by decide +kernel)) ggX5_wrong_X2_within
theorem dX5_wrong_0 : decode cX5_wrong 0 = .ok (.iload_n 1, 1) := by decide +kernel
theorem dX5_wrong_1 : decode cX5_wrong 1 = .ok (.iload_n 2, 1) := by decide +kernel
theorem dX5_wrong_2 : decode cX5_wrong 2 = .ok (.sipush 2000, 3) := by decide +kernel
theorem dX5_wrong_5 : decode cX5_wrong 5 = .ok (.invokestatic 96, 3) := by decide +kernel
theorem dX5_wrong_8 : decode cX5_wrong 8 = .ok (.ifCond .ne 6, 3) := by decide +kernel
theorem dX5_wrong_11 : decode cX5_wrong 11 = .ok (.bipush (-2), 2) := by decide +kernel
theorem dX5_wrong_13 : decode cX5_wrong 13 = .ok (.ireturn, 1) := by decide +kernel
theorem dX5_wrong_14 : decode cX5_wrong 14 = .ok (.iconst 0, 1) := by decide +kernel
theorem dX5_wrong_15 : decode cX5_wrong 15 = .ok (.istore_n 3, 1) := by decide +kernel
theorem dX5_wrong_16 : decode cX5_wrong 16 = .ok (.iload_n 1, 1) := by decide +kernel
theorem dX5_wrong_17 : decode cX5_wrong 17 = .ok (.istore 4, 2) := by decide +kernel
theorem dX5_wrong_19 : decode cX5_wrong 19 = .ok (.iload 4, 2) := by decide +kernel
theorem dX5_wrong_21 : decode cX5_wrong 21 = .ok (.iload_n 2, 1) := by decide +kernel
theorem dX5_wrong_22 : decode cX5_wrong 22 = .ok (.if_icmp .gt 24, 3) := by decide +kernel
theorem dX5_wrong_25 : decode cX5_wrong 25 = .ok (.aload_n 0, 1) := by decide +kernel
theorem dX5_wrong_26 : decode cX5_wrong 26 = .ok (.getfield 39, 3) := by decide +kernel
theorem dX5_wrong_29 : decode cX5_wrong 29 = .ok (.iload 4, 2) := by decide +kernel
theorem dX5_wrong_31 : decode cX5_wrong 31 = .ok (.invokevirtual 136, 3) := by decide +kernel
theorem dX5_wrong_34 : decode cX5_wrong 34 = .ok (.ifCond .eq 6, 3) := by decide +kernel
theorem dX5_wrong_37 : decode cX5_wrong 37 = .ok (.iinc 3 1, 3) := by decide +kernel
theorem dX5_wrong_40 : decode cX5_wrong 40 = .ok (.iinc 4 1, 3) := by decide +kernel
theorem dX5_wrong_43 : decode cX5_wrong 43 = .ok (.goto (-24), 3) := by decide +kernel
theorem dX5_wrong_46 : decode cX5_wrong 46 = .ok (.iload_n 3, 1) := by decide +kernel
theorem dX5_wrong_47 : decode cX5_wrong 47 = .ok (.aload_n 0, 1) := by decide +kernel
theorem dX5_wrong_48 : decode cX5_wrong 48 = .ok (.getfield 10, 3) := by decide +kernel
theorem dX5_wrong_51 : decode cX5_wrong 51 = .ok (.iload_n 1, 1) := by decide +kernel
theorem dX5_wrong_52 : decode cX5_wrong 52 = .ok (.iload_n 2, 1) := by decide +kernel
theorem dX5_wrong_53 : decode cX5_wrong 53 = .ok (.invokevirtual 100, 3) := by decide +kernel
theorem dX5_wrong_56 : decode cX5_wrong 56 = .ok (.isub, 1) := by decide +kernel
theorem dX5_wrong_57 : decode cX5_wrong 57 = .ok (.ireturn, 1) := by decide +kernel
set_option maxRecDepth 20000 in
theorem ggX5_poison_X5_isSpan : GoodIn wsX5_poison wsX5_isSpan := goodIn_r _ [5, 6, 7, 4, 8, 9] (by decide +kernel) (by decide +kernel)
set_option maxRecDepth 20000 in
theorem gX5_poison_X5_isSpan : GoodIn wsX5_poison (va_wsS RX5 96 yX5_isSpan wsX5_isSpan) := goodIn_app (goodIn_of _ (by decide +kernel)) ggX5_poison_X5_isSpan
set_option maxRecDepth 20000 in
theorem ggX5_poison_X2_size : GoodIn wsX5_poison wsX2_size := goodIn_r _ [14, 15, 88, 89] (by decide +kernel) (by decide +kernel)
set_option maxRecDepth 20000 in
theorem gX5_poison_X2_size : GoodIn wsX5_poison (wsV RX5 61 RX2 yX2_size wsX2_size) := goodIn_app (goodIn_of _ (by decide +kernel)) ggX5_poison_X2_size
set_option maxRecDepth 20000 in
theorem ggX5_poison_X2_has : GoodIn wsX5_poison wsX2_has := goodIn_r _ [19, 15, 20, 21, 22, 23, 13, 24, 88, 89] (by decide +kernel) (by decide +kernel)
set_option maxRecDepth 20000 in
theorem gX5_poison_X2_has : GoodIn wsX5_poison (wsV RX5 58 RX2 yX2_has wsX2_has) := goodIn_app (goodIn_of _ (by decide +kernel)) ggX5_poison_X2_has
set_option maxRecDepth 20000 in
theorem ggX5_poison_X5_piecesWith : GoodIn wsX5_poison wsX5_piecesWith := goodIn_r _ [28, 29, 1, 30, 31, 32, 33, 34, 13, 35, 15, 36, 11, 12, 14, 37, 38, 39, 40, 20, 41, 42, 43, 44, 45, 46, 47, 48, 49, 17, 18, 19, 21, 22, 23, 24, 50, 51, 52, 53, 54, 55, 56, 57, 58, 59, 60, 61, 62, 63, 64, 65, 66, 67, 68, 69, 70, 71, 72, 73, 74, 75, 76, 77, 78, 79, 80, 81, 82, 83, 84, 85, 86, 87, 88, 89, 90, 91, 92, 93, 94] (by decide +kernel) (by decide +kernel)
set_option maxRecDepth 20000 in
theorem gX5_poison_X5_piecesWith : GoodIn wsX5_poison (wsV RX5 139 RX5 yX5_piecesWith wsX5_piecesWith) := goodIn_app (goodIn_of _ (by decide +kernel)) ggX5_poison_X5_piecesWith
theorem dX5_poison_0 : decode cX5_poison 0 = .ok (.iload_n 1, 1) := by decide +kernel
theorem dX5_poison_1 : decode cX5_poison 1 = .ok (.iload_n 2, 1) := by decide +kernel
theorem dX5_poison_2 : decode cX5_poison 2 = .ok (.bipush 40, 2) := by decide +kernel
theorem dX5_poison_4 : decode cX5_poison 4 = .ok (.invokestatic 96, 3) := by decide +kernel
theorem dX5_poison_7 : decode cX5_poison 7 = .ok (.ifCond .eq 12, 3) := by decide +kernel
theorem dX5_poison_10 : decode cX5_poison 10 = .ok (.iload_n 3, 1) := by decide +kernel
theorem dX5_poison_11 : decode cX5_poison 11 = .ok (.ifCond .lt 8, 3) := by decide +kernel
theorem dX5_poison_14 : decode cX5_poison 14 = .ok (.iload_n 3, 1) := by decide +kernel
theorem dX5_poison_15 : decode cX5_poison 15 = .ok (.iconst 1, 1) := by decide +kernel
theorem dX5_poison_16 : decode cX5_poison 16 = .ok (.if_icmp .le 6, 3) := by decide +kernel
theorem dX5_poison_19 : decode cX5_poison 19 = .ok (.bipush (-2), 2) := by decide +kernel
theorem dX5_poison_21 : decode cX5_poison 21 = .ok (.ireturn, 1) := by decide +kernel
theorem dX5_poison_22 : decode cX5_poison 22 = .ok (.aload_n 0, 1) := by decide +kernel
theorem dX5_poison_23 : decode cX5_poison 23 = .ok (.getfield 10, 3) := by decide +kernel
theorem dX5_poison_26 : decode cX5_poison 26 = .ok (.invokevirtual 61, 3) := by decide +kernel
theorem dX5_poison_29 : decode cX5_poison 29 = .ok (.bipush 60, 2) := by decide +kernel
theorem dX5_poison_31 : decode cX5_poison 31 = .ok (.if_icmp .lt 6, 3) := by decide +kernel
theorem dX5_poison_34 : decode cX5_poison 34 = .ok (.bipush (-4), 2) := by decide +kernel
theorem dX5_poison_36 : decode cX5_poison 36 = .ok (.ireturn, 1) := by decide +kernel
theorem dX5_poison_37 : decode cX5_poison 37 = .ok (.iconst (-1), 1) := by decide +kernel
theorem dX5_poison_38 : decode cX5_poison 38 = .ok (.istore 4, 2) := by decide +kernel
theorem dX5_poison_40 : decode cX5_poison 40 = .ok (.iconst (-1), 1) := by decide +kernel
theorem dX5_poison_41 : decode cX5_poison 41 = .ok (.istore 5, 2) := by decide +kernel
theorem dX5_poison_43 : decode cX5_poison 43 = .ok (.iload_n 1, 1) := by decide +kernel
theorem dX5_poison_44 : decode cX5_poison 44 = .ok (.istore 6, 2) := by decide +kernel
theorem dX5_poison_46 : decode cX5_poison 46 = .ok (.iload 6, 2) := by decide +kernel
theorem dX5_poison_48 : decode cX5_poison 48 = .ok (.iload_n 2, 1) := by decide +kernel
theorem dX5_poison_49 : decode cX5_poison 49 = .ok (.if_icmp .gt 48, 3) := by decide +kernel
theorem dX5_poison_52 : decode cX5_poison 52 = .ok (.aload_n 0, 1) := by decide +kernel
theorem dX5_poison_53 : decode cX5_poison 53 = .ok (.getfield 10, 3) := by decide +kernel
theorem dX5_poison_56 : decode cX5_poison 56 = .ok (.iload 6, 2) := by decide +kernel
theorem dX5_poison_58 : decode cX5_poison 58 = .ok (.invokevirtual 58, 3) := by decide +kernel
theorem dX5_poison_61 : decode cX5_poison 61 = .ok (.ifCond .eq 7, 3) := by decide +kernel
theorem dX5_poison_64 : decode cX5_poison 64 = .ok (.iconst (-1), 1) := by decide +kernel
theorem dX5_poison_65 : decode cX5_poison 65 = .ok (.goto 9, 3) := by decide +kernel
theorem dX5_poison_68 : decode cX5_poison 68 = .ok (.aload_n 0, 1) := by decide +kernel
theorem dX5_poison_69 : decode cX5_poison 69 = .ok (.iload 6, 2) := by decide +kernel
theorem dX5_poison_71 : decode cX5_poison 71 = .ok (.invokevirtual 139, 3) := by decide +kernel
theorem dX5_poison_74 : decode cX5_poison 74 = .ok (.istore 7, 2) := by decide +kernel
theorem dX5_poison_76 : decode cX5_poison 76 = .ok (.iload 7, 2) := by decide +kernel
theorem dX5_poison_78 : decode cX5_poison 78 = .ok (.iload 5, 2) := by decide +kernel
theorem dX5_poison_80 : decode cX5_poison 80 = .ok (.if_icmp .le 11, 3) := by decide +kernel
theorem dX5_poison_83 : decode cX5_poison 83 = .ok (.iload 7, 2) := by decide +kernel
theorem dX5_poison_85 : decode cX5_poison 85 = .ok (.istore 5, 2) := by decide +kernel
theorem dX5_poison_87 : decode cX5_poison 87 = .ok (.iload 6, 2) := by decide +kernel
theorem dX5_poison_89 : decode cX5_poison 89 = .ok (.istore 4, 2) := by decide +kernel
theorem dX5_poison_91 : decode cX5_poison 91 = .ok (.iinc 6 1, 3) := by decide +kernel
theorem dX5_poison_94 : decode cX5_poison 94 = .ok (.goto (-48), 3) := by decide +kernel
theorem dX5_poison_97 : decode cX5_poison 97 = .ok (.iload_n 3, 1) := by decide +kernel
theorem dX5_poison_98 : decode cX5_poison 98 = .ok (.ifCond .ne 8, 3) := by decide +kernel
theorem dX5_poison_101 : decode cX5_poison 101 = .ok (.iload 4, 2) := by decide +kernel
theorem dX5_poison_103 : decode cX5_poison 103 = .ok (.goto 5, 3) := by decide +kernel
theorem dX5_poison_106 : decode cX5_poison 106 = .ok (.iload 5, 2) := by decide +kernel
theorem dX5_poison_108 : decode cX5_poison 108 = .ok (.ireturn, 1) := by decide +kernel
set_option maxRecDepth 20000 in
theorem ggX5_count_X2_size : GoodIn wsX5_count wsX2_size := goodIn_r _ [11, 12, 37, 38] (by decide +kernel) (by decide +kernel)
set_option maxRecDepth 20000 in
theorem gX5_count_X2_size : GoodIn wsX5_count (wsV RX5 61 RX2 yX2_size wsX2_size) := goodIn_app (goodIn_of _ (by decide +kernel)) ggX5_count_X2_size
set_option maxRecDepth 20000 in
theorem ggX5_count_X1_bitsSet : GoodIn wsX5_count wsX1_bitsSet := goodIn_r _ [17, 18, 19, 20, 21, 22, 23, 24, 25, 39] (by decide +kernel) (by decide +kernel)
set_option maxRecDepth 20000 in
theorem gX5_count_X1_bitsSet : GoodIn wsX5_count (wsV RX5 142 RX1 yX1_bitsSet wsX1_bitsSet) := goodIn_app (goodIn_of _ (by decide +kernel)) ggX5_count_X1_bitsSet
theorem dX5_count_0 : decode cX5_count 0 = .ok (.iload_n 1, 1) := by decide +kernel
theorem dX5_count_1 : decode cX5_count 1 = .ok (.tableswitch 78 0 5 #[39, 47, 55, 60, 65, 70], 39) := by decide +kernel
theorem dX5_count_40 : decode cX5_count 40 = .ok (.aload_n 0, 1) := by decide +kernel
theorem dX5_count_41 : decode cX5_count 41 = .ok (.getfield 10, 3) := by decide +kernel
theorem dX5_count_44 : decode cX5_count 44 = .ok (.invokevirtual 61, 3) := by decide +kernel
theorem dX5_count_47 : decode cX5_count 47 = .ok (.ireturn, 1) := by decide +kernel
theorem dX5_count_48 : decode cX5_count 48 = .ok (.aload_n 0, 1) := by decide +kernel
theorem dX5_count_49 : decode cX5_count 49 = .ok (.getfield 16, 3) := by decide +kernel
theorem dX5_count_52 : decode cX5_count 52 = .ok (.invokevirtual 61, 3) := by decide +kernel
theorem dX5_count_55 : decode cX5_count 55 = .ok (.ireturn, 1) := by decide +kernel
theorem dX5_count_56 : decode cX5_count 56 = .ok (.aload_n 0, 1) := by decide +kernel
theorem dX5_count_57 : decode cX5_count 57 = .ok (.getfield 71, 3) := by decide +kernel
theorem dX5_count_60 : decode cX5_count 60 = .ok (.ireturn, 1) := by decide +kernel
theorem dX5_count_61 : decode cX5_count 61 = .ok (.aload_n 0, 1) := by decide +kernel
theorem dX5_count_62 : decode cX5_count 62 = .ok (.getfield 65, 3) := by decide +kernel
theorem dX5_count_65 : decode cX5_count 65 = .ok (.ireturn, 1) := by decide +kernel
theorem dX5_count_66 : decode cX5_count 66 = .ok (.aload_n 0, 1) := by decide +kernel
theorem dX5_count_67 : decode cX5_count 67 = .ok (.getfield 85, 3) := by decide +kernel
theorem dX5_count_70 : decode cX5_count 70 = .ok (.ireturn, 1) := by decide +kernel
theorem dX5_count_71 : decode cX5_count 71 = .ok (.aload_n 0, 1) := by decide +kernel
theorem dX5_count_72 : decode cX5_count 72 = .ok (.getfield 39, 3) := by decide +kernel
theorem dX5_count_75 : decode cX5_count 75 = .ok (.invokevirtual 142, 3) := by decide +kernel
theorem dX5_count_78 : decode cX5_count 78 = .ok (.ireturn, 1) := by decide +kernel
theorem dX5_count_79 : decode cX5_count 79 = .ok (.bipush (-2), 2) := by decide +kernel
theorem dX5_count_81 : decode cX5_count 81 = .ok (.ireturn, 1) := by decide +kernel
theorem dX5_isNumber_0 : decode cX5_isNumber 0 = .ok (.iload_n 0, 1) := by decide +kernel
theorem dX5_isNumber_1 : decode cX5_isNumber 1 = .ok (.ifCond .lt 13, 3) := by decide +kernel
theorem dX5_isNumber_4 : decode cX5_isNumber 4 = .ok (.iload_n 0, 1) := by decide +kernel
theorem dX5_isNumber_5 : decode cX5_isNumber 5 = .ok (.ldc 95, 2) := by decide +kernel
theorem dX5_isNumber_7 : decode cX5_isNumber 7 = .ok (.if_icmp .gt 7, 3) := by decide +kernel
theorem dX5_isNumber_10 : decode cX5_isNumber 10 = .ok (.iconst 1, 1) := by decide +kernel
theorem dX5_isNumber_11 : decode cX5_isNumber 11 = .ok (.goto 4, 3) := by decide +kernel
theorem dX5_isNumber_14 : decode cX5_isNumber 14 = .ok (.iconst 0, 1) := by decide +kernel
theorem dX5_isNumber_15 : decode cX5_isNumber 15 = .ok (.ireturn, 1) := by decide +kernel
set_option maxRecDepth 20000 in
theorem ggX5_isSpan_X5_isNumber : GoodIn wsX5_isSpan wsX5_isNumber := goodIn_r _ [4, 5] (by decide +kernel) (by decide +kernel)
set_option maxRecDepth 20000 in
theorem gX5_isSpan_X5_isNumber : GoodIn wsX5_isSpan (va_wsS RX5 54 yX5_isNumber wsX5_isNumber) := goodIn_app (goodIn_of _ (by decide +kernel)) ggX5_isSpan_X5_isNumber
theorem dX5_isSpan_0 : decode cX5_isSpan 0 = .ok (.iload_n 0, 1) := by decide +kernel
theorem dX5_isSpan_1 : decode cX5_isSpan 1 = .ok (.invokestatic 54, 3) := by decide +kernel
theorem dX5_isSpan_4 : decode cX5_isSpan 4 = .ok (.ifCond .eq 26, 3) := by decide +kernel
theorem dX5_isSpan_7 : decode cX5_isSpan 7 = .ok (.iload_n 1, 1) := by decide +kernel
theorem dX5_isSpan_8 : decode cX5_isSpan 8 = .ok (.invokestatic 54, 3) := by decide +kernel
theorem dX5_isSpan_11 : decode cX5_isSpan 11 = .ok (.ifCond .eq 19, 3) := by decide +kernel
theorem dX5_isSpan_14 : decode cX5_isSpan 14 = .ok (.iload_n 0, 1) := by decide +kernel
theorem dX5_isSpan_15 : decode cX5_isSpan 15 = .ok (.iload_n 1, 1) := by decide +kernel
theorem dX5_isSpan_16 : decode cX5_isSpan 16 = .ok (.if_icmp .gt 14, 3) := by decide +kernel
theorem dX5_isSpan_19 : decode cX5_isSpan 19 = .ok (.iload_n 1, 1) := by decide +kernel
theorem dX5_isSpan_20 : decode cX5_isSpan 20 = .ok (.iload_n 0, 1) := by decide +kernel
theorem dX5_isSpan_21 : decode cX5_isSpan 21 = .ok (.isub, 1) := by decide +kernel
theorem dX5_isSpan_22 : decode cX5_isSpan 22 = .ok (.iload_n 2, 1) := by decide +kernel
theorem dX5_isSpan_23 : decode cX5_isSpan 23 = .ok (.if_icmp .gt 7, 3) := by decide +kernel
theorem dX5_isSpan_26 : decode cX5_isSpan 26 = .ok (.iconst 1, 1) := by decide +kernel
theorem dX5_isSpan_27 : decode cX5_isSpan 27 = .ok (.goto 4, 3) := by decide +kernel
theorem dX5_isSpan_30 : decode cX5_isSpan 30 = .ok (.iconst 0, 1) := by decide +kernel
theorem dX5_isSpan_31 : decode cX5_isSpan 31 = .ok (.ireturn, 1) := by decide +kernel
set_option maxRecDepth 20000 in
theorem ggX5_clearAsideIfFull_X5_makeRow : GoodIn wsX5_clearAsideIfFull wsX5_makeRow := goodIn_r _ [7, 8, 9, 1, 2, 10, 11, 12, 13, 14, 15, 16, 17, 18, 19, 20, 21, 22, 23, 24, 25, 26, 27, 28, 29, 30, 31, 32, 33, 34, 35, 36, 37, 38, 39, 40, 41, 42, 43, 44, 45, 46, 47, 48, 49, 50, 51, 52, 53, 54, 55, 56, 57, 58, 59, 60, 61, 62, 63, 64, 65, 66, 67, 68, 69, 70, 71, 72, 73, 74, 75, 76, 77, 78, 79, 80, 81, 82, 83, 84, 85, 86, 87, 88, 89, 90, 91, 92, 93, 94, 95, 96, 97, 98, 99, 100, 101, 102, 103, 104, 105, 106, 107, 108, 109, 110, 111, 112, 113, 114, 115, 116, 117, 118, 119, 120, 121, 122, 123, 124, 125, 126, 127, 128, 129, 130, 131, 132, 133, 134, 135, 136, 137, 138, 139, 140, 141, 142, 143, 144, 145, 146, 147, 148, 149, 150, 151, 152, 153, 154, 155, 156, 157, 158, 159, 160] (by decide +kernel) (by decide +kernel)
set_option maxRecDepth 20000 in
theorem gX5_clearAsideIfFull_X5_makeRow : GoodIn wsX5_clearAsideIfFull (wsV RX5 82 RX5 yX5_makeRow wsX5_makeRow) := goodIn_app (goodIn_of _ (by decide +kernel)) ggX5_clearAsideIfFull_X5_makeRow
theorem dX5_clearAsideIfFull_0 : decode cX5_clearAsideIfFull 0 = .ok (.aload_n 0, 1) := by decide +kernel
theorem dX5_clearAsideIfFull_1 : decode cX5_clearAsideIfFull 1 = .ok (.getfield 71, 3) := by decide +kernel
theorem dX5_clearAsideIfFull_4 : decode cX5_clearAsideIfFull 4 = .ok (.aload_n 0, 1) := by decide +kernel
theorem dX5_clearAsideIfFull_5 : decode cX5_clearAsideIfFull 5 = .ok (.getfield 65, 3) := by decide +kernel
theorem dX5_clearAsideIfFull_8 : decode cX5_clearAsideIfFull 8 = .ok (.iadd, 1) := by decide +kernel
theorem dX5_clearAsideIfFull_9 : decode cX5_clearAsideIfFull 9 = .ok (.bipush 8, 2) := by decide +kernel
theorem dX5_clearAsideIfFull_11 : decode cX5_clearAsideIfFull 11 = .ok (.if_icmp .lt 7, 3) := by decide +kernel
theorem dX5_clearAsideIfFull_14 : decode cX5_clearAsideIfFull 14 = .ok (.aload_n 0, 1) := by decide +kernel
theorem dX5_clearAsideIfFull_15 : decode cX5_clearAsideIfFull 15 = .ok (.invokevirtual 82, 3) := by decide +kernel
theorem dX5_clearAsideIfFull_18 : decode cX5_clearAsideIfFull 18 = .ok (.return_, 1) := by decide +kernel
set_option maxRecDepth 20000 in
theorem ggX5_makeRow_X2_copy : GoodIn wsX5_makeRow wsX2_copy := goodIn_r _ [14, 15, 16, 17, 18, 13, 19, 20, 21, 22, 23, 24, 25, 26, 27, 28, 139, 140] (by decide +kernel) (by decide +kernel)
set_option maxRecDepth 20000 in
theorem gX5_makeRow_X2_copy : GoodIn wsX5_makeRow (wsV RX5 145 RX2 yX2_copy wsX2_copy) := goodIn_app (goodIn_of _ (by decide +kernel)) ggX5_makeRow_X2_copy
set_option maxRecDepth 20000 in
theorem ggX5_makeRow_X2_size : GoodIn wsX5_makeRow wsX2_size := goodIn_r _ [19, 15, 139, 140] (by decide +kernel) (by decide +kernel)
set_option maxRecDepth 20000 in
theorem gX5_makeRow_X2_size : GoodIn wsX5_makeRow (wsV RX5 61 RX2 yX2_size wsX2_size) := goodIn_app (goodIn_of _ (by decide +kernel)) ggX5_makeRow_X2_size
set_option maxRecDepth 20000 in
theorem ggX5_makeRow_X1_clear : GoodIn wsX5_makeRow wsX1_clear := goodIn_r _ [34, 35, 141] (by decide +kernel) (by decide +kernel)
set_option maxRecDepth 20000 in
theorem gX5_makeRow_X1_clear : GoodIn wsX5_makeRow (wsV RX5 149 RX1 yX1_clear wsX1_clear) := goodIn_app (goodIn_of _ (by decide +kernel)) ggX5_makeRow_X1_clear
set_option maxRecDepth 20000 in
theorem ggX5_makeRow_X2_key : GoodIn wsX5_makeRow wsX2_key := goodIn_r _ [23, 15, 24, 139, 140] (by decide +kernel) (by decide +kernel)
set_option maxRecDepth 20000 in
theorem gX5_makeRow_X2_key : GoodIn wsX5_makeRow (wsV RX5 92 RX2 yX2_key wsX2_key) := goodIn_app (goodIn_of _ (by decide +kernel)) ggX5_makeRow_X2_key
set_option maxRecDepth 20000 in
theorem ggX5_makeRow_X1_add : GoodIn wsX5_makeRow wsX1_add := goodIn_r _ [40, 35, 41, 42, 33, 43, 141] (by decide +kernel) (by decide +kernel)
set_option maxRecDepth 20000 in
theorem gX5_makeRow_X1_add : GoodIn wsX5_makeRow (wsV RX5 78 RX1 yX1_add wsX1_add) := goodIn_app (goodIn_of _ (by decide +kernel)) ggX5_makeRow_X1_add
set_option maxRecDepth 20000 in
theorem ggX5_makeRow_X4_build : GoodIn wsX5_makeRow wsX4_build := goodIn_r _ [48, 49, 50, 51, 52, 11, 12, 13, 14, 15, 16, 17, 18, 19, 20, 21, 22, 23, 24, 25, 26, 27, 28, 53, 54, 55, 56, 57, 58, 59, 60, 61, 62, 63, 64, 65, 66, 67, 68, 69, 70, 71, 72, 73, 74, 75, 76, 47, 77, 78, 79, 80, 81, 82, 83, 84, 85, 86, 87, 88, 89, 90, 91, 92, 93, 94, 95, 96, 97, 98, 99, 100, 101, 102, 103, 104, 105, 106, 107, 108, 109, 110, 111, 112, 113, 114, 115, 116, 117, 118, 119, 120, 121, 122, 123, 124, 125, 126, 127, 142, 143, 144, 145, 146, 147, 148, 149, 150, 139, 140, 151, 152, 153, 154, 155] (by decide +kernel) (by decide +kernel)
set_option maxRecDepth 20000 in
theorem gX5_makeRow_X4_build : GoodIn wsX5_makeRow (wsV RX5 152 RX4 yX4_build wsX4_build) := goodIn_app (goodIn_of _ (by decide +kernel)) ggX5_makeRow_X4_build
theorem dX5_makeRow_0 : decode cX5_makeRow 0 = .ok (.aload_n 0, 1) := by decide +kernel
theorem dX5_makeRow_1 : decode cX5_makeRow 1 = .ok (.getfield 16, 3) := by decide +kernel
theorem dX5_makeRow_4 : decode cX5_makeRow 4 = .ok (.aload_n 0, 1) := by decide +kernel
theorem dX5_makeRow_5 : decode cX5_makeRow 5 = .ok (.getfield 10, 3) := by decide +kernel
theorem dX5_makeRow_8 : decode cX5_makeRow 8 = .ok (.invokevirtual 145, 3) := by decide +kernel
theorem dX5_makeRow_11 : decode cX5_makeRow 11 = .ok (.aload_n 0, 1) := by decide +kernel
theorem dX5_makeRow_12 : decode cX5_makeRow 12 = .ok (.iconst 0, 1) := by decide +kernel
theorem dX5_makeRow_13 : decode cX5_makeRow 13 = .ok (.putfield 71, 3) := by decide +kernel
theorem dX5_makeRow_16 : decode cX5_makeRow 16 = .ok (.aload_n 0, 1) := by decide +kernel
theorem dX5_makeRow_17 : decode cX5_makeRow 17 = .ok (.iconst 0, 1) := by decide +kernel
theorem dX5_makeRow_18 : decode cX5_makeRow 18 = .ok (.putfield 65, 3) := by decide +kernel
theorem dX5_makeRow_21 : decode cX5_makeRow 21 = .ok (.aload_n 0, 1) := by decide +kernel
theorem dX5_makeRow_22 : decode cX5_makeRow 22 = .ok (.dup, 1) := by decide +kernel
theorem dX5_makeRow_23 : decode cX5_makeRow 23 = .ok (.getfield 85, 3) := by decide +kernel
theorem dX5_makeRow_26 : decode cX5_makeRow 26 = .ok (.aload_n 0, 1) := by decide +kernel
theorem dX5_makeRow_27 : decode cX5_makeRow 27 = .ok (.getfield 16, 3) := by decide +kernel
theorem dX5_makeRow_30 : decode cX5_makeRow 30 = .ok (.invokevirtual 61, 3) := by decide +kernel
theorem dX5_makeRow_33 : decode cX5_makeRow 33 = .ok (.iadd, 1) := by decide +kernel
theorem dX5_makeRow_34 : decode cX5_makeRow 34 = .ok (.putfield 85, 3) := by decide +kernel
theorem dX5_makeRow_37 : decode cX5_makeRow 37 = .ok (.aload_n 0, 1) := by decide +kernel
theorem dX5_makeRow_38 : decode cX5_makeRow 38 = .ok (.getfield 39, 3) := by decide +kernel
theorem dX5_makeRow_41 : decode cX5_makeRow 41 = .ok (.invokevirtual 149, 3) := by decide +kernel
theorem dX5_makeRow_44 : decode cX5_makeRow 44 = .ok (.iconst 0, 1) := by decide +kernel
theorem dX5_makeRow_45 : decode cX5_makeRow 45 = .ok (.istore_n 1, 1) := by decide +kernel
theorem dX5_makeRow_46 : decode cX5_makeRow 46 = .ok (.iload_n 1, 1) := by decide +kernel
theorem dX5_makeRow_47 : decode cX5_makeRow 47 = .ok (.aload_n 0, 1) := by decide +kernel
theorem dX5_makeRow_48 : decode cX5_makeRow 48 = .ok (.getfield 16, 3) := by decide +kernel
theorem dX5_makeRow_51 : decode cX5_makeRow 51 = .ok (.invokevirtual 61, 3) := by decide +kernel
theorem dX5_makeRow_54 : decode cX5_makeRow 54 = .ok (.if_icmp .ge 24, 3) := by decide +kernel
theorem dX5_makeRow_57 : decode cX5_makeRow 57 = .ok (.aload_n 0, 1) := by decide +kernel
theorem dX5_makeRow_58 : decode cX5_makeRow 58 = .ok (.getfield 39, 3) := by decide +kernel
theorem dX5_makeRow_61 : decode cX5_makeRow 61 = .ok (.aload_n 0, 1) := by decide +kernel
theorem dX5_makeRow_62 : decode cX5_makeRow 62 = .ok (.getfield 16, 3) := by decide +kernel
theorem dX5_makeRow_65 : decode cX5_makeRow 65 = .ok (.iload_n 1, 1) := by decide +kernel
theorem dX5_makeRow_66 : decode cX5_makeRow 66 = .ok (.invokevirtual 92, 3) := by decide +kernel
theorem dX5_makeRow_69 : decode cX5_makeRow 69 = .ok (.invokevirtual 78, 3) := by decide +kernel
theorem dX5_makeRow_72 : decode cX5_makeRow 72 = .ok (.iinc 1 1, 3) := by decide +kernel
theorem dX5_makeRow_75 : decode cX5_makeRow 75 = .ok (.goto (-29), 3) := by decide +kernel
theorem dX5_makeRow_78 : decode cX5_makeRow 78 = .ok (.aload_n 0, 1) := by decide +kernel
theorem dX5_makeRow_79 : decode cX5_makeRow 79 = .ok (.getfield 32, 3) := by decide +kernel
theorem dX5_makeRow_82 : decode cX5_makeRow 82 = .ok (.aload_n 0, 1) := by decide +kernel
theorem dX5_makeRow_83 : decode cX5_makeRow 83 = .ok (.getfield 16, 3) := by decide +kernel
theorem dX5_makeRow_86 : decode cX5_makeRow 86 = .ok (.aload_n 0, 1) := by decide +kernel
theorem dX5_makeRow_87 : decode cX5_makeRow 87 = .ok (.getfield 25, 3) := by decide +kernel
theorem dX5_makeRow_90 : decode cX5_makeRow 90 = .ok (.aload_n 0, 1) := by decide +kernel
theorem dX5_makeRow_91 : decode cX5_makeRow 91 = .ok (.getfield 50, 3) := by decide +kernel
theorem dX5_makeRow_94 : decode cX5_makeRow 94 = .ok (.invokevirtual 152, 3) := by decide +kernel
theorem dX5_makeRow_97 : decode cX5_makeRow 97 = .ok (.return_, 1) := by decide +kernel
set_option maxRecDepth 20000 in
theorem ggX5_piecesWith_X2_copy : GoodIn wsX5_piecesWith wsX2_copy := goodIn_r _ [9, 10, 11, 12, 13, 8, 14, 15, 16, 17, 18, 19, 20, 21, 22, 23, 74, 75] (by decide +kernel) (by decide +kernel)
set_option maxRecDepth 20000 in
theorem gX5_piecesWith_X2_copy : GoodIn wsX5_piecesWith (wsV RX5 145 RX2 yX2_copy wsX2_copy) := goodIn_app (goodIn_of _ (by decide +kernel)) ggX5_piecesWith_X2_copy
set_option maxRecDepth 20000 in
theorem ggX5_piecesWith_X2_add : GoodIn wsX5_piecesWith wsX2_add := goodIn_r _ [27, 10, 19, 28, 29, 30, 8, 31, 32, 33, 34, 35, 74, 75] (by decide +kernel) (by decide +kernel)
set_option maxRecDepth 20000 in
theorem gX5_piecesWith_X2_add : GoodIn wsX5_piecesWith (wsV RX5 74 RX2 yX2_add wsX2_add) := goodIn_app (goodIn_of _ (by decide +kernel)) ggX5_piecesWith_X2_add
set_option maxRecDepth 20000 in
theorem ggX5_piecesWith_X0_cut : GoodIn wsX5_piecesWith wsX0_cut := goodIn_r _ [40, 41, 42, 43, 44, 45, 46, 47, 12, 13, 8, 14, 10, 48, 16, 17, 18, 19, 49, 50, 51, 39, 52, 53, 54, 55, 76, 77, 78, 79, 80, 74, 75] (by decide +kernel) (by decide +kernel)
set_option maxRecDepth 20000 in
theorem gX5_piecesWith_X0_cut : GoodIn wsX5_piecesWith (wsV RX5 156 RX0 yX0_cut wsX0_cut) := goodIn_app (goodIn_of _ (by decide +kernel)) ggX5_piecesWith_X0_cut
set_option maxRecDepth 20000 in
theorem ggX5_piecesWith_X0_fewestFrom : GoodIn wsX5_piecesWith wsX0_fewestFrom := goodIn_r _ [59, 46, 60, 61, 39, 62, 76, 77, 78, 79, 80] (by decide +kernel) (by decide +kernel)
set_option maxRecDepth 20000 in
theorem gX5_piecesWith_X0_fewestFrom : GoodIn wsX5_piecesWith (wsV RX5 160 RX0 yX0_fewestFrom wsX0_fewestFrom) := goodIn_app (goodIn_of _ (by decide +kernel)) ggX5_piecesWith_X0_fewestFrom
theorem dX5_piecesWith_0 : decode cX5_piecesWith 0 = .ok (.aload_n 0, 1) := by decide +kernel
theorem dX5_piecesWith_1 : decode cX5_piecesWith 1 = .ok (.getfield 19, 3) := by decide +kernel
theorem dX5_piecesWith_4 : decode cX5_piecesWith 4 = .ok (.aload_n 0, 1) := by decide +kernel
theorem dX5_piecesWith_5 : decode cX5_piecesWith 5 = .ok (.getfield 10, 3) := by decide +kernel
theorem dX5_piecesWith_8 : decode cX5_piecesWith 8 = .ok (.invokevirtual 145, 3) := by decide +kernel
theorem dX5_piecesWith_11 : decode cX5_piecesWith 11 = .ok (.aload_n 0, 1) := by decide +kernel
theorem dX5_piecesWith_12 : decode cX5_piecesWith 12 = .ok (.getfield 19, 3) := by decide +kernel
theorem dX5_piecesWith_15 : decode cX5_piecesWith 15 = .ok (.iload_n 1, 1) := by decide +kernel
theorem dX5_piecesWith_16 : decode cX5_piecesWith 16 = .ok (.invokevirtual 74, 3) := by decide +kernel
theorem dX5_piecesWith_19 : decode cX5_piecesWith 19 = .ok (.aload_n 0, 1) := by decide +kernel
theorem dX5_piecesWith_20 : decode cX5_piecesWith 20 = .ok (.getfield 25, 3) := by decide +kernel
theorem dX5_piecesWith_23 : decode cX5_piecesWith 23 = .ok (.aload_n 0, 1) := by decide +kernel
theorem dX5_piecesWith_24 : decode cX5_piecesWith 24 = .ok (.getfield 19, 3) := by decide +kernel
theorem dX5_piecesWith_27 : decode cX5_piecesWith 27 = .ok (.aload_n 0, 1) := by decide +kernel
theorem dX5_piecesWith_28 : decode cX5_piecesWith 28 = .ok (.getfield 50, 3) := by decide +kernel
theorem dX5_piecesWith_31 : decode cX5_piecesWith 31 = .ok (.invokevirtual 156, 3) := by decide +kernel
theorem dX5_piecesWith_34 : decode cX5_piecesWith 34 = .ok (.aload_n 0, 1) := by decide +kernel
theorem dX5_piecesWith_35 : decode cX5_piecesWith 35 = .ok (.getfield 25, 3) := by decide +kernel
theorem dX5_piecesWith_38 : decode cX5_piecesWith 38 = .ok (.iconst 0, 1) := by decide +kernel
theorem dX5_piecesWith_39 : decode cX5_piecesWith 39 = .ok (.invokevirtual 160, 3) := by decide +kernel
theorem dX5_piecesWith_42 : decode cX5_piecesWith 42 = .ok (.ireturn, 1) := by decide +kernel
set_option maxRecDepth 20000 in
theorem ggX6_init_X6_layLevels : GoodIn wsX6_init wsX6_layLevels := goodIn_r _ [26, 27, 28, 29, 12, 5, 15, 18, 30, 31, 32, 25, 33, 34, 35, 16, 17, 20, 21, 36, 37, 38, 39, 14, 13, 40, 41, 42, 43, 6, 44, 45, 46, 47, 48, 49, 50, 51, 52, 53, 54, 55, 56, 57, 58, 59, 60, 61, 62, 63, 64, 65, 66, 67, 68, 69, 70, 71, 72, 73, 74, 75, 76, 77, 78, 79] (by decide +kernel) (by decide +kernel)
set_option maxRecDepth 20000 in
theorem gX6_init_X6_layLevels : GoodIn wsX6_init (wsV RX6 58 RX6 yX6_layLevels wsX6_layLevels) := goodIn_app (goodIn_of _ (by decide +kernel)) ggX6_init_X6_layLevels
