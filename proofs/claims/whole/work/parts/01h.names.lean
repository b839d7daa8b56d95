theorem dX6_take_36 : decode cX6_take 36 = .ok (.if_icmp .eq 31, 3) := by decide +kernel
theorem dX6_take_39 : decode cX6_take 39 = .ok (.aload_n 0, 1) := by decide +kernel
theorem dX6_take_40 : decode cX6_take 40 = .ok (.dup, 1) := by decide +kernel
theorem dX6_take_41 : decode cX6_take 41 = .ok (.getfield 83, 3) := by decide +kernel
theorem dX6_take_44 : decode cX6_take 44 = .ok (.iconst 1, 1) := by decide +kernel
theorem dX6_take_45 : decode cX6_take 45 = .ok (.isub, 1) := by decide +kernel
theorem dX6_take_46 : decode cX6_take 46 = .ok (.putfield 83, 3) := by decide +kernel
theorem dX6_take_49 : decode cX6_take 49 = .ok (.aload_n 0, 1) := by decide +kernel
theorem dX6_take_50 : decode cX6_take 50 = .ok (.getfield 17, 3) := by decide +kernel
theorem dX6_take_53 : decode cX6_take 53 = .ok (.iload_n 2, 1) := by decide +kernel
theorem dX6_take_54 : decode cX6_take 54 = .ok (.aload_n 0, 1) := by decide +kernel
theorem dX6_take_55 : decode cX6_take 55 = .ok (.getfield 17, 3) := by decide +kernel
theorem dX6_take_58 : decode cX6_take 58 = .ok (.aload_n 0, 1) := by decide +kernel
theorem dX6_take_59 : decode cX6_take 59 = .ok (.getfield 83, 3) := by decide +kernel
theorem dX6_take_62 : decode cX6_take 62 = .ok (.iaload, 1) := by decide +kernel
theorem dX6_take_63 : decode cX6_take 63 = .ok (.iastore, 1) := by decide +kernel
theorem dX6_take_64 : decode cX6_take 64 = .ok (.goto 41, 3) := by decide +kernel
theorem dX6_take_67 : decode cX6_take 67 = .ok (.aload_n 0, 1) := by decide +kernel
theorem dX6_take_68 : decode cX6_take 68 = .ok (.getfield 83, 3) := by decide +kernel
theorem dX6_take_71 : decode cX6_take 71 = .ok (.aload_n 0, 1) := by decide +kernel
theorem dX6_take_72 : decode cX6_take 72 = .ok (.getfield 72, 3) := by decide +kernel
theorem dX6_take_75 : decode cX6_take 75 = .ok (.iadd, 1) := by decide +kernel
theorem dX6_take_76 : decode cX6_take 76 = .ok (.bipush 8, 2) := by decide +kernel
theorem dX6_take_78 : decode cX6_take 78 = .ok (.if_icmp .ne 7, 3) := by decide +kernel
theorem dX6_take_81 : decode cX6_take 81 = .ok (.aload_n 0, 1) := by decide +kernel
theorem dX6_take_82 : decode cX6_take 82 = .ok (.invokevirtual 102, 3) := by decide +kernel
theorem dX6_take_85 : decode cX6_take 85 = .ok (.aload_n 0, 1) := by decide +kernel
theorem dX6_take_86 : decode cX6_take 86 = .ok (.getfield 20, 3) := by decide +kernel
theorem dX6_take_89 : decode cX6_take 89 = .ok (.aload_n 0, 1) := by decide +kernel
theorem dX6_take_90 : decode cX6_take 90 = .ok (.getfield 72, 3) := by decide +kernel
theorem dX6_take_93 : decode cX6_take 93 = .ok (.iload_n 1, 1) := by decide +kernel
theorem dX6_take_94 : decode cX6_take 94 = .ok (.iastore, 1) := by decide +kernel
theorem dX6_take_95 : decode cX6_take 95 = .ok (.aload_n 0, 1) := by decide +kernel
theorem dX6_take_96 : decode cX6_take 96 = .ok (.dup, 1) := by decide +kernel
theorem dX6_take_97 : decode cX6_take 97 = .ok (.getfield 72, 3) := by decide +kernel
theorem dX6_take_100 : decode cX6_take 100 = .ok (.iconst 1, 1) := by decide +kernel
theorem dX6_take_101 : decode cX6_take 101 = .ok (.iadd, 1) := by decide +kernel
theorem dX6_take_102 : decode cX6_take 102 = .ok (.putfield 72, 3) := by decide +kernel
theorem dX6_take_105 : decode cX6_take 105 = .ok (.aload_n 0, 1) := by decide +kernel
theorem dX6_take_106 : decode cX6_take 106 = .ok (.invokevirtual 86, 3) := by decide +kernel
theorem dX6_take_109 : decode cX6_take 109 = .ok (.aload_n 0, 1) := by decide +kernel
theorem dX6_take_110 : decode cX6_take 110 = .ok (.getfield 66, 3) := by decide +kernel
theorem dX6_take_113 : decode cX6_take 113 = .ok (.ireturn, 1) := by decide +kernel
set_option maxRecDepth 20000 in
theorem ggX6_make_X6_makeRow : GoodIn wsX6_make wsX6_makeRow := goodIn_r _ [6, 7, 8, 9, 10, 11, 12, 13, 1, 14, 15, 16, 5, 17, 18, 19, 20, 21, 22, 23, 24, 25, 26, 27, 28, 29, 30, 31, 32, 33, 34, 35, 36, 37, 38, 39, 40, 41, 42, 43, 44, 45, 46, 47, 48, 49, 50, 51, 52, 53, 54, 55, 56, 57, 58, 59, 60, 61, 62, 63, 64, 65, 66, 67, 68, 69, 70, 71, 72, 73, 74, 75, 76, 77, 78, 79, 80, 81, 82, 83, 84, 85, 86, 87, 88, 89, 90, 91, 92, 93, 94, 95, 96] (by decide +kernel) (by decide +kernel)
set_option maxRecDepth 20000 in
theorem gX6_make_X6_makeRow : GoodIn wsX6_make (wsV RX6 102 RX6 yX6_makeRow wsX6_makeRow) := goodIn_app (goodIn_of _ (by decide +kernel)) ggX6_make_X6_makeRow
theorem dX6_make_0 : decode cX6_make 0 = .ok (.aload_n 0, 1) := by decide +kernel
theorem dX6_make_1 : decode cX6_make 1 = .ok (.invokevirtual 102, 3) := by decide +kernel
theorem dX6_make_4 : decode cX6_make 4 = .ok (.aload_n 0, 1) := by decide +kernel
theorem dX6_make_5 : decode cX6_make 5 = .ok (.getfield 92, 3) := by decide +kernel
theorem dX6_make_8 : decode cX6_make 8 = .ok (.ireturn, 1) := by decide +kernel
set_option maxRecDepth 20000 in
theorem ggX6_slack_X6_in : GoodIn wsX6_slack wsX6_in := goodIn_r _ [5] (by decide +kernel) (by decide +kernel)
set_option maxRecDepth 20000 in
theorem gX6_slack_X6_in : GoodIn wsX6_slack (va_wsS RX6 62 yX6_in wsX6_in) := goodIn_app (goodIn_of _ (by decide +kernel)) ggX6_slack_X6_in
set_option maxRecDepth 20000 in
theorem ggX6_slack_X6_makeRow : GoodIn wsX6_slack wsX6_makeRow := goodIn_r _ [9, 10, 11, 12, 13, 14, 15, 16, 17, 18, 19, 20, 4, 21, 22, 23, 24, 25, 26, 27, 28, 29, 30, 31, 32, 33, 34, 35, 36, 37, 38, 39, 40, 41, 42, 43, 44, 45, 46, 47, 48, 49, 50, 51, 52, 53, 54, 55, 56, 57, 58, 59, 60, 61, 62, 63, 1, 64, 65, 66, 67, 68, 69, 70, 71, 72, 73, 74, 75, 76, 77, 78, 79, 80, 81, 82, 83, 84, 85, 86, 87, 88, 89, 90, 91, 92, 93, 94, 95, 96, 97, 98, 99] (by decide +kernel) (by decide +kernel)
set_option maxRecDepth 20000 in
theorem gX6_slack_X6_makeRow : GoodIn wsX6_slack (wsV RX6 102 RX6 yX6_makeRow wsX6_makeRow) := goodIn_app (goodIn_of _ (by decide +kernel)) ggX6_slack_X6_makeRow
theorem dX6_slack_0 : decode cX6_slack 0 = .ok (.iload_n 1, 1) := by decide +kernel
theorem dX6_slack_1 : decode cX6_slack 1 = .ok (.iconst 0, 1) := by decide +kernel
theorem dX6_slack_2 : decode cX6_slack 2 = .ok (.bipush 8, 2) := by decide +kernel
theorem dX6_slack_4 : decode cX6_slack 4 = .ok (.invokestatic 62, 3) := by decide +kernel
theorem dX6_slack_7 : decode cX6_slack 7 = .ok (.ifCond .ne 6, 3) := by decide +kernel
theorem dX6_slack_10 : decode cX6_slack 10 = .ok (.bipush (-2), 2) := by decide +kernel
theorem dX6_slack_12 : decode cX6_slack 12 = .ok (.ireturn, 1) := by decide +kernel
theorem dX6_slack_13 : decode cX6_slack 13 = .ok (.aload_n 0, 1) := by decide +kernel
theorem dX6_slack_14 : decode cX6_slack 14 = .ok (.getfield 13, 3) := by decide +kernel
theorem dX6_slack_17 : decode cX6_slack 17 = .ok (.istore_n 2, 1) := by decide +kernel
theorem dX6_slack_18 : decode cX6_slack 18 = .ok (.aload_n 0, 1) := by decide +kernel
theorem dX6_slack_19 : decode cX6_slack 19 = .ok (.iload_n 1, 1) := by decide +kernel
theorem dX6_slack_20 : decode cX6_slack 20 = .ok (.putfield 13, 3) := by decide +kernel
theorem dX6_slack_23 : decode cX6_slack 23 = .ok (.aload_n 0, 1) := by decide +kernel
theorem dX6_slack_24 : decode cX6_slack 24 = .ok (.invokevirtual 102, 3) := by decide +kernel
theorem dX6_slack_27 : decode cX6_slack 27 = .ok (.iload_n 2, 1) := by decide +kernel
theorem dX6_slack_28 : decode cX6_slack 28 = .ok (.ireturn, 1) := by decide +kernel
set_option maxRecDepth 20000 in
theorem ggX6_place_X6_isNumber : GoodIn wsX6_place wsX6_isNumber := goodIn_r _ [6, 7, 8, 9, 5, 10] (by decide +kernel) (by decide +kernel)
set_option maxRecDepth 20000 in
theorem gX6_place_X6_isNumber : GoodIn wsX6_place (va_wsS RX6 95 yX6_isNumber wsX6_isNumber) := goodIn_app (goodIn_of _ (by decide +kernel)) ggX6_place_X6_isNumber
set_option maxRecDepth 20000 in
theorem ggX6_place_X6_layNow : GoodIn wsX6_place wsX6_layNow := goodIn_r _ [14, 2, 15, 16, 17, 18, 19, 20, 21, 22, 5, 23, 24, 25, 26, 27, 1, 28, 29, 30, 31, 32, 33, 34, 35, 36, 37, 38, 39, 40, 41, 42, 43, 44, 45, 46, 47, 48, 49, 50, 51, 52] (by decide +kernel) (by decide +kernel)
set_option maxRecDepth 20000 in
theorem gX6_place_X6_layNow : GoodIn wsX6_place (wsV RX6 86 RX6 yX6_layNow wsX6_layNow) := goodIn_app (goodIn_of _ (by decide +kernel)) ggX6_place_X6_layNow
set_option maxRecDepth 20000 in
theorem ggX6_place_X6_placeIn : GoodIn wsX6_place wsX6_placeIn := goodIn_r _ [23] (by decide +kernel) (by decide +kernel)
set_option maxRecDepth 20000 in
theorem gX6_place_X6_placeIn : GoodIn wsX6_place (va_wsS RX6 75 yX6_placeIn wsX6_placeIn) := goodIn_app (goodIn_of _ (by decide +kernel)) ggX6_place_X6_placeIn
theorem dX6_place_0 : decode cX6_place 0 = .ok (.iload_n 1, 1) := by decide +kernel
theorem dX6_place_1 : decode cX6_place 1 = .ok (.invokestatic 95, 3) := by decide +kernel
theorem dX6_place_4 : decode cX6_place 4 = .ok (.ifCond .ne 6, 3) := by decide +kernel
theorem dX6_place_7 : decode cX6_place 7 = .ok (.bipush (-2), 2) := by decide +kernel
theorem dX6_place_9 : decode cX6_place 9 = .ok (.ireturn, 1) := by decide +kernel
theorem dX6_place_10 : decode cX6_place 10 = .ok (.aload_n 0, 1) := by decide +kernel
theorem dX6_place_11 : decode cX6_place 11 = .ok (.invokevirtual 86, 3) := by decide +kernel
theorem dX6_place_14 : decode cX6_place 14 = .ok (.aload_n 0, 1) := by decide +kernel
theorem dX6_place_15 : decode cX6_place 15 = .ok (.getfield 27, 3) := by decide +kernel
theorem dX6_place_18 : decode cX6_place 18 = .ok (.aload_n 0, 1) := by decide +kernel
theorem dX6_place_19 : decode cX6_place 19 = .ok (.getfield 66, 3) := by decide +kernel
theorem dX6_place_22 : decode cX6_place 22 = .ok (.iload_n 1, 1) := by decide +kernel
theorem dX6_place_23 : decode cX6_place 23 = .ok (.invokestatic 75, 3) := by decide +kernel
theorem dX6_place_26 : decode cX6_place 26 = .ok (.ireturn, 1) := by decide +kernel
set_option maxRecDepth 20000 in
theorem ggX6_at_X6_layNow : GoodIn wsX6_at wsX6_layNow := goodIn_r _ [7, 1, 8, 9, 10, 11, 12, 13, 14, 15, 6, 16, 17, 18, 19, 20, 2, 24, 25, 26, 27, 28, 29, 30, 31, 32, 33, 34, 35, 36, 37, 38, 39, 40, 41, 42, 43, 44, 45, 46, 47, 48] (by decide +kernel) (by decide +kernel)
set_option maxRecDepth 20000 in
theorem gX6_at_X6_layNow : GoodIn wsX6_at (wsV RX6 86 RX6 yX6_layNow wsX6_layNow) := goodIn_app (goodIn_of _ (by decide +kernel)) ggX6_at_X6_layNow
set_option maxRecDepth 20000 in
theorem ggX6_at_X6_in : GoodIn wsX6_at wsX6_in := goodIn_r _ [23] (by decide +kernel) (by decide +kernel)
set_option maxRecDepth 20000 in
theorem gX6_at_X6_in : GoodIn wsX6_at (va_wsS RX6 62 yX6_in wsX6_in) := goodIn_app (goodIn_of _ (by decide +kernel)) ggX6_at_X6_in
theorem dX6_at_0 : decode cX6_at 0 = .ok (.aload_n 0, 1) := by decide +kernel
theorem dX6_at_1 : decode cX6_at 1 = .ok (.invokevirtual 86, 3) := by decide +kernel
theorem dX6_at_4 : decode cX6_at 4 = .ok (.iload_n 1, 1) := by decide +kernel
theorem dX6_at_5 : decode cX6_at 5 = .ok (.iconst 0, 1) := by decide +kernel
theorem dX6_at_6 : decode cX6_at 6 = .ok (.aload_n 0, 1) := by decide +kernel
theorem dX6_at_7 : decode cX6_at 7 = .ok (.getfield 66, 3) := by decide +kernel
theorem dX6_at_10 : decode cX6_at 10 = .ok (.iconst 1, 1) := by decide +kernel
theorem dX6_at_11 : decode cX6_at 11 = .ok (.isub, 1) := by decide +kernel
theorem dX6_at_12 : decode cX6_at 12 = .ok (.invokestatic 62, 3) := by decide +kernel
theorem dX6_at_15 : decode cX6_at 15 = .ok (.ifCond .eq 12, 3) := by decide +kernel
theorem dX6_at_18 : decode cX6_at 18 = .ok (.aload_n 0, 1) := by decide +kernel
theorem dX6_at_19 : decode cX6_at 19 = .ok (.getfield 27, 3) := by decide +kernel
theorem dX6_at_22 : decode cX6_at 22 = .ok (.iload_n 1, 1) := by decide +kernel
theorem dX6_at_23 : decode cX6_at 23 = .ok (.iaload, 1) := by decide +kernel
theorem dX6_at_24 : decode cX6_at 24 = .ok (.goto 5, 3) := by decide +kernel
theorem dX6_at_27 : decode cX6_at 27 = .ok (.bipush (-2), 2) := by decide +kernel
theorem dX6_at_29 : decode cX6_at 29 = .ok (.ireturn, 1) := by decide +kernel
set_option maxRecDepth 20000 in
theorem ggX6_isSpan_X6_isNumber : GoodIn wsX6_isSpan wsX6_isNumber := goodIn_r _ [4, 5, 6, 7, 3, 8] (by decide +kernel) (by decide +kernel)
set_option maxRecDepth 20000 in
theorem gX6_isSpan_X6_isNumber : GoodIn wsX6_isSpan (va_wsS RX6 95 yX6_isNumber wsX6_isNumber) := goodIn_app (goodIn_of _ (by decide +kernel)) ggX6_isSpan_X6_isNumber
theorem dX6_isSpan_0 : decode cX6_isSpan 0 = .ok (.iload_n 0, 1) := by decide +kernel
theorem dX6_isSpan_1 : decode cX6_isSpan 1 = .ok (.invokestatic 95, 3) := by decide +kernel
theorem dX6_isSpan_4 : decode cX6_isSpan 4 = .ok (.ifCond .eq 19, 3) := by decide +kernel
theorem dX6_isSpan_7 : decode cX6_isSpan 7 = .ok (.iload_n 1, 1) := by decide +kernel
theorem dX6_isSpan_8 : decode cX6_isSpan 8 = .ok (.invokestatic 95, 3) := by decide +kernel
theorem dX6_isSpan_11 : decode cX6_isSpan 11 = .ok (.ifCond .eq 12, 3) := by decide +kernel
theorem dX6_isSpan_14 : decode cX6_isSpan 14 = .ok (.iload_n 0, 1) := by decide +kernel
theorem dX6_isSpan_15 : decode cX6_isSpan 15 = .ok (.iload_n 1, 1) := by decide +kernel
theorem dX6_isSpan_16 : decode cX6_isSpan 16 = .ok (.if_icmp .gt 7, 3) := by decide +kernel
theorem dX6_isSpan_19 : decode cX6_isSpan 19 = .ok (.iconst 1, 1) := by decide +kernel
theorem dX6_isSpan_20 : decode cX6_isSpan 20 = .ok (.goto 4, 3) := by decide +kernel
theorem dX6_isSpan_23 : decode cX6_isSpan 23 = .ok (.iconst 0, 1) := by decide +kernel
theorem dX6_isSpan_24 : decode cX6_isSpan 24 = .ok (.ireturn, 1) := by decide +kernel
set_option maxRecDepth 20000 in
theorem ggX6_range_X6_isSpan : GoodIn wsX6_range wsX6_isSpan := goodIn_r _ [6, 7, 8, 5, 9, 10, 11, 12, 13] (by decide +kernel) (by decide +kernel)
set_option maxRecDepth 20000 in
theorem gX6_range_X6_isSpan : GoodIn wsX6_range (va_wsS RX6 105 yX6_isSpan wsX6_isSpan) := goodIn_app (goodIn_of _ (by decide +kernel)) ggX6_range_X6_isSpan
set_option maxRecDepth 20000 in
theorem ggX6_range_X6_layNow : GoodIn wsX6_range wsX6_layNow := goodIn_r _ [17, 1, 18, 19, 20, 21, 22, 23, 24, 25, 5, 26, 27, 28, 29, 30, 2, 31, 32, 33, 34, 35, 36, 37, 38, 39, 40, 41, 42, 43, 44, 45, 46, 47, 48, 49, 50, 51, 52, 53, 54, 55] (by decide +kernel) (by decide +kernel)
set_option maxRecDepth 20000 in
theorem gX6_range_X6_layNow : GoodIn wsX6_range (wsV RX6 86 RX6 yX6_layNow wsX6_layNow) := goodIn_app (goodIn_of _ (by decide +kernel)) ggX6_range_X6_layNow
set_option maxRecDepth 20000 in
theorem ggX6_range_X6_in : GoodIn wsX6_range wsX6_in := goodIn_r _ [13] (by decide +kernel) (by decide +kernel)
set_option maxRecDepth 20000 in
theorem gX6_range_X6_in : GoodIn wsX6_range (va_wsS RX6 62 yX6_in wsX6_in) := goodIn_app (goodIn_of _ (by decide +kernel)) ggX6_range_X6_in
theorem dX6_range_0 : decode cX6_range 0 = .ok (.iload_n 1, 1) := by decide +kernel
theorem dX6_range_1 : decode cX6_range 1 = .ok (.iload_n 2, 1) := by decide +kernel
theorem dX6_range_2 : decode cX6_range 2 = .ok (.invokestatic 105, 3) := by decide +kernel
theorem dX6_range_5 : decode cX6_range 5 = .ok (.ifCond .ne 6, 3) := by decide +kernel
theorem dX6_range_8 : decode cX6_range 8 = .ok (.bipush (-2), 2) := by decide +kernel
theorem dX6_range_10 : decode cX6_range 10 = .ok (.ireturn, 1) := by decide +kernel
theorem dX6_range_11 : decode cX6_range 11 = .ok (.aload_n 0, 1) := by decide +kernel
theorem dX6_range_12 : decode cX6_range 12 = .ok (.invokevirtual 86, 3) := by decide +kernel
theorem dX6_range_15 : decode cX6_range 15 = .ok (.iconst 0, 1) := by decide +kernel
theorem dX6_range_16 : decode cX6_range 16 = .ok (.istore_n 3, 1) := by decide +kernel
theorem dX6_range_17 : decode cX6_range 17 = .ok (.iconst 0, 1) := by decide +kernel
theorem dX6_range_18 : decode cX6_range 18 = .ok (.istore 4, 2) := by decide +kernel
theorem dX6_range_20 : decode cX6_range 20 = .ok (.iload 4, 2) := by decide +kernel
theorem dX6_range_22 : decode cX6_range 22 = .ok (.aload_n 0, 1) := by decide +kernel
theorem dX6_range_23 : decode cX6_range 23 = .ok (.getfield 66, 3) := by decide +kernel
theorem dX6_range_26 : decode cX6_range 26 = .ok (.if_icmp .ge 32, 3) := by decide +kernel
theorem dX6_range_29 : decode cX6_range 29 = .ok (.iload_n 3, 1) := by decide +kernel
theorem dX6_range_30 : decode cX6_range 30 = .ok (.aload_n 0, 1) := by decide +kernel
theorem dX6_range_31 : decode cX6_range 31 = .ok (.getfield 27, 3) := by decide +kernel
theorem dX6_range_34 : decode cX6_range 34 = .ok (.iload 4, 2) := by decide +kernel
theorem dX6_range_36 : decode cX6_range 36 = .ok (.iaload, 1) := by decide +kernel
theorem dX6_range_37 : decode cX6_range 37 = .ok (.iload_n 1, 1) := by decide +kernel
theorem dX6_range_38 : decode cX6_range 38 = .ok (.iload_n 2, 1) := by decide +kernel
theorem dX6_range_39 : decode cX6_range 39 = .ok (.invokestatic 62, 3) := by decide +kernel
theorem dX6_range_42 : decode cX6_range 42 = .ok (.ifCond .eq 7, 3) := by decide +kernel
theorem dX6_range_45 : decode cX6_range 45 = .ok (.iconst 1, 1) := by decide +kernel
theorem dX6_range_46 : decode cX6_range 46 = .ok (.goto 4, 3) := by decide +kernel
theorem dX6_range_49 : decode cX6_range 49 = .ok (.iconst 0, 1) := by decide +kernel
theorem dX6_range_50 : decode cX6_range 50 = .ok (.iadd, 1) := by decide +kernel
theorem dX6_range_51 : decode cX6_range 51 = .ok (.istore_n 3, 1) := by decide +kernel
theorem dX6_range_52 : decode cX6_range 52 = .ok (.iinc 4 1, 3) := by decide +kernel
theorem dX6_range_55 : decode cX6_range 55 = .ok (.goto (-35), 3) := by decide +kernel
theorem dX6_range_58 : decode cX6_range 58 = .ok (.iload_n 3, 1) := by decide +kernel
theorem dX6_range_59 : decode cX6_range 59 = .ok (.ireturn, 1) := by decide +kernel
set_option maxRecDepth 20000 in
theorem ggX6_sum_X6_isSpan : GoodIn wsX6_sum wsX6_isSpan := goodIn_r _ [7, 8, 9, 6, 10, 11, 12, 13, 14] (by decide +kernel) (by decide +kernel)
set_option maxRecDepth 20000 in
theorem gX6_sum_X6_isSpan : GoodIn wsX6_sum (va_wsS RX6 105 yX6_isSpan wsX6_isSpan) := goodIn_app (goodIn_of _ (by decide +kernel)) ggX6_sum_X6_isSpan
set_option maxRecDepth 20000 in
theorem ggX6_sum_X6_layNow : GoodIn wsX6_sum wsX6_layNow := goodIn_r _ [18, 2, 19, 20, 21, 22, 23, 24, 25, 26, 6, 27, 28, 29, 30, 31, 3, 32, 33, 34, 35, 36, 37, 38, 39, 40, 41, 42, 43, 44, 45, 46, 47, 48, 49, 50, 51, 52, 53, 54, 55, 56] (by decide +kernel) (by decide +kernel)
set_option maxRecDepth 20000 in
theorem gX6_sum_X6_layNow : GoodIn wsX6_sum (wsV RX6 86 RX6 yX6_layNow wsX6_layNow) := goodIn_app (goodIn_of _ (by decide +kernel)) ggX6_sum_X6_layNow
set_option maxRecDepth 20000 in
theorem ggX6_sum_X6_in : GoodIn wsX6_sum wsX6_in := goodIn_r _ [14] (by decide +kernel) (by decide +kernel)
set_option maxRecDepth 20000 in
theorem gX6_sum_X6_in : GoodIn wsX6_sum (va_wsS RX6 62 yX6_in wsX6_in) := goodIn_app (goodIn_of _ (by decide +kernel)) ggX6_sum_X6_in
theorem dX6_sum_0 : decode cX6_sum 0 = .ok (.iload_n 1, 1) := by decide +kernel
theorem dX6_sum_1 : decode cX6_sum 1 = .ok (.iload_n 2, 1) := by decide +kernel
theorem dX6_sum_2 : decode cX6_sum 2 = .ok (.invokestatic 105, 3) := by decide +kernel
theorem dX6_sum_5 : decode cX6_sum 5 = .ok (.ifCond .ne 7, 3) := by decide +kernel
theorem dX6_sum_8 : decode cX6_sum 8 = .ok (.ldc2_w 109, 3) := by decide +kernel
theorem dX6_sum_11 : decode cX6_sum 11 = .ok (.lreturn, 1) := by decide +kernel
theorem dX6_sum_12 : decode cX6_sum 12 = .ok (.aload_n 0, 1) := by decide +kernel
theorem dX6_sum_13 : decode cX6_sum 13 = .ok (.invokevirtual 86, 3) := by decide +kernel
theorem dX6_sum_16 : decode cX6_sum 16 = .ok (.lconst 0, 1) := by decide +kernel
theorem dX6_sum_17 : decode cX6_sum 17 = .ok (.lstore_n 3, 1) := by decide +kernel
theorem dX6_sum_18 : decode cX6_sum 18 = .ok (.iconst 0, 1) := by decide +kernel
theorem dX6_sum_19 : decode cX6_sum 19 = .ok (.istore 5, 2) := by decide +kernel
theorem dX6_sum_21 : decode cX6_sum 21 = .ok (.iload 5, 2) := by decide +kernel
theorem dX6_sum_23 : decode cX6_sum 23 = .ok (.aload_n 0, 1) := by decide +kernel
theorem dX6_sum_24 : decode cX6_sum 24 = .ok (.getfield 66, 3) := by decide +kernel
theorem dX6_sum_27 : decode cX6_sum 27 = .ok (.if_icmp .ge 39, 3) := by decide +kernel
theorem dX6_sum_30 : decode cX6_sum 30 = .ok (.lload_n 3, 1) := by decide +kernel
theorem dX6_sum_31 : decode cX6_sum 31 = .ok (.aload_n 0, 1) := by decide +kernel
theorem dX6_sum_32 : decode cX6_sum 32 = .ok (.getfield 27, 3) := by decide +kernel
theorem dX6_sum_35 : decode cX6_sum 35 = .ok (.iload 5, 2) := by decide +kernel
theorem dX6_sum_37 : decode cX6_sum 37 = .ok (.iaload, 1) := by decide +kernel
theorem dX6_sum_38 : decode cX6_sum 38 = .ok (.iload_n 1, 1) := by decide +kernel
theorem dX6_sum_39 : decode cX6_sum 39 = .ok (.iload_n 2, 1) := by decide +kernel
theorem dX6_sum_40 : decode cX6_sum 40 = .ok (.invokestatic 62, 3) := by decide +kernel
theorem dX6_sum_43 : decode cX6_sum 43 = .ok (.ifCond .eq 14, 3) := by decide +kernel
theorem dX6_sum_46 : decode cX6_sum 46 = .ok (.aload_n 0, 1) := by decide +kernel
theorem dX6_sum_47 : decode cX6_sum 47 = .ok (.getfield 27, 3) := by decide +kernel
theorem dX6_sum_50 : decode cX6_sum 50 = .ok (.iload 5, 2) := by decide +kernel
theorem dX6_sum_52 : decode cX6_sum 52 = .ok (.iaload, 1) := by decide +kernel
theorem dX6_sum_53 : decode cX6_sum 53 = .ok (.i2l, 1) := by decide +kernel
theorem dX6_sum_54 : decode cX6_sum 54 = .ok (.goto 4, 3) := by decide +kernel
theorem dX6_sum_57 : decode cX6_sum 57 = .ok (.lconst 0, 1) := by decide +kernel
theorem dX6_sum_58 : decode cX6_sum 58 = .ok (.ladd, 1) := by decide +kernel
theorem dX6_sum_59 : decode cX6_sum 59 = .ok (.lstore_n 3, 1) := by decide +kernel
theorem dX6_sum_60 : decode cX6_sum 60 = .ok (.iinc 5 1, 3) := by decide +kernel
theorem dX6_sum_63 : decode cX6_sum 63 = .ok (.goto (-42), 3) := by decide +kernel
theorem dX6_sum_66 : decode cX6_sum 66 = .ok (.lload_n 3, 1) := by decide +kernel
theorem dX6_sum_67 : decode cX6_sum 67 = .ok (.lreturn, 1) := by decide +kernel
theorem dX6_layLow_0 : decode cX6_layLow 0 = .ok (.aload_n 0, 1) := by decide +kernel
theorem dX6_layLow_1 : decode cX6_layLow 1 = .ok (.lconst 0, 1) := by decide +kernel
theorem dX6_layLow_2 : decode cX6_layLow 2 = .ok (.putfield 111, 3) := by decide +kernel
theorem dX6_layLow_5 : decode cX6_layLow 5 = .ok (.aload_n 0, 1) := by decide +kernel
theorem dX6_layLow_6 : decode cX6_layLow 6 = .ok (.lconst 1, 1) := by decide +kernel
theorem dX6_layLow_7 : decode cX6_layLow 7 = .ok (.putfield 115, 3) := by decide +kernel
theorem dX6_layLow_10 : decode cX6_layLow 10 = .ok (.iload_n 1, 1) := by decide +kernel
theorem dX6_layLow_11 : decode cX6_layLow 11 = .ok (.iconst 1, 1) := by decide +kernel
theorem dX6_layLow_12 : decode cX6_layLow 12 = .ok (.iadd, 1) := by decide +kernel
theorem dX6_layLow_13 : decode cX6_layLow 13 = .ok (.istore_n 3, 1) := by decide +kernel
theorem dX6_layLow_14 : decode cX6_layLow 14 = .ok (.iload_n 3, 1) := by decide +kernel
theorem dX6_layLow_15 : decode cX6_layLow 15 = .ok (.iload_n 2, 1) := by decide +kernel
theorem dX6_layLow_16 : decode cX6_layLow 16 = .ok (.if_icmp .gt 66, 3) := by decide +kernel
theorem dX6_layLow_19 : decode cX6_layLow 19 = .ok (.iload_n 3, 1) := by decide +kernel
theorem dX6_layLow_20 : decode cX6_layLow 20 = .ok (.aload_n 0, 1) := by decide +kernel
theorem dX6_layLow_21 : decode cX6_layLow 21 = .ok (.getfield 13, 3) := by decide +kernel
theorem dX6_layLow_24 : decode cX6_layLow 24 = .ok (.isub, 1) := by decide +kernel
theorem dX6_layLow_25 : decode cX6_layLow 25 = .ok (.iload_n 1, 1) := by decide +kernel
theorem dX6_layLow_26 : decode cX6_layLow 26 = .ok (.isub, 1) := by decide +kernel
theorem dX6_layLow_27 : decode cX6_layLow 27 = .ok (.i2l, 1) := by decide +kernel
theorem dX6_layLow_28 : decode cX6_layLow 28 = .ok (.lstore 4, 2) := by decide +kernel
theorem dX6_layLow_30 : decode cX6_layLow 30 = .ok (.aload_n 0, 1) := by decide +kernel
theorem dX6_layLow_31 : decode cX6_layLow 31 = .ok (.getfield 30, 3) := by decide +kernel
theorem dX6_layLow_34 : decode cX6_layLow 34 = .ok (.iload_n 3, 1) := by decide +kernel
theorem dX6_layLow_35 : decode cX6_layLow 35 = .ok (.iaload, 1) := by decide +kernel
theorem dX6_layLow_36 : decode cX6_layLow 36 = .ok (.aload_n 0, 1) := by decide +kernel
theorem dX6_layLow_37 : decode cX6_layLow 37 = .ok (.getfield 30, 3) := by decide +kernel
theorem dX6_layLow_40 : decode cX6_layLow 40 = .ok (.iload_n 1, 1) := by decide +kernel
theorem dX6_layLow_41 : decode cX6_layLow 41 = .ok (.iaload, 1) := by decide +kernel
theorem dX6_layLow_42 : decode cX6_layLow 42 = .ok (.isub, 1) := by decide +kernel
theorem dX6_layLow_43 : decode cX6_layLow 43 = .ok (.i2l, 1) := by decide +kernel
theorem dX6_layLow_44 : decode cX6_layLow 44 = .ok (.lstore 6, 2) := by decide +kernel
theorem dX6_layLow_46 : decode cX6_layLow 46 = .ok (.lload 4, 2) := by decide +kernel
theorem dX6_layLow_48 : decode cX6_layLow 48 = .ok (.aload_n 0, 1) := by decide +kernel
theorem dX6_layLow_49 : decode cX6_layLow 49 = .ok (.getfield 115, 3) := by decide +kernel
theorem dX6_layLow_52 : decode cX6_layLow 52 = .ok (.lmul, 1) := by decide +kernel
theorem dX6_layLow_53 : decode cX6_layLow 53 = .ok (.aload_n 0, 1) := by decide +kernel
theorem dX6_layLow_54 : decode cX6_layLow 54 = .ok (.getfield 111, 3) := by decide +kernel
theorem dX6_layLow_57 : decode cX6_layLow 57 = .ok (.lload 6, 2) := by decide +kernel
theorem dX6_layLow_59 : decode cX6_layLow 59 = .ok (.lmul, 1) := by decide +kernel
theorem dX6_layLow_60 : decode cX6_layLow 60 = .ok (.lcmp, 1) := by decide +kernel
theorem dX6_layLow_61 : decode cX6_layLow 61 = .ok (.ifCond .le 15, 3) := by decide +kernel
theorem dX6_layLow_64 : decode cX6_layLow 64 = .ok (.aload_n 0, 1) := by decide +kernel
theorem dX6_layLow_65 : decode cX6_layLow 65 = .ok (.lload 4, 2) := by decide +kernel
theorem dX6_layLow_67 : decode cX6_layLow 67 = .ok (.putfield 111, 3) := by decide +kernel
theorem dX6_layLow_70 : decode cX6_layLow 70 = .ok (.aload_n 0, 1) := by decide +kernel
theorem dX6_layLow_71 : decode cX6_layLow 71 = .ok (.lload 6, 2) := by decide +kernel
theorem dX6_layLow_73 : decode cX6_layLow 73 = .ok (.putfield 115, 3) := by decide +kernel
theorem dX6_layLow_76 : decode cX6_layLow 76 = .ok (.iinc 3 1, 3) := by decide +kernel
theorem dX6_layLow_79 : decode cX6_layLow 79 = .ok (.goto (-65), 3) := by decide +kernel
theorem dX6_layLow_82 : decode cX6_layLow 82 = .ok (.return_, 1) := by decide +kernel
set_option maxRecDepth 20000 in
theorem ggX6_keeps_X6_layLow : GoodIn wsX6_keeps wsX6_layLow := goodIn_r _ [9, 1, 4, 3, 2, 10, 11, 12, 13, 14, 15, 16, 17, 18, 19, 20, 21, 22, 23, 24, 25, 26, 27, 28, 29, 30, 31, 32, 33, 34] (by decide +kernel) (by decide +kernel)
set_option maxRecDepth 20000 in
theorem gX6_keeps_X6_layLow : GoodIn wsX6_keeps (wsV RX6 118 RX6 yX6_layLow wsX6_layLow) := goodIn_app (goodIn_of _ (by decide +kernel)) ggX6_keeps_X6_layLow
theorem dX6_keeps_0 : decode cX6_keeps 0 = .ok (.aload_n 0, 1) := by decide +kernel
theorem dX6_keeps_1 : decode cX6_keeps 1 = .ok (.iload_n 1, 1) := by decide +kernel
theorem dX6_keeps_2 : decode cX6_keeps 2 = .ok (.iload_n 2, 1) := by decide +kernel
theorem dX6_keeps_3 : decode cX6_keeps 3 = .ok (.invokevirtual 118, 3) := by decide +kernel
theorem dX6_keeps_6 : decode cX6_keeps 6 = .ok (.iconst 1, 1) := by decide +kernel
theorem dX6_keeps_7 : decode cX6_keeps 7 = .ok (.istore_n 3, 1) := by decide +kernel
theorem dX6_keeps_8 : decode cX6_keeps 8 = .ok (.iload_n 1, 1) := by decide +kernel
theorem dX6_keeps_9 : decode cX6_keeps 9 = .ok (.iconst 1, 1) := by decide +kernel
theorem dX6_keeps_10 : decode cX6_keeps 10 = .ok (.iadd, 1) := by decide +kernel
theorem dX6_keeps_11 : decode cX6_keeps 11 = .ok (.istore 4, 2) := by decide +kernel
theorem dX6_keeps_13 : decode cX6_keeps 13 = .ok (.iload 4, 2) := by decide +kernel
theorem dX6_keeps_15 : decode cX6_keeps 15 = .ok (.iload_n 2, 1) := by decide +kernel
theorem dX6_keeps_16 : decode cX6_keeps 16 = .ok (.if_icmp .gt 58, 3) := by decide +kernel
theorem dX6_keeps_19 : decode cX6_keeps 19 = .ok (.iload_n 3, 1) := by decide +kernel
theorem dX6_keeps_20 : decode cX6_keeps 20 = .ok (.ifCond .eq 46, 3) := by decide +kernel
theorem dX6_keeps_23 : decode cX6_keeps 23 = .ok (.aload_n 0, 1) := by decide +kernel
theorem dX6_keeps_24 : decode cX6_keeps 24 = .ok (.getfield 111, 3) := by decide +kernel
theorem dX6_keeps_27 : decode cX6_keeps 27 = .ok (.aload_n 0, 1) := by decide +kernel
theorem dX6_keeps_28 : decode cX6_keeps 28 = .ok (.getfield 30, 3) := by decide +kernel
theorem dX6_keeps_31 : decode cX6_keeps 31 = .ok (.iload 4, 2) := by decide +kernel
theorem dX6_keeps_33 : decode cX6_keeps 33 = .ok (.iaload, 1) := by decide +kernel
theorem dX6_keeps_34 : decode cX6_keeps 34 = .ok (.aload_n 0, 1) := by decide +kernel
theorem dX6_keeps_35 : decode cX6_keeps 35 = .ok (.getfield 30, 3) := by decide +kernel
theorem dX6_keeps_38 : decode cX6_keeps 38 = .ok (.iload_n 1, 1) := by decide +kernel
theorem dX6_keeps_39 : decode cX6_keeps 39 = .ok (.iaload, 1) := by decide +kernel
theorem dX6_keeps_40 : decode cX6_keeps 40 = .ok (.isub, 1) := by decide +kernel
theorem dX6_keeps_41 : decode cX6_keeps 41 = .ok (.i2l, 1) := by decide +kernel
theorem dX6_keeps_42 : decode cX6_keeps 42 = .ok (.lmul, 1) := by decide +kernel
theorem dX6_keeps_43 : decode cX6_keeps 43 = .ok (.iload 4, 2) := by decide +kernel
theorem dX6_keeps_45 : decode cX6_keeps 45 = .ok (.aload_n 0, 1) := by decide +kernel
theorem dX6_keeps_46 : decode cX6_keeps 46 = .ok (.getfield 13, 3) := by decide +kernel
theorem dX6_keeps_49 : decode cX6_keeps 49 = .ok (.iadd, 1) := by decide +kernel
theorem dX6_keeps_50 : decode cX6_keeps 50 = .ok (.iload_n 1, 1) := by decide +kernel
theorem dX6_keeps_51 : decode cX6_keeps 51 = .ok (.isub, 1) := by decide +kernel
theorem dX6_keeps_52 : decode cX6_keeps 52 = .ok (.i2l, 1) := by decide +kernel
theorem dX6_keeps_53 : decode cX6_keeps 53 = .ok (.aload_n 0, 1) := by decide +kernel
theorem dX6_keeps_54 : decode cX6_keeps 54 = .ok (.getfield 115, 3) := by decide +kernel
theorem dX6_keeps_57 : decode cX6_keeps 57 = .ok (.lmul, 1) := by decide +kernel
theorem dX6_keeps_58 : decode cX6_keeps 58 = .ok (.lcmp, 1) := by decide +kernel
theorem dX6_keeps_59 : decode cX6_keeps 59 = .ok (.ifCond .gt 7, 3) := by decide +kernel
theorem dX6_keeps_62 : decode cX6_keeps 62 = .ok (.iconst 1, 1) := by decide +kernel
theorem dX6_keeps_63 : decode cX6_keeps 63 = .ok (.goto 4, 3) := by decide +kernel
theorem dX6_keeps_66 : decode cX6_keeps 66 = .ok (.iconst 0, 1) := by decide +kernel
theorem dX6_keeps_67 : decode cX6_keeps 67 = .ok (.istore_n 3, 1) := by decide +kernel
theorem dX6_keeps_68 : decode cX6_keeps 68 = .ok (.iinc 4 1, 3) := by decide +kernel
theorem dX6_keeps_71 : decode cX6_keeps 71 = .ok (.goto (-58), 3) := by decide +kernel
theorem dX6_keeps_74 : decode cX6_keeps 74 = .ok (.iload_n 3, 1) := by decide +kernel
theorem dX6_keeps_75 : decode cX6_keeps 75 = .ok (.ireturn, 1) := by decide +kernel
set_option maxRecDepth 20000 in
theorem ggX6_layPieces_X6_keeps : GoodIn wsX6_layPieces wsX6_keeps := goodIn_r _ [8, 9, 10, 11, 12, 13, 14, 15, 7, 16, 17, 18, 19, 20, 21, 22, 23, 24, 25, 26, 27, 28, 29, 30, 31, 32, 33, 34, 35, 36, 37, 38, 39, 40, 41] (by decide +kernel) (by decide +kernel)
set_option maxRecDepth 20000 in
theorem gX6_layPieces_X6_keeps : GoodIn wsX6_layPieces (wsV RX6 125 RX6 yX6_keeps wsX6_keeps) := goodIn_app (goodIn_of _ (by decide +kernel)) ggX6_layPieces_X6_keeps
theorem dX6_layPieces_0 : decode cX6_layPieces 0 = .ok (.aload_n 0, 1) := by decide +kernel
theorem dX6_layPieces_1 : decode cX6_layPieces 1 = .ok (.getfield 36, 3) := by decide +kernel
theorem dX6_layPieces_4 : decode cX6_layPieces 4 = .ok (.aload_n 0, 1) := by decide +kernel
theorem dX6_layPieces_5 : decode cX6_layPieces 5 = .ok (.getfield 122, 3) := by decide +kernel
theorem dX6_layPieces_8 : decode cX6_layPieces 8 = .ok (.iconst 0, 1) := by decide +kernel
theorem dX6_layPieces_9 : decode cX6_layPieces 9 = .ok (.iastore, 1) := by decide +kernel
theorem dX6_layPieces_10 : decode cX6_layPieces 10 = .ok (.aload_n 0, 1) := by decide +kernel
theorem dX6_layPieces_11 : decode cX6_layPieces 11 = .ok (.getfield 122, 3) := by decide +kernel
theorem dX6_layPieces_14 : decode cX6_layPieces 14 = .ok (.iconst 1, 1) := by decide +kernel
theorem dX6_layPieces_15 : decode cX6_layPieces 15 = .ok (.isub, 1) := by decide +kernel
theorem dX6_layPieces_16 : decode cX6_layPieces 16 = .ok (.istore_n 1, 1) := by decide +kernel
theorem dX6_layPieces_17 : decode cX6_layPieces 17 = .ok (.iload_n 1, 1) := by decide +kernel
theorem dX6_layPieces_18 : decode cX6_layPieces 18 = .ok (.ifCond .lt 110, 3) := by decide +kernel
theorem dX6_layPieces_21 : decode cX6_layPieces 21 = .ok (.iload_n 1, 1) := by decide +kernel
theorem dX6_layPieces_22 : decode cX6_layPieces 22 = .ok (.istore_n 2, 1) := by decide +kernel
theorem dX6_layPieces_23 : decode cX6_layPieces 23 = .ok (.iload_n 2, 1) := by decide +kernel
theorem dX6_layPieces_24 : decode cX6_layPieces 24 = .ok (.iconst 1, 1) := by decide +kernel
theorem dX6_layPieces_25 : decode cX6_layPieces 25 = .ok (.iadd, 1) := by decide +kernel
theorem dX6_layPieces_26 : decode cX6_layPieces 26 = .ok (.aload_n 0, 1) := by decide +kernel
theorem dX6_layPieces_27 : decode cX6_layPieces 27 = .ok (.getfield 122, 3) := by decide +kernel
theorem dX6_layPieces_30 : decode cX6_layPieces 30 = .ok (.if_icmp .ge 20, 3) := by decide +kernel
theorem dX6_layPieces_33 : decode cX6_layPieces 33 = .ok (.aload_n 0, 1) := by decide +kernel
theorem dX6_layPieces_34 : decode cX6_layPieces 34 = .ok (.iload_n 1, 1) := by decide +kernel
theorem dX6_layPieces_35 : decode cX6_layPieces 35 = .ok (.iload_n 2, 1) := by decide +kernel
theorem dX6_layPieces_36 : decode cX6_layPieces 36 = .ok (.iconst 1, 1) := by decide +kernel
theorem dX6_layPieces_37 : decode cX6_layPieces 37 = .ok (.iadd, 1) := by decide +kernel
theorem dX6_layPieces_38 : decode cX6_layPieces 38 = .ok (.invokevirtual 125, 3) := by decide +kernel
theorem dX6_layPieces_41 : decode cX6_layPieces 41 = .ok (.ifCond .eq 9, 3) := by decide +kernel
theorem dX6_layPieces_44 : decode cX6_layPieces 44 = .ok (.iinc 2 1, 3) := by decide +kernel
theorem dX6_layPieces_47 : decode cX6_layPieces 47 = .ok (.goto (-24), 3) := by decide +kernel
theorem dX6_layPieces_50 : decode cX6_layPieces 50 = .ok (.aload_n 0, 1) := by decide +kernel
theorem dX6_layPieces_51 : decode cX6_layPieces 51 = .ok (.getfield 33, 3) := by decide +kernel
theorem dX6_layPieces_54 : decode cX6_layPieces 54 = .ok (.iload_n 1, 1) := by decide +kernel
theorem dX6_layPieces_55 : decode cX6_layPieces 55 = .ok (.iload_n 2, 1) := by decide +kernel
theorem dX6_layPieces_56 : decode cX6_layPieces 56 = .ok (.iastore, 1) := by decide +kernel
theorem dX6_layPieces_57 : decode cX6_layPieces 57 = .ok (.aload_n 0, 1) := by decide +kernel
theorem dX6_layPieces_58 : decode cX6_layPieces 58 = .ok (.getfield 36, 3) := by decide +kernel
theorem dX6_layPieces_61 : decode cX6_layPieces 61 = .ok (.iload_n 1, 1) := by decide +kernel
theorem dX6_layPieces_62 : decode cX6_layPieces 62 = .ok (.bipush 68, 2) := by decide +kernel
theorem dX6_layPieces_64 : decode cX6_layPieces 64 = .ok (.iastore, 1) := by decide +kernel
theorem dX6_layPieces_65 : decode cX6_layPieces 65 = .ok (.iload_n 1, 1) := by decide +kernel
theorem dX6_layPieces_66 : decode cX6_layPieces 66 = .ok (.istore_n 3, 1) := by decide +kernel
theorem dX6_layPieces_67 : decode cX6_layPieces 67 = .ok (.iload_n 3, 1) := by decide +kernel
theorem dX6_layPieces_68 : decode cX6_layPieces 68 = .ok (.iload_n 2, 1) := by decide +kernel
theorem dX6_layPieces_69 : decode cX6_layPieces 69 = .ok (.if_icmp .gt 53, 3) := by decide +kernel
theorem dX6_layPieces_72 : decode cX6_layPieces 72 = .ok (.aload_n 0, 1) := by decide +kernel
theorem dX6_layPieces_73 : decode cX6_layPieces 73 = .ok (.getfield 36, 3) := by decide +kernel
theorem dX6_layPieces_76 : decode cX6_layPieces 76 = .ok (.iload_n 1, 1) := by decide +kernel
theorem dX6_layPieces_77 : decode cX6_layPieces 77 = .ok (.aload_n 0, 1) := by decide +kernel
theorem dX6_layPieces_78 : decode cX6_layPieces 78 = .ok (.getfield 36, 3) := by decide +kernel
theorem dX6_layPieces_81 : decode cX6_layPieces 81 = .ok (.iload_n 3, 1) := by decide +kernel
theorem dX6_layPieces_82 : decode cX6_layPieces 82 = .ok (.iconst 1, 1) := by decide +kernel
theorem dX6_layPieces_83 : decode cX6_layPieces 83 = .ok (.iadd, 1) := by decide +kernel
theorem dX6_layPieces_84 : decode cX6_layPieces 84 = .ok (.iaload, 1) := by decide +kernel
theorem dX6_layPieces_85 : decode cX6_layPieces 85 = .ok (.iconst 1, 1) := by decide +kernel
theorem dX6_layPieces_86 : decode cX6_layPieces 86 = .ok (.iadd, 1) := by decide +kernel
theorem dX6_layPieces_87 : decode cX6_layPieces 87 = .ok (.aload_n 0, 1) := by decide +kernel
theorem dX6_layPieces_88 : decode cX6_layPieces 88 = .ok (.getfield 36, 3) := by decide +kernel
theorem dX6_layPieces_91 : decode cX6_layPieces 91 = .ok (.iload_n 1, 1) := by decide +kernel
theorem dX6_layPieces_92 : decode cX6_layPieces 92 = .ok (.iaload, 1) := by decide +kernel
theorem dX6_layPieces_93 : decode cX6_layPieces 93 = .ok (.if_icmp .ge 16, 3) := by decide +kernel
theorem dX6_layPieces_96 : decode cX6_layPieces 96 = .ok (.aload_n 0, 1) := by decide +kernel
theorem dX6_layPieces_97 : decode cX6_layPieces 97 = .ok (.getfield 36, 3) := by decide +kernel
theorem dX6_layPieces_100 : decode cX6_layPieces 100 = .ok (.iload_n 3, 1) := by decide +kernel
theorem dX6_layPieces_101 : decode cX6_layPieces 101 = .ok (.iconst 1, 1) := by decide +kernel
theorem dX6_layPieces_102 : decode cX6_layPieces 102 = .ok (.iadd, 1) := by decide +kernel
theorem dX6_layPieces_103 : decode cX6_layPieces 103 = .ok (.iaload, 1) := by decide +kernel
theorem dX6_layPieces_104 : decode cX6_layPieces 104 = .ok (.iconst 1, 1) := by decide +kernel
theorem dX6_layPieces_105 : decode cX6_layPieces 105 = .ok (.iadd, 1) := by decide +kernel
theorem dX6_layPieces_106 : decode cX6_layPieces 106 = .ok (.goto 9, 3) := by decide +kernel
theorem dX6_layPieces_109 : decode cX6_layPieces 109 = .ok (.aload_n 0, 1) := by decide +kernel
theorem dX6_layPieces_110 : decode cX6_layPieces 110 = .ok (.getfield 36, 3) := by decide +kernel
theorem dX6_layPieces_113 : decode cX6_layPieces 113 = .ok (.iload_n 1, 1) := by decide +kernel
theorem dX6_layPieces_114 : decode cX6_layPieces 114 = .ok (.iaload, 1) := by decide +kernel
theorem dX6_layPieces_115 : decode cX6_layPieces 115 = .ok (.iastore, 1) := by decide +kernel
theorem dX6_layPieces_116 : decode cX6_layPieces 116 = .ok (.iinc 3 1, 3) := by decide +kernel
theorem dX6_layPieces_119 : decode cX6_layPieces 119 = .ok (.goto (-52), 3) := by decide +kernel
theorem dX6_layPieces_122 : decode cX6_layPieces 122 = .ok (.iinc 1 (-1), 3) := by decide +kernel
theorem dX6_layPieces_125 : decode cX6_layPieces 125 = .ok (.goto (-108), 3) := by decide +kernel
theorem dX6_layPieces_128 : decode cX6_layPieces 128 = .ok (.return_, 1) := by decide +kernel
theorem dX6_endOf_0 : decode cX6_endOf 0 = .ok (.aload_n 0, 1) := by decide +kernel
theorem dX6_endOf_1 : decode cX6_endOf 1 = .ok (.getfield 33, 3) := by decide +kernel
