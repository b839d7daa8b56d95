theorem dX6_guess_11 : decode cX6_guess 11 = .ok (.getfield 69, 3) := by decide +kernel
theorem dX6_guess_14 : decode cX6_guess 14 = .ok (.ifCond .ne 7, 3) := by decide +kernel
theorem dX6_guess_17 : decode cX6_guess 17 = .ok (.iconst (-1), 1) := by decide +kernel
theorem dX6_guess_18 : decode cX6_guess 18 = .ok (.goto 13, 3) := by decide +kernel
theorem dX6_guess_21 : decode cX6_guess 21 = .ok (.aload_n 0, 1) := by decide +kernel
theorem dX6_guess_22 : decode cX6_guess 22 = .ok (.aload_n 0, 1) := by decide +kernel
theorem dX6_guess_23 : decode cX6_guess 23 = .ok (.iload_n 1, 1) := by decide +kernel
theorem dX6_guess_24 : decode cX6_guess 24 = .ok (.invokevirtual 148, 3) := by decide +kernel
theorem dX6_guess_27 : decode cX6_guess 27 = .ok (.iload_n 1, 1) := by decide +kernel
theorem dX6_guess_28 : decode cX6_guess 28 = .ok (.invokevirtual 151, 3) := by decide +kernel
theorem dX6_guess_31 : decode cX6_guess 31 = .ok (.ireturn, 1) := by decide +kernel
set_option maxRecDepth 20000 in
theorem ggX6_lookFor_X6_pieceFor : GoodIn wsX6_lookFor wsX6_pieceFor := goodIn_r _ [11, 12, 13, 14, 15, 10, 16, 17, 18, 28, 29, 30, 31, 32, 33, 34, 35, 36, 37, 38, 39, 40, 41, 42, 43, 44, 45, 46, 47, 48, 49, 50, 51, 52] (by decide +kernel) (by decide +kernel)
set_option maxRecDepth 20000 in
theorem gX6_lookFor_X6_pieceFor : GoodIn wsX6_lookFor (wsV RX6 148 RX6 yX6_pieceFor wsX6_pieceFor) := goodIn_app (goodIn_of _ (by decide +kernel)) ggX6_lookFor_X6_pieceFor
set_option maxRecDepth 20000 in
theorem ggX6_lookFor_X6_guessBy : GoodIn wsX6_lookFor wsX6_guessBy := goodIn_r _ [22, 23, 12, 24, 4, 5, 28, 29, 30, 31, 32, 33, 34, 35, 36, 37, 38, 39, 40, 41, 42, 43, 44, 45, 46, 47, 48, 49, 50, 51, 52] (by decide +kernel) (by decide +kernel)
set_option maxRecDepth 20000 in
theorem gX6_lookFor_X6_guessBy : GoodIn wsX6_lookFor (wsV RX6 151 RX6 yX6_guessBy wsX6_guessBy) := goodIn_app (goodIn_of _ (by decide +kernel)) ggX6_lookFor_X6_guessBy
set_option maxRecDepth 20000 in
theorem ggX6_lookFor_X6_in : GoodIn wsX6_lookFor wsX6_in := goodIn_r _ [27] (by decide +kernel) (by decide +kernel)
set_option maxRecDepth 20000 in
theorem gX6_lookFor_X6_in : GoodIn wsX6_lookFor (va_wsS RX6 62 yX6_in wsX6_in) := goodIn_app (goodIn_of _ (by decide +kernel)) ggX6_lookFor_X6_in
theorem dX6_lookFor_0 : decode cX6_lookFor 0 = .ok (.aload_n 0, 1) := by decide +kernel
theorem dX6_lookFor_1 : decode cX6_lookFor 1 = .ok (.iconst 0, 1) := by decide +kernel
theorem dX6_lookFor_2 : decode cX6_lookFor 2 = .ok (.putfield 155, 3) := by decide +kernel
theorem dX6_lookFor_5 : decode cX6_lookFor 5 = .ok (.aload_n 0, 1) := by decide +kernel
theorem dX6_lookFor_6 : decode cX6_lookFor 6 = .ok (.getfield 69, 3) := by decide +kernel
theorem dX6_lookFor_9 : decode cX6_lookFor 9 = .ok (.ifCond .ne 5, 3) := by decide +kernel
theorem dX6_lookFor_12 : decode cX6_lookFor 12 = .ok (.iconst (-1), 1) := by decide +kernel
theorem dX6_lookFor_13 : decode cX6_lookFor 13 = .ok (.ireturn, 1) := by decide +kernel
theorem dX6_lookFor_14 : decode cX6_lookFor 14 = .ok (.aload_n 0, 1) := by decide +kernel
theorem dX6_lookFor_15 : decode cX6_lookFor 15 = .ok (.iload_n 1, 1) := by decide +kernel
theorem dX6_lookFor_16 : decode cX6_lookFor 16 = .ok (.invokevirtual 148, 3) := by decide +kernel
theorem dX6_lookFor_19 : decode cX6_lookFor 19 = .ok (.istore_n 2, 1) := by decide +kernel
theorem dX6_lookFor_20 : decode cX6_lookFor 20 = .ok (.aload_n 0, 1) := by decide +kernel
theorem dX6_lookFor_21 : decode cX6_lookFor 21 = .ok (.iload_n 2, 1) := by decide +kernel
theorem dX6_lookFor_22 : decode cX6_lookFor 22 = .ok (.iload_n 1, 1) := by decide +kernel
theorem dX6_lookFor_23 : decode cX6_lookFor 23 = .ok (.invokevirtual 151, 3) := by decide +kernel
theorem dX6_lookFor_26 : decode cX6_lookFor 26 = .ok (.istore_n 3, 1) := by decide +kernel
theorem dX6_lookFor_27 : decode cX6_lookFor 27 = .ok (.iconst 0, 1) := by decide +kernel
theorem dX6_lookFor_28 : decode cX6_lookFor 28 = .ok (.istore 4, 2) := by decide +kernel
theorem dX6_lookFor_30 : decode cX6_lookFor 30 = .ok (.iload 4, 2) := by decide +kernel
theorem dX6_lookFor_32 : decode cX6_lookFor 32 = .ok (.iconst 2, 1) := by decide +kernel
theorem dX6_lookFor_33 : decode cX6_lookFor 33 = .ok (.aload_n 0, 1) := by decide +kernel
theorem dX6_lookFor_34 : decode cX6_lookFor 34 = .ok (.getfield 13, 3) := by decide +kernel
theorem dX6_lookFor_37 : decode cX6_lookFor 37 = .ok (.imul, 1) := by decide +kernel
theorem dX6_lookFor_38 : decode cX6_lookFor 38 = .ok (.if_icmp .gt 80, 3) := by decide +kernel
theorem dX6_lookFor_41 : decode cX6_lookFor 41 = .ok (.iload 4, 2) := by decide +kernel
theorem dX6_lookFor_43 : decode cX6_lookFor 43 = .ok (.iconst 2, 1) := by decide +kernel
theorem dX6_lookFor_44 : decode cX6_lookFor 44 = .ok (.irem, 1) := by decide +kernel
theorem dX6_lookFor_45 : decode cX6_lookFor 45 = .ok (.iconst 1, 1) := by decide +kernel
theorem dX6_lookFor_46 : decode cX6_lookFor 46 = .ok (.if_icmp .ne 14, 3) := by decide +kernel
theorem dX6_lookFor_49 : decode cX6_lookFor 49 = .ok (.iload_n 3, 1) := by decide +kernel
theorem dX6_lookFor_50 : decode cX6_lookFor 50 = .ok (.iload 4, 2) := by decide +kernel
theorem dX6_lookFor_52 : decode cX6_lookFor 52 = .ok (.iconst 1, 1) := by decide +kernel
theorem dX6_lookFor_53 : decode cX6_lookFor 53 = .ok (.iadd, 1) := by decide +kernel
theorem dX6_lookFor_54 : decode cX6_lookFor 54 = .ok (.iconst 2, 1) := by decide +kernel
theorem dX6_lookFor_55 : decode cX6_lookFor 55 = .ok (.idiv, 1) := by decide +kernel
theorem dX6_lookFor_56 : decode cX6_lookFor 56 = .ok (.isub, 1) := by decide +kernel
theorem dX6_lookFor_57 : decode cX6_lookFor 57 = .ok (.goto 9, 3) := by decide +kernel
theorem dX6_lookFor_60 : decode cX6_lookFor 60 = .ok (.iload_n 3, 1) := by decide +kernel
theorem dX6_lookFor_61 : decode cX6_lookFor 61 = .ok (.iload 4, 2) := by decide +kernel
theorem dX6_lookFor_63 : decode cX6_lookFor 63 = .ok (.iconst 2, 1) := by decide +kernel
theorem dX6_lookFor_64 : decode cX6_lookFor 64 = .ok (.idiv, 1) := by decide +kernel
theorem dX6_lookFor_65 : decode cX6_lookFor 65 = .ok (.iadd, 1) := by decide +kernel
theorem dX6_lookFor_66 : decode cX6_lookFor 66 = .ok (.istore 5, 2) := by decide +kernel
theorem dX6_lookFor_68 : decode cX6_lookFor 68 = .ok (.iload 5, 2) := by decide +kernel
theorem dX6_lookFor_70 : decode cX6_lookFor 70 = .ok (.aload_n 0, 1) := by decide +kernel
theorem dX6_lookFor_71 : decode cX6_lookFor 71 = .ok (.getfield 42, 3) := by decide +kernel
theorem dX6_lookFor_74 : decode cX6_lookFor 74 = .ok (.iload_n 2, 1) := by decide +kernel
theorem dX6_lookFor_75 : decode cX6_lookFor 75 = .ok (.iaload, 1) := by decide +kernel
theorem dX6_lookFor_76 : decode cX6_lookFor 76 = .ok (.aload_n 0, 1) := by decide +kernel
theorem dX6_lookFor_77 : decode cX6_lookFor 77 = .ok (.getfield 45, 3) := by decide +kernel
theorem dX6_lookFor_80 : decode cX6_lookFor 80 = .ok (.iload_n 2, 1) := by decide +kernel
theorem dX6_lookFor_81 : decode cX6_lookFor 81 = .ok (.iaload, 1) := by decide +kernel
theorem dX6_lookFor_82 : decode cX6_lookFor 82 = .ok (.invokestatic 62, 3) := by decide +kernel
theorem dX6_lookFor_85 : decode cX6_lookFor 85 = .ok (.ifCond .eq 27, 3) := by decide +kernel
theorem dX6_lookFor_88 : decode cX6_lookFor 88 = .ok (.aload_n 0, 1) := by decide +kernel
theorem dX6_lookFor_89 : decode cX6_lookFor 89 = .ok (.dup, 1) := by decide +kernel
theorem dX6_lookFor_90 : decode cX6_lookFor 90 = .ok (.getfield 155, 3) := by decide +kernel
theorem dX6_lookFor_93 : decode cX6_lookFor 93 = .ok (.iconst 1, 1) := by decide +kernel
theorem dX6_lookFor_94 : decode cX6_lookFor 94 = .ok (.iadd, 1) := by decide +kernel
theorem dX6_lookFor_95 : decode cX6_lookFor 95 = .ok (.putfield 155, 3) := by decide +kernel
theorem dX6_lookFor_98 : decode cX6_lookFor 98 = .ok (.aload_n 0, 1) := by decide +kernel
theorem dX6_lookFor_99 : decode cX6_lookFor 99 = .ok (.getfield 7, 3) := by decide +kernel
theorem dX6_lookFor_102 : decode cX6_lookFor 102 = .ok (.iload 5, 2) := by decide +kernel
theorem dX6_lookFor_104 : decode cX6_lookFor 104 = .ok (.iaload, 1) := by decide +kernel
theorem dX6_lookFor_105 : decode cX6_lookFor 105 = .ok (.iload_n 1, 1) := by decide +kernel
theorem dX6_lookFor_106 : decode cX6_lookFor 106 = .ok (.if_icmp .ne 6, 3) := by decide +kernel
theorem dX6_lookFor_109 : decode cX6_lookFor 109 = .ok (.iload 5, 2) := by decide +kernel
theorem dX6_lookFor_111 : decode cX6_lookFor 111 = .ok (.ireturn, 1) := by decide +kernel
theorem dX6_lookFor_112 : decode cX6_lookFor 112 = .ok (.iinc 4 1, 3) := by decide +kernel
theorem dX6_lookFor_115 : decode cX6_lookFor 115 = .ok (.goto (-85), 3) := by decide +kernel
theorem dX6_lookFor_118 : decode cX6_lookFor 118 = .ok (.iconst (-1), 1) := by decide +kernel
theorem dX6_lookFor_119 : decode cX6_lookFor 119 = .ok (.ireturn, 1) := by decide +kernel
set_option maxRecDepth 20000 in
theorem ggX6_find_X6_isNumber : GoodIn wsX6_find wsX6_isNumber := goodIn_r _ [4, 5, 6, 7, 3, 8] (by decide +kernel) (by decide +kernel)
set_option maxRecDepth 20000 in
theorem gX6_find_X6_isNumber : GoodIn wsX6_find (va_wsS RX6 95 yX6_isNumber wsX6_isNumber) := goodIn_app (goodIn_of _ (by decide +kernel)) ggX6_find_X6_isNumber
set_option maxRecDepth 20000 in
theorem ggX6_find_X6_lookFor : GoodIn wsX6_find wsX6_lookFor := goodIn_r _ [12, 13, 14, 15, 16, 17, 18, 19, 20, 21, 3, 22, 23, 24, 25, 26, 27, 28, 29, 30, 31, 32, 33, 34, 35, 6, 7, 8, 36, 37, 38, 39, 40, 41, 42, 43, 44, 45, 46, 47, 48, 49, 50, 51, 52, 53, 54, 55, 56, 57, 58, 59, 60] (by decide +kernel) (by decide +kernel)
set_option maxRecDepth 20000 in
theorem gX6_find_X6_lookFor : GoodIn wsX6_find (wsV RX6 158 RX6 yX6_lookFor wsX6_lookFor) := goodIn_app (goodIn_of _ (by decide +kernel)) ggX6_find_X6_lookFor
theorem dX6_find_0 : decode cX6_find 0 = .ok (.iload_n 1, 1) := by decide +kernel
theorem dX6_find_1 : decode cX6_find 1 = .ok (.invokestatic 95, 3) := by decide +kernel
theorem dX6_find_4 : decode cX6_find 4 = .ok (.ifCond .eq 11, 3) := by decide +kernel
theorem dX6_find_7 : decode cX6_find 7 = .ok (.aload_n 0, 1) := by decide +kernel
theorem dX6_find_8 : decode cX6_find 8 = .ok (.iload_n 1, 1) := by decide +kernel
theorem dX6_find_9 : decode cX6_find 9 = .ok (.invokevirtual 158, 3) := by decide +kernel
theorem dX6_find_12 : decode cX6_find 12 = .ok (.goto 5, 3) := by decide +kernel
theorem dX6_find_15 : decode cX6_find 15 = .ok (.bipush (-2), 2) := by decide +kernel
theorem dX6_find_17 : decode cX6_find 17 = .ok (.ireturn, 1) := by decide +kernel
set_option maxRecDepth 20000 in
theorem ggX6_looks_X6_isNumber : GoodIn wsX6_looks wsX6_isNumber := goodIn_r _ [5, 6, 7, 8, 4, 9] (by decide +kernel) (by decide +kernel)
set_option maxRecDepth 20000 in
theorem gX6_looks_X6_isNumber : GoodIn wsX6_looks (va_wsS RX6 95 yX6_isNumber wsX6_isNumber) := goodIn_app (goodIn_of _ (by decide +kernel)) ggX6_looks_X6_isNumber
set_option maxRecDepth 20000 in
theorem ggX6_looks_X6_lookFor : GoodIn wsX6_looks wsX6_lookFor := goodIn_r _ [13, 1, 14, 15, 16, 17, 18, 19, 20, 21, 4, 22, 23, 24, 25, 26, 27, 28, 29, 30, 31, 32, 33, 34, 35, 7, 8, 9, 36, 37, 38, 39, 40, 41, 42, 43, 44, 45, 46, 47, 48, 49, 50, 51, 52, 53, 54, 55, 56, 57, 58, 59, 60] (by decide +kernel) (by decide +kernel)
set_option maxRecDepth 20000 in
theorem gX6_looks_X6_lookFor : GoodIn wsX6_looks (wsV RX6 158 RX6 yX6_lookFor wsX6_lookFor) := goodIn_app (goodIn_of _ (by decide +kernel)) ggX6_looks_X6_lookFor
theorem dX6_looks_0 : decode cX6_looks 0 = .ok (.iload_n 1, 1) := by decide +kernel
theorem dX6_looks_1 : decode cX6_looks 1 = .ok (.invokestatic 95, 3) := by decide +kernel
theorem dX6_looks_4 : decode cX6_looks 4 = .ok (.ifCond .ne 6, 3) := by decide +kernel
theorem dX6_looks_7 : decode cX6_looks 7 = .ok (.bipush (-2), 2) := by decide +kernel
theorem dX6_looks_9 : decode cX6_looks 9 = .ok (.ireturn, 1) := by decide +kernel
theorem dX6_looks_10 : decode cX6_looks 10 = .ok (.aload_n 0, 1) := by decide +kernel
theorem dX6_looks_11 : decode cX6_looks 11 = .ok (.iload_n 1, 1) := by decide +kernel
theorem dX6_looks_12 : decode cX6_looks 12 = .ok (.invokevirtual 158, 3) := by decide +kernel
theorem dX6_looks_15 : decode cX6_looks 15 = .ok (.pop, 1) := by decide +kernel
theorem dX6_looks_16 : decode cX6_looks 16 = .ok (.aload_n 0, 1) := by decide +kernel
theorem dX6_looks_17 : decode cX6_looks 17 = .ok (.getfield 155, 3) := by decide +kernel
theorem dX6_looks_20 : decode cX6_looks 20 = .ok (.ireturn, 1) := by decide +kernel
theorem dX6_isMaybe_0 : decode cX6_isMaybe 0 = .ok (.aload_n 0, 1) := by decide +kernel
theorem dX6_isMaybe_1 : decode cX6_isMaybe 1 = .ok (.getfield 23, 3) := by decide +kernel
theorem dX6_isMaybe_4 : decode cX6_isMaybe 4 = .ok (.iload_n 1, 1) := by decide +kernel
theorem dX6_isMaybe_5 : decode cX6_isMaybe 5 = .ok (.bipush 61, 2) := by decide +kernel
theorem dX6_isMaybe_7 : decode cX6_isMaybe 7 = .ok (.irem, 1) := by decide +kernel
theorem dX6_isMaybe_8 : decode cX6_isMaybe 8 = .ok (.baload, 1) := by decide +kernel
theorem dX6_isMaybe_9 : decode cX6_isMaybe 9 = .ok (.ifCond .eq 22, 3) := by decide +kernel
theorem dX6_isMaybe_12 : decode cX6_isMaybe 12 = .ok (.aload_n 0, 1) := by decide +kernel
theorem dX6_isMaybe_13 : decode cX6_isMaybe 13 = .ok (.getfield 23, 3) := by decide +kernel
theorem dX6_isMaybe_16 : decode cX6_isMaybe 16 = .ok (.iload_n 1, 1) := by decide +kernel
theorem dX6_isMaybe_17 : decode cX6_isMaybe 17 = .ok (.bipush 61, 2) := by decide +kernel
theorem dX6_isMaybe_19 : decode cX6_isMaybe 19 = .ok (.idiv, 1) := by decide +kernel
theorem dX6_isMaybe_20 : decode cX6_isMaybe 20 = .ok (.bipush 64, 2) := by decide +kernel
theorem dX6_isMaybe_22 : decode cX6_isMaybe 22 = .ok (.irem, 1) := by decide +kernel
theorem dX6_isMaybe_23 : decode cX6_isMaybe 23 = .ok (.baload, 1) := by decide +kernel
theorem dX6_isMaybe_24 : decode cX6_isMaybe 24 = .ok (.ifCond .eq 7, 3) := by decide +kernel
theorem dX6_isMaybe_27 : decode cX6_isMaybe 27 = .ok (.iconst 1, 1) := by decide +kernel
theorem dX6_isMaybe_28 : decode cX6_isMaybe 28 = .ok (.goto 4, 3) := by decide +kernel
theorem dX6_isMaybe_31 : decode cX6_isMaybe 31 = .ok (.iconst 0, 1) := by decide +kernel
theorem dX6_isMaybe_32 : decode cX6_isMaybe 32 = .ok (.ireturn, 1) := by decide +kernel
set_option maxRecDepth 20000 in
theorem ggX6_maybe_X6_isNumber : GoodIn wsX6_maybe wsX6_isNumber := goodIn_r _ [4, 5, 6, 7, 3, 8] (by decide +kernel) (by decide +kernel)
set_option maxRecDepth 20000 in
theorem gX6_maybe_X6_isNumber : GoodIn wsX6_maybe (va_wsS RX6 95 yX6_isNumber wsX6_isNumber) := goodIn_app (goodIn_of _ (by decide +kernel)) ggX6_maybe_X6_isNumber
set_option maxRecDepth 20000 in
theorem ggX6_maybe_X6_isMaybe : GoodIn wsX6_maybe wsX6_isMaybe := goodIn_r _ [12, 13, 14, 15, 16, 17, 18, 19, 20, 21, 22, 23, 24, 25, 26, 27, 28, 29, 30, 31, 32, 33, 34, 35, 36, 37, 38] (by decide +kernel) (by decide +kernel)
set_option maxRecDepth 20000 in
theorem gX6_maybe_X6_isMaybe : GoodIn wsX6_maybe (wsV RX6 161 RX6 yX6_isMaybe wsX6_isMaybe) := goodIn_app (goodIn_of _ (by decide +kernel)) ggX6_maybe_X6_isMaybe
theorem dX6_maybe_0 : decode cX6_maybe 0 = .ok (.iload_n 1, 1) := by decide +kernel
theorem dX6_maybe_1 : decode cX6_maybe 1 = .ok (.invokestatic 95, 3) := by decide +kernel
theorem dX6_maybe_4 : decode cX6_maybe 4 = .ok (.ifCond .ne 8, 3) := by decide +kernel
theorem dX6_maybe_7 : decode cX6_maybe 7 = .ok (.bipush (-2), 2) := by decide +kernel
theorem dX6_maybe_9 : decode cX6_maybe 9 = .ok (.goto 16, 3) := by decide +kernel
theorem dX6_maybe_12 : decode cX6_maybe 12 = .ok (.aload_n 0, 1) := by decide +kernel
theorem dX6_maybe_13 : decode cX6_maybe 13 = .ok (.iload_n 1, 1) := by decide +kernel
theorem dX6_maybe_14 : decode cX6_maybe 14 = .ok (.invokevirtual 161, 3) := by decide +kernel
theorem dX6_maybe_17 : decode cX6_maybe 17 = .ok (.ifCond .eq 7, 3) := by decide +kernel
theorem dX6_maybe_20 : decode cX6_maybe 20 = .ok (.iconst 1, 1) := by decide +kernel
theorem dX6_maybe_21 : decode cX6_maybe 21 = .ok (.goto 4, 3) := by decide +kernel
theorem dX6_maybe_24 : decode cX6_maybe 24 = .ok (.iconst 0, 1) := by decide +kernel
theorem dX6_maybe_25 : decode cX6_maybe 25 = .ok (.ireturn, 1) := by decide +kernel
set_option maxRecDepth 20000 in
theorem ggX6_wrong_X6_isSpan : GoodIn wsX6_wrong wsX6_isSpan := goodIn_r _ [6, 7, 8, 5, 9, 10, 11, 12, 13] (by decide +kernel) (by decide +kernel)
set_option maxRecDepth 20000 in
theorem gX6_wrong_X6_isSpan : GoodIn wsX6_wrong (va_wsS RX6 105 yX6_isSpan wsX6_isSpan) := goodIn_app (goodIn_of _ (by decide +kernel)) ggX6_wrong_X6_isSpan
set_option maxRecDepth 20000 in
theorem ggX6_wrong_X6_layNow : GoodIn wsX6_wrong wsX6_layNow := goodIn_r _ [17, 2, 18, 19, 20, 21, 22, 23, 24, 25, 5, 26, 27, 28, 29, 30, 1, 36, 37, 38, 39, 40, 41, 42, 43, 44, 45, 46, 47, 48, 49, 50, 51, 52, 53, 54, 55, 56, 57, 58, 59, 60] (by decide +kernel) (by decide +kernel)
set_option maxRecDepth 20000 in
theorem gX6_wrong_X6_layNow : GoodIn wsX6_wrong (wsV RX6 86 RX6 yX6_layNow wsX6_layNow) := goodIn_app (goodIn_of _ (by decide +kernel)) ggX6_wrong_X6_layNow
set_option maxRecDepth 20000 in
theorem ggX6_wrong_X6_isMaybe : GoodIn wsX6_wrong wsX6_isMaybe := goodIn_r _ [34, 35, 36, 37, 38, 39, 40, 41, 42, 43, 44, 45, 46, 47, 48, 49, 50, 51, 52, 53, 54, 55, 56, 57, 58, 59, 60] (by decide +kernel) (by decide +kernel)
set_option maxRecDepth 20000 in
theorem gX6_wrong_X6_isMaybe : GoodIn wsX6_wrong (wsV RX6 161 RX6 yX6_isMaybe wsX6_isMaybe) := goodIn_app (goodIn_of _ (by decide +kernel)) ggX6_wrong_X6_isMaybe
set_option maxRecDepth 20000 in
theorem ggX6_wrong_X6_placeIn : GoodIn wsX6_wrong wsX6_placeIn := goodIn_r _ [26] (by decide +kernel) (by decide +kernel)
set_option maxRecDepth 20000 in
theorem gX6_wrong_X6_placeIn : GoodIn wsX6_wrong (va_wsS RX6 75 yX6_placeIn wsX6_placeIn) := goodIn_app (goodIn_of _ (by decide +kernel)) ggX6_wrong_X6_placeIn
theorem dX6_wrong_0 : decode cX6_wrong 0 = .ok (.iload_n 1, 1) := by decide +kernel
theorem dX6_wrong_1 : decode cX6_wrong 1 = .ok (.iload_n 2, 1) := by decide +kernel
theorem dX6_wrong_2 : decode cX6_wrong 2 = .ok (.invokestatic 105, 3) := by decide +kernel
theorem dX6_wrong_5 : decode cX6_wrong 5 = .ok (.ifCond .eq 12, 3) := by decide +kernel
theorem dX6_wrong_8 : decode cX6_wrong 8 = .ok (.iload_n 2, 1) := by decide +kernel
theorem dX6_wrong_9 : decode cX6_wrong 9 = .ok (.iload_n 1, 1) := by decide +kernel
theorem dX6_wrong_10 : decode cX6_wrong 10 = .ok (.isub, 1) := by decide +kernel
theorem dX6_wrong_11 : decode cX6_wrong 11 = .ok (.sipush 2000, 3) := by decide +kernel
theorem dX6_wrong_14 : decode cX6_wrong 14 = .ok (.if_icmp .le 6, 3) := by decide +kernel
theorem dX6_wrong_17 : decode cX6_wrong 17 = .ok (.bipush (-2), 2) := by decide +kernel
theorem dX6_wrong_19 : decode cX6_wrong 19 = .ok (.ireturn, 1) := by decide +kernel
theorem dX6_wrong_20 : decode cX6_wrong 20 = .ok (.aload_n 0, 1) := by decide +kernel
theorem dX6_wrong_21 : decode cX6_wrong 21 = .ok (.invokevirtual 86, 3) := by decide +kernel
theorem dX6_wrong_24 : decode cX6_wrong 24 = .ok (.iconst 0, 1) := by decide +kernel
theorem dX6_wrong_25 : decode cX6_wrong 25 = .ok (.istore_n 3, 1) := by decide +kernel
theorem dX6_wrong_26 : decode cX6_wrong 26 = .ok (.iload_n 1, 1) := by decide +kernel
theorem dX6_wrong_27 : decode cX6_wrong 27 = .ok (.istore 4, 2) := by decide +kernel
theorem dX6_wrong_29 : decode cX6_wrong 29 = .ok (.iload 4, 2) := by decide +kernel
theorem dX6_wrong_31 : decode cX6_wrong 31 = .ok (.iload_n 2, 1) := by decide +kernel
theorem dX6_wrong_32 : decode cX6_wrong 32 = .ok (.if_icmp .gt 43, 3) := by decide +kernel
theorem dX6_wrong_35 : decode cX6_wrong 35 = .ok (.iload_n 3, 1) := by decide +kernel
theorem dX6_wrong_36 : decode cX6_wrong 36 = .ok (.aload_n 0, 1) := by decide +kernel
theorem dX6_wrong_37 : decode cX6_wrong 37 = .ok (.iload 4, 2) := by decide +kernel
theorem dX6_wrong_39 : decode cX6_wrong 39 = .ok (.invokevirtual 161, 3) := by decide +kernel
theorem dX6_wrong_42 : decode cX6_wrong 42 = .ok (.ifCond .eq 24, 3) := by decide +kernel
theorem dX6_wrong_45 : decode cX6_wrong 45 = .ok (.aload_n 0, 1) := by decide +kernel
theorem dX6_wrong_46 : decode cX6_wrong 46 = .ok (.getfield 27, 3) := by decide +kernel
theorem dX6_wrong_49 : decode cX6_wrong 49 = .ok (.aload_n 0, 1) := by decide +kernel
theorem dX6_wrong_50 : decode cX6_wrong 50 = .ok (.getfield 66, 3) := by decide +kernel
theorem dX6_wrong_53 : decode cX6_wrong 53 = .ok (.iload 4, 2) := by decide +kernel
theorem dX6_wrong_55 : decode cX6_wrong 55 = .ok (.invokestatic 75, 3) := by decide +kernel
theorem dX6_wrong_58 : decode cX6_wrong 58 = .ok (.iconst (-1), 1) := by decide +kernel
theorem dX6_wrong_59 : decode cX6_wrong 59 = .ok (.if_icmp .ne 7, 3) := by decide +kernel
theorem dX6_wrong_62 : decode cX6_wrong 62 = .ok (.iconst 1, 1) := by decide +kernel
theorem dX6_wrong_63 : decode cX6_wrong 63 = .ok (.goto 4, 3) := by decide +kernel
theorem dX6_wrong_66 : decode cX6_wrong 66 = .ok (.iconst 0, 1) := by decide +kernel
theorem dX6_wrong_67 : decode cX6_wrong 67 = .ok (.iadd, 1) := by decide +kernel
theorem dX6_wrong_68 : decode cX6_wrong 68 = .ok (.istore_n 3, 1) := by decide +kernel
theorem dX6_wrong_69 : decode cX6_wrong 69 = .ok (.iinc 4 1, 3) := by decide +kernel
theorem dX6_wrong_72 : decode cX6_wrong 72 = .ok (.goto (-43), 3) := by decide +kernel
theorem dX6_wrong_75 : decode cX6_wrong 75 = .ok (.iload_n 3, 1) := by decide +kernel
theorem dX6_wrong_76 : decode cX6_wrong 76 = .ok (.ireturn, 1) := by decide +kernel
set_option maxRecDepth 20000 in
theorem ggX6_piecesWith_X6_layPieces : GoodIn wsX6_piecesWith wsX6_layPieces := goodIn_r _ [10, 5, 1, 11, 12, 13, 14, 9, 15, 16, 4, 17, 18, 19, 20, 21, 22, 23, 24, 25, 26, 27, 28, 29, 30, 31, 32, 33, 34, 35, 36, 37, 38, 39, 40, 41, 42, 43, 44, 45, 46, 47] (by decide +kernel) (by decide +kernel)
set_option maxRecDepth 20000 in
theorem gX6_piecesWith_X6_layPieces : GoodIn wsX6_piecesWith (wsV RX6 128 RX6 yX6_layPieces wsX6_layPieces) := goodIn_app (goodIn_of _ (by decide +kernel)) ggX6_piecesWith_X6_layPieces
theorem dX6_piecesWith_0 : decode cX6_piecesWith 0 = .ok (.aload_n 0, 1) := by decide +kernel
theorem dX6_piecesWith_1 : decode cX6_piecesWith 1 = .ok (.iconst 0, 1) := by decide +kernel
theorem dX6_piecesWith_2 : decode cX6_piecesWith 2 = .ok (.putfield 122, 3) := by decide +kernel
theorem dX6_piecesWith_5 : decode cX6_piecesWith 5 = .ok (.iconst 0, 1) := by decide +kernel
theorem dX6_piecesWith_6 : decode cX6_piecesWith 6 = .ok (.istore_n 2, 1) := by decide +kernel
theorem dX6_piecesWith_7 : decode cX6_piecesWith 7 = .ok (.iconst 0, 1) := by decide +kernel
theorem dX6_piecesWith_8 : decode cX6_piecesWith 8 = .ok (.istore_n 3, 1) := by decide +kernel
theorem dX6_piecesWith_9 : decode cX6_piecesWith 9 = .ok (.iload_n 3, 1) := by decide +kernel
theorem dX6_piecesWith_10 : decode cX6_piecesWith 10 = .ok (.aload_n 0, 1) := by decide +kernel
theorem dX6_piecesWith_11 : decode cX6_piecesWith 11 = .ok (.getfield 66, 3) := by decide +kernel
theorem dX6_piecesWith_14 : decode cX6_piecesWith 14 = .ok (.if_icmp .ge 70, 3) := by decide +kernel
theorem dX6_piecesWith_17 : decode cX6_piecesWith 17 = .ok (.iload_n 2, 1) := by decide +kernel
theorem dX6_piecesWith_18 : decode cX6_piecesWith 18 = .ok (.ifCond .ne 35, 3) := by decide +kernel
theorem dX6_piecesWith_21 : decode cX6_piecesWith 21 = .ok (.aload_n 0, 1) := by decide +kernel
theorem dX6_piecesWith_22 : decode cX6_piecesWith 22 = .ok (.getfield 27, 3) := by decide +kernel
theorem dX6_piecesWith_25 : decode cX6_piecesWith 25 = .ok (.iload_n 3, 1) := by decide +kernel
theorem dX6_piecesWith_26 : decode cX6_piecesWith 26 = .ok (.iaload, 1) := by decide +kernel
theorem dX6_piecesWith_27 : decode cX6_piecesWith 27 = .ok (.iload_n 1, 1) := by decide +kernel
theorem dX6_piecesWith_28 : decode cX6_piecesWith 28 = .ok (.if_icmp .le 25, 3) := by decide +kernel
theorem dX6_piecesWith_31 : decode cX6_piecesWith 31 = .ok (.aload_n 0, 1) := by decide +kernel
theorem dX6_piecesWith_32 : decode cX6_piecesWith 32 = .ok (.getfield 30, 3) := by decide +kernel
theorem dX6_piecesWith_35 : decode cX6_piecesWith 35 = .ok (.aload_n 0, 1) := by decide +kernel
theorem dX6_piecesWith_36 : decode cX6_piecesWith 36 = .ok (.getfield 122, 3) := by decide +kernel
theorem dX6_piecesWith_39 : decode cX6_piecesWith 39 = .ok (.iload_n 1, 1) := by decide +kernel
theorem dX6_piecesWith_40 : decode cX6_piecesWith 40 = .ok (.iastore, 1) := by decide +kernel
theorem dX6_piecesWith_41 : decode cX6_piecesWith 41 = .ok (.aload_n 0, 1) := by decide +kernel
theorem dX6_piecesWith_42 : decode cX6_piecesWith 42 = .ok (.dup, 1) := by decide +kernel
theorem dX6_piecesWith_43 : decode cX6_piecesWith 43 = .ok (.getfield 122, 3) := by decide +kernel
theorem dX6_piecesWith_46 : decode cX6_piecesWith 46 = .ok (.iconst 1, 1) := by decide +kernel
theorem dX6_piecesWith_47 : decode cX6_piecesWith 47 = .ok (.iadd, 1) := by decide +kernel
theorem dX6_piecesWith_48 : decode cX6_piecesWith 48 = .ok (.putfield 122, 3) := by decide +kernel
theorem dX6_piecesWith_51 : decode cX6_piecesWith 51 = .ok (.iconst 1, 1) := by decide +kernel
theorem dX6_piecesWith_52 : decode cX6_piecesWith 52 = .ok (.istore_n 2, 1) := by decide +kernel
theorem dX6_piecesWith_53 : decode cX6_piecesWith 53 = .ok (.aload_n 0, 1) := by decide +kernel
theorem dX6_piecesWith_54 : decode cX6_piecesWith 54 = .ok (.getfield 30, 3) := by decide +kernel
theorem dX6_piecesWith_57 : decode cX6_piecesWith 57 = .ok (.aload_n 0, 1) := by decide +kernel
theorem dX6_piecesWith_58 : decode cX6_piecesWith 58 = .ok (.getfield 122, 3) := by decide +kernel
theorem dX6_piecesWith_61 : decode cX6_piecesWith 61 = .ok (.aload_n 0, 1) := by decide +kernel
theorem dX6_piecesWith_62 : decode cX6_piecesWith 62 = .ok (.getfield 27, 3) := by decide +kernel
theorem dX6_piecesWith_65 : decode cX6_piecesWith 65 = .ok (.iload_n 3, 1) := by decide +kernel
theorem dX6_piecesWith_66 : decode cX6_piecesWith 66 = .ok (.iaload, 1) := by decide +kernel
theorem dX6_piecesWith_67 : decode cX6_piecesWith 67 = .ok (.iastore, 1) := by decide +kernel
theorem dX6_piecesWith_68 : decode cX6_piecesWith 68 = .ok (.aload_n 0, 1) := by decide +kernel
theorem dX6_piecesWith_69 : decode cX6_piecesWith 69 = .ok (.dup, 1) := by decide +kernel
theorem dX6_piecesWith_70 : decode cX6_piecesWith 70 = .ok (.getfield 122, 3) := by decide +kernel
theorem dX6_piecesWith_73 : decode cX6_piecesWith 73 = .ok (.iconst 1, 1) := by decide +kernel
theorem dX6_piecesWith_74 : decode cX6_piecesWith 74 = .ok (.iadd, 1) := by decide +kernel
theorem dX6_piecesWith_75 : decode cX6_piecesWith 75 = .ok (.putfield 122, 3) := by decide +kernel
theorem dX6_piecesWith_78 : decode cX6_piecesWith 78 = .ok (.iinc 3 1, 3) := by decide +kernel
theorem dX6_piecesWith_81 : decode cX6_piecesWith 81 = .ok (.goto (-72), 3) := by decide +kernel
theorem dX6_piecesWith_84 : decode cX6_piecesWith 84 = .ok (.iload_n 2, 1) := by decide +kernel
theorem dX6_piecesWith_85 : decode cX6_piecesWith 85 = .ok (.ifCond .ne 23, 3) := by decide +kernel
theorem dX6_piecesWith_88 : decode cX6_piecesWith 88 = .ok (.aload_n 0, 1) := by decide +kernel
theorem dX6_piecesWith_89 : decode cX6_piecesWith 89 = .ok (.getfield 30, 3) := by decide +kernel
theorem dX6_piecesWith_92 : decode cX6_piecesWith 92 = .ok (.aload_n 0, 1) := by decide +kernel
theorem dX6_piecesWith_93 : decode cX6_piecesWith 93 = .ok (.getfield 122, 3) := by decide +kernel
theorem dX6_piecesWith_96 : decode cX6_piecesWith 96 = .ok (.iload_n 1, 1) := by decide +kernel
theorem dX6_piecesWith_97 : decode cX6_piecesWith 97 = .ok (.iastore, 1) := by decide +kernel
theorem dX6_piecesWith_98 : decode cX6_piecesWith 98 = .ok (.aload_n 0, 1) := by decide +kernel
theorem dX6_piecesWith_99 : decode cX6_piecesWith 99 = .ok (.dup, 1) := by decide +kernel
theorem dX6_piecesWith_100 : decode cX6_piecesWith 100 = .ok (.getfield 122, 3) := by decide +kernel
theorem dX6_piecesWith_103 : decode cX6_piecesWith 103 = .ok (.iconst 1, 1) := by decide +kernel
theorem dX6_piecesWith_104 : decode cX6_piecesWith 104 = .ok (.iadd, 1) := by decide +kernel
theorem dX6_piecesWith_105 : decode cX6_piecesWith 105 = .ok (.putfield 122, 3) := by decide +kernel
theorem dX6_piecesWith_108 : decode cX6_piecesWith 108 = .ok (.aload_n 0, 1) := by decide +kernel
theorem dX6_piecesWith_109 : decode cX6_piecesWith 109 = .ok (.invokevirtual 128, 3) := by decide +kernel
theorem dX6_piecesWith_112 : decode cX6_piecesWith 112 = .ok (.aload_n 0, 1) := by decide +kernel
theorem dX6_piecesWith_113 : decode cX6_piecesWith 113 = .ok (.getfield 36, 3) := by decide +kernel
theorem dX6_piecesWith_116 : decode cX6_piecesWith 116 = .ok (.iconst 0, 1) := by decide +kernel
theorem dX6_piecesWith_117 : decode cX6_piecesWith 117 = .ok (.iaload, 1) := by decide +kernel
theorem dX6_piecesWith_118 : decode cX6_piecesWith 118 = .ok (.ireturn, 1) := by decide +kernel
set_option maxRecDepth 20000 in
theorem ggX6_poison_X6_isSpan : GoodIn wsX6_poison wsX6_isSpan := goodIn_r _ [6, 7, 8, 5, 9, 10, 11, 12, 13] (by decide +kernel) (by decide +kernel)
set_option maxRecDepth 20000 in
theorem gX6_poison_X6_isSpan : GoodIn wsX6_poison (va_wsS RX6 105 yX6_isSpan wsX6_isSpan) := goodIn_app (goodIn_of _ (by decide +kernel)) ggX6_poison_X6_isSpan
set_option maxRecDepth 20000 in
theorem ggX6_poison_X6_in : GoodIn wsX6_poison wsX6_in := goodIn_r _ [13] (by decide +kernel) (by decide +kernel)
set_option maxRecDepth 20000 in
theorem gX6_poison_X6_in : GoodIn wsX6_poison (va_wsS RX6 62 yX6_in wsX6_in) := goodIn_app (goodIn_of _ (by decide +kernel)) ggX6_poison_X6_in
set_option maxRecDepth 20000 in
theorem ggX6_poison_X6_layNow : GoodIn wsX6_poison wsX6_layNow := goodIn_r _ [17, 1, 18, 19, 20, 21, 22, 23, 24, 25, 5, 26, 27, 28, 29, 30, 2, 54, 55, 56, 57, 58, 59, 60, 61, 62, 63, 64, 65, 66, 67, 68, 69, 70, 71, 72, 73, 74, 75, 76, 77, 78] (by decide +kernel) (by decide +kernel)
set_option maxRecDepth 20000 in
theorem gX6_poison_X6_layNow : GoodIn wsX6_poison (wsV RX6 86 RX6 yX6_layNow wsX6_layNow) := goodIn_app (goodIn_of _ (by decide +kernel)) ggX6_poison_X6_layNow
set_option maxRecDepth 20000 in
theorem ggX6_poison_X6_placeIn : GoodIn wsX6_poison wsX6_placeIn := goodIn_r _ [26] (by decide +kernel) (by decide +kernel)
set_option maxRecDepth 20000 in
theorem gX6_poison_X6_placeIn : GoodIn wsX6_poison (va_wsS RX6 75 yX6_placeIn wsX6_placeIn) := goodIn_app (goodIn_of _ (by decide +kernel)) ggX6_poison_X6_placeIn
set_option maxRecDepth 20000 in
theorem ggX6_poison_X6_piecesWith : GoodIn wsX6_poison wsX6_piecesWith := goodIn_r _ [34, 35, 1, 2, 36, 37, 38, 39, 40, 5, 41, 42, 43, 44, 45, 46, 47, 48, 49, 50, 51, 52, 53, 54, 55, 56, 57, 58, 59, 60, 61, 62, 63, 64, 65, 66, 67, 68, 69, 70, 71, 72, 73, 74, 75, 76, 77, 78] (by decide +kernel) (by decide +kernel)
set_option maxRecDepth 20000 in
theorem gX6_poison_X6_piecesWith : GoodIn wsX6_poison (wsV RX6 164 RX6 yX6_piecesWith wsX6_piecesWith) := goodIn_app (goodIn_of _ (by decide +kernel)) ggX6_poison_X6_piecesWith
theorem dX6_poison_0 : decode cX6_poison 0 = .ok (.iload_n 1, 1) := by decide +kernel
theorem dX6_poison_1 : decode cX6_poison 1 = .ok (.iload_n 2, 1) := by decide +kernel
theorem dX6_poison_2 : decode cX6_poison 2 = .ok (.invokestatic 105, 3) := by decide +kernel
theorem dX6_poison_5 : decode cX6_poison 5 = .ok (.ifCond .eq 20, 3) := by decide +kernel
theorem dX6_poison_8 : decode cX6_poison 8 = .ok (.iload_n 2, 1) := by decide +kernel
theorem dX6_poison_9 : decode cX6_poison 9 = .ok (.iload_n 1, 1) := by decide +kernel
theorem dX6_poison_10 : decode cX6_poison 10 = .ok (.isub, 1) := by decide +kernel
theorem dX6_poison_11 : decode cX6_poison 11 = .ok (.bipush 40, 2) := by decide +kernel
theorem dX6_poison_13 : decode cX6_poison 13 = .ok (.if_icmp .gt 12, 3) := by decide +kernel
theorem dX6_poison_16 : decode cX6_poison 16 = .ok (.iload_n 3, 1) := by decide +kernel
theorem dX6_poison_17 : decode cX6_poison 17 = .ok (.iconst 0, 1) := by decide +kernel
theorem dX6_poison_18 : decode cX6_poison 18 = .ok (.iconst 1, 1) := by decide +kernel
theorem dX6_poison_19 : decode cX6_poison 19 = .ok (.invokestatic 62, 3) := by decide +kernel
theorem dX6_poison_22 : decode cX6_poison 22 = .ok (.ifCond .ne 6, 3) := by decide +kernel
theorem dX6_poison_25 : decode cX6_poison 25 = .ok (.bipush (-2), 2) := by decide +kernel
theorem dX6_poison_27 : decode cX6_poison 27 = .ok (.ireturn, 1) := by decide +kernel
theorem dX6_poison_28 : decode cX6_poison 28 = .ok (.aload_n 0, 1) := by decide +kernel
theorem dX6_poison_29 : decode cX6_poison 29 = .ok (.invokevirtual 86, 3) := by decide +kernel
theorem dX6_poison_32 : decode cX6_poison 32 = .ok (.aload_n 0, 1) := by decide +kernel
theorem dX6_poison_33 : decode cX6_poison 33 = .ok (.getfield 66, 3) := by decide +kernel
theorem dX6_poison_36 : decode cX6_poison 36 = .ok (.bipush 60, 2) := by decide +kernel
theorem dX6_poison_38 : decode cX6_poison 38 = .ok (.if_icmp .ne 6, 3) := by decide +kernel
theorem dX6_poison_41 : decode cX6_poison 41 = .ok (.bipush (-4), 2) := by decide +kernel
theorem dX6_poison_43 : decode cX6_poison 43 = .ok (.ireturn, 1) := by decide +kernel
theorem dX6_poison_44 : decode cX6_poison 44 = .ok (.iconst (-1), 1) := by decide +kernel
theorem dX6_poison_45 : decode cX6_poison 45 = .ok (.istore 4, 2) := by decide +kernel
theorem dX6_poison_47 : decode cX6_poison 47 = .ok (.iconst (-1), 1) := by decide +kernel
theorem dX6_poison_48 : decode cX6_poison 48 = .ok (.istore 5, 2) := by decide +kernel
theorem dX6_poison_50 : decode cX6_poison 50 = .ok (.iload_n 1, 1) := by decide +kernel
theorem dX6_poison_51 : decode cX6_poison 51 = .ok (.istore 6, 2) := by decide +kernel
theorem dX6_poison_53 : decode cX6_poison 53 = .ok (.iload 6, 2) := by decide +kernel
theorem dX6_poison_55 : decode cX6_poison 55 = .ok (.iload_n 2, 1) := by decide +kernel
theorem dX6_poison_56 : decode cX6_poison 56 = .ok (.if_icmp .gt 53, 3) := by decide +kernel
theorem dX6_poison_59 : decode cX6_poison 59 = .ok (.aload_n 0, 1) := by decide +kernel
theorem dX6_poison_60 : decode cX6_poison 60 = .ok (.getfield 27, 3) := by decide +kernel
theorem dX6_poison_63 : decode cX6_poison 63 = .ok (.aload_n 0, 1) := by decide +kernel
theorem dX6_poison_64 : decode cX6_poison 64 = .ok (.getfield 66, 3) := by decide +kernel
theorem dX6_poison_67 : decode cX6_poison 67 = .ok (.iload 6, 2) := by decide +kernel
theorem dX6_poison_69 : decode cX6_poison 69 = .ok (.invokestatic 75, 3) := by decide +kernel
theorem dX6_poison_72 : decode cX6_poison 72 = .ok (.iconst (-1), 1) := by decide +kernel
theorem dX6_poison_73 : decode cX6_poison 73 = .ok (.if_icmp .ne 12, 3) := by decide +kernel
theorem dX6_poison_76 : decode cX6_poison 76 = .ok (.aload_n 0, 1) := by decide +kernel
theorem dX6_poison_77 : decode cX6_poison 77 = .ok (.iload 6, 2) := by decide +kernel
theorem dX6_poison_79 : decode cX6_poison 79 = .ok (.invokevirtual 164, 3) := by decide +kernel
theorem dX6_poison_82 : decode cX6_poison 82 = .ok (.goto 4, 3) := by decide +kernel
theorem dX6_poison_85 : decode cX6_poison 85 = .ok (.iconst (-1), 1) := by decide +kernel
theorem dX6_poison_86 : decode cX6_poison 86 = .ok (.istore 7, 2) := by decide +kernel
theorem dX6_poison_88 : decode cX6_poison 88 = .ok (.iload 7, 2) := by decide +kernel
theorem dX6_poison_90 : decode cX6_poison 90 = .ok (.iload 5, 2) := by decide +kernel
theorem dX6_poison_92 : decode cX6_poison 92 = .ok (.if_icmp .le 11, 3) := by decide +kernel
theorem dX6_poison_95 : decode cX6_poison 95 = .ok (.iload 7, 2) := by decide +kernel
theorem dX6_poison_97 : decode cX6_poison 97 = .ok (.istore 5, 2) := by decide +kernel
theorem dX6_poison_99 : decode cX6_poison 99 = .ok (.iload 6, 2) := by decide +kernel
theorem dX6_poison_101 : decode cX6_poison 101 = .ok (.istore 4, 2) := by decide +kernel
theorem dX6_poison_103 : decode cX6_poison 103 = .ok (.iinc 6 1, 3) := by decide +kernel
theorem dX6_poison_106 : decode cX6_poison 106 = .ok (.goto (-53), 3) := by decide +kernel
theorem dX6_poison_109 : decode cX6_poison 109 = .ok (.iload_n 3, 1) := by decide +kernel
theorem dX6_poison_110 : decode cX6_poison 110 = .ok (.ifCond .ne 8, 3) := by decide +kernel
theorem dX6_poison_113 : decode cX6_poison 113 = .ok (.iload 4, 2) := by decide +kernel
theorem dX6_poison_115 : decode cX6_poison 115 = .ok (.goto 5, 3) := by decide +kernel
theorem dX6_poison_118 : decode cX6_poison 118 = .ok (.iload 5, 2) := by decide +kernel
theorem dX6_poison_120 : decode cX6_poison 120 = .ok (.ireturn, 1) := by decide +kernel
set_option maxRecDepth 20000 in
theorem ggX6_count_X6_layNow : GoodIn wsX6_count wsX6_layNow := goodIn_r _ [11, 1, 2, 12, 4, 13, 3, 14, 15, 16, 10, 17, 18, 19, 20, 21, 22, 23, 24, 25, 26, 27, 28, 29, 30, 31, 32, 33, 34, 35, 36, 37, 38, 39, 40, 41, 42, 43, 44, 45, 46, 47] (by decide +kernel) (by decide +kernel)
set_option maxRecDepth 20000 in
theorem gX6_count_X6_layNow : GoodIn wsX6_count (wsV RX6 86 RX6 yX6_layNow wsX6_layNow) := goodIn_app (goodIn_of _ (by decide +kernel)) ggX6_count_X6_layNow
theorem dX6_count_0 : decode cX6_count 0 = .ok (.iconst 0, 1) := by decide +kernel
theorem dX6_count_1 : decode cX6_count 1 = .ok (.istore_n 2, 1) := by decide +kernel
theorem dX6_count_2 : decode cX6_count 2 = .ok (.iload_n 1, 1) := by decide +kernel
theorem dX6_count_3 : decode cX6_count 3 = .ok (.tableswitch 99 0 5 #[37, 46, 51, 56, 61, 66], 37) := by decide +kernel
theorem dX6_count_40 : decode cX6_count 40 = .ok (.aload_n 0, 1) := by decide +kernel
theorem dX6_count_41 : decode cX6_count 41 = .ok (.invokevirtual 86, 3) := by decide +kernel
theorem dX6_count_44 : decode cX6_count 44 = .ok (.aload_n 0, 1) := by decide +kernel
theorem dX6_count_45 : decode cX6_count 45 = .ok (.getfield 66, 3) := by decide +kernel
theorem dX6_count_48 : decode cX6_count 48 = .ok (.ireturn, 1) := by decide +kernel
theorem dX6_count_49 : decode cX6_count 49 = .ok (.aload_n 0, 1) := by decide +kernel
theorem dX6_count_50 : decode cX6_count 50 = .ok (.getfield 69, 3) := by decide +kernel
theorem dX6_count_53 : decode cX6_count 53 = .ok (.ireturn, 1) := by decide +kernel
theorem dX6_count_54 : decode cX6_count 54 = .ok (.aload_n 0, 1) := by decide +kernel
theorem dX6_count_55 : decode cX6_count 55 = .ok (.getfield 83, 3) := by decide +kernel
theorem dX6_count_58 : decode cX6_count 58 = .ok (.ireturn, 1) := by decide +kernel
theorem dX6_count_59 : decode cX6_count 59 = .ok (.aload_n 0, 1) := by decide +kernel
theorem dX6_count_60 : decode cX6_count 60 = .ok (.getfield 72, 3) := by decide +kernel
theorem dX6_count_63 : decode cX6_count 63 = .ok (.ireturn, 1) := by decide +kernel
theorem dX6_count_64 : decode cX6_count 64 = .ok (.aload_n 0, 1) := by decide +kernel
theorem dX6_count_65 : decode cX6_count 65 = .ok (.getfield 92, 3) := by decide +kernel
theorem dX6_count_68 : decode cX6_count 68 = .ok (.ireturn, 1) := by decide +kernel
theorem dX6_count_69 : decode cX6_count 69 = .ok (.iconst 0, 1) := by decide +kernel
theorem dX6_count_70 : decode cX6_count 70 = .ok (.istore_n 3, 1) := by decide +kernel
theorem dX6_count_71 : decode cX6_count 71 = .ok (.iload_n 3, 1) := by decide +kernel
theorem dX6_count_72 : decode cX6_count 72 = .ok (.bipush 64, 2) := by decide +kernel
theorem dX6_count_74 : decode cX6_count 74 = .ok (.if_icmp .ge 26, 3) := by decide +kernel
theorem dX6_count_77 : decode cX6_count 77 = .ok (.iload_n 2, 1) := by decide +kernel
theorem dX6_count_78 : decode cX6_count 78 = .ok (.aload_n 0, 1) := by decide +kernel
theorem dX6_count_79 : decode cX6_count 79 = .ok (.getfield 23, 3) := by decide +kernel
theorem dX6_count_82 : decode cX6_count 82 = .ok (.iload_n 3, 1) := by decide +kernel
theorem dX6_count_83 : decode cX6_count 83 = .ok (.baload, 1) := by decide +kernel
theorem dX6_count_84 : decode cX6_count 84 = .ok (.ifCond .eq 7, 3) := by decide +kernel
theorem dX6_count_87 : decode cX6_count 87 = .ok (.iconst 1, 1) := by decide +kernel
theorem dX6_count_88 : decode cX6_count 88 = .ok (.goto 4, 3) := by decide +kernel
theorem dX6_count_91 : decode cX6_count 91 = .ok (.iconst 0, 1) := by decide +kernel
theorem dX6_count_92 : decode cX6_count 92 = .ok (.iadd, 1) := by decide +kernel
theorem dX6_count_93 : decode cX6_count 93 = .ok (.istore_n 2, 1) := by decide +kernel
theorem dX6_count_94 : decode cX6_count 94 = .ok (.iinc 3 1, 3) := by decide +kernel
theorem dX6_count_97 : decode cX6_count 97 = .ok (.goto (-26), 3) := by decide +kernel
theorem dX6_count_100 : decode cX6_count 100 = .ok (.iload_n 2, 1) := by decide +kernel
theorem dX6_count_101 : decode cX6_count 101 = .ok (.ireturn, 1) := by decide +kernel
theorem dX6_count_102 : decode cX6_count 102 = .ok (.bipush (-2), 2) := by decide +kernel
theorem dX6_count_104 : decode cX6_count 104 = .ok (.ireturn, 1) := by decide +kernel
