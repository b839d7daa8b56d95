theorem dX6_endOf_4 : decode cX6_endOf 4 = .ok (.iload_n 1, 1) := by decide +kernel
theorem dX6_endOf_5 : decode cX6_endOf 5 = .ok (.iaload, 1) := by decide +kernel
theorem dX6_endOf_6 : decode cX6_endOf 6 = .ok (.istore_n 2, 1) := by decide +kernel
theorem dX6_endOf_7 : decode cX6_endOf 7 = .ok (.aload_n 0, 1) := by decide +kernel
theorem dX6_endOf_8 : decode cX6_endOf 8 = .ok (.getfield 36, 3) := by decide +kernel
theorem dX6_endOf_11 : decode cX6_endOf 11 = .ok (.iload_n 2, 1) := by decide +kernel
theorem dX6_endOf_12 : decode cX6_endOf 12 = .ok (.iconst 1, 1) := by decide +kernel
theorem dX6_endOf_13 : decode cX6_endOf 13 = .ok (.iadd, 1) := by decide +kernel
theorem dX6_endOf_14 : decode cX6_endOf 14 = .ok (.iaload, 1) := by decide +kernel
theorem dX6_endOf_15 : decode cX6_endOf 15 = .ok (.iconst 1, 1) := by decide +kernel
theorem dX6_endOf_16 : decode cX6_endOf 16 = .ok (.iadd, 1) := by decide +kernel
theorem dX6_endOf_17 : decode cX6_endOf 17 = .ok (.aload_n 0, 1) := by decide +kernel
theorem dX6_endOf_18 : decode cX6_endOf 18 = .ok (.getfield 36, 3) := by decide +kernel
theorem dX6_endOf_21 : decode cX6_endOf 21 = .ok (.iload_n 1, 1) := by decide +kernel
theorem dX6_endOf_22 : decode cX6_endOf 22 = .ok (.iaload, 1) := by decide +kernel
theorem dX6_endOf_23 : decode cX6_endOf 23 = .ok (.if_icmp .eq 9, 3) := by decide +kernel
theorem dX6_endOf_26 : decode cX6_endOf 26 = .ok (.iinc 2 (-1), 3) := by decide +kernel
theorem dX6_endOf_29 : decode cX6_endOf 29 = .ok (.goto (-22), 3) := by decide +kernel
theorem dX6_endOf_32 : decode cX6_endOf 32 = .ok (.iload_n 2, 1) := by decide +kernel
theorem dX6_endOf_33 : decode cX6_endOf 33 = .ok (.ireturn, 1) := by decide +kernel
theorem dX6_divisor_0 : decode cX6_divisor 0 = .ok (.lload_n 0, 1) := by decide +kernel
theorem dX6_divisor_1 : decode cX6_divisor 1 = .ok (.lstore 4, 2) := by decide +kernel
theorem dX6_divisor_3 : decode cX6_divisor 3 = .ok (.lload_n 2, 1) := by decide +kernel
theorem dX6_divisor_4 : decode cX6_divisor 4 = .ok (.lstore 6, 2) := by decide +kernel
theorem dX6_divisor_6 : decode cX6_divisor 6 = .ok (.lload 6, 2) := by decide +kernel
theorem dX6_divisor_8 : decode cX6_divisor 8 = .ok (.lconst 0, 1) := by decide +kernel
theorem dX6_divisor_9 : decode cX6_divisor 9 = .ok (.lcmp, 1) := by decide +kernel
theorem dX6_divisor_10 : decode cX6_divisor 10 = .ok (.ifCond .eq 21, 3) := by decide +kernel
theorem dX6_divisor_13 : decode cX6_divisor 13 = .ok (.lload 4, 2) := by decide +kernel
theorem dX6_divisor_15 : decode cX6_divisor 15 = .ok (.lload 6, 2) := by decide +kernel
theorem dX6_divisor_17 : decode cX6_divisor 17 = .ok (.lrem, 1) := by decide +kernel
theorem dX6_divisor_18 : decode cX6_divisor 18 = .ok (.lstore 8, 2) := by decide +kernel
theorem dX6_divisor_20 : decode cX6_divisor 20 = .ok (.lload 6, 2) := by decide +kernel
theorem dX6_divisor_22 : decode cX6_divisor 22 = .ok (.lstore 4, 2) := by decide +kernel
theorem dX6_divisor_24 : decode cX6_divisor 24 = .ok (.lload 8, 2) := by decide +kernel
theorem dX6_divisor_26 : decode cX6_divisor 26 = .ok (.lstore 6, 2) := by decide +kernel
theorem dX6_divisor_28 : decode cX6_divisor 28 = .ok (.goto (-22), 3) := by decide +kernel
theorem dX6_divisor_31 : decode cX6_divisor 31 = .ok (.lload 4, 2) := by decide +kernel
theorem dX6_divisor_33 : decode cX6_divisor 33 = .ok (.lreturn, 1) := by decide +kernel
set_option maxRecDepth 20000 in
theorem ggX6_layLevel_X6_layPieces : GoodIn wsX6_layLevel wsX6_layPieces := goodIn_r _ [15, 16, 1, 17, 18, 19, 20, 14, 21, 2, 7, 22, 3, 23, 24, 25, 26, 34, 35, 36, 37, 38, 39, 40, 41, 42, 43, 44, 45, 46, 47, 48, 49, 50, 51, 52, 53, 54, 55, 56, 57, 58] (by decide +kernel) (by decide +kernel)
set_option maxRecDepth 20000 in
theorem gX6_layLevel_X6_layPieces : GoodIn wsX6_layLevel (wsV RX6 128 RX6 yX6_layPieces wsX6_layPieces) := goodIn_app (goodIn_of _ (by decide +kernel)) ggX6_layLevel_X6_layPieces
set_option maxRecDepth 20000 in
theorem ggX6_layLevel_X6_endOf : GoodIn wsX6_layLevel wsX6_endOf := goodIn_r _ [30, 17, 16, 34, 35, 36, 37, 38, 39, 40, 41, 42, 43, 44, 45, 46, 47, 48, 49, 50, 51, 52, 53, 54, 55, 56, 57, 58] (by decide +kernel) (by decide +kernel)
set_option maxRecDepth 20000 in
theorem gX6_layLevel_X6_endOf : GoodIn wsX6_layLevel (wsV RX6 131 RX6 yX6_endOf wsX6_endOf) := goodIn_app (goodIn_of _ (by decide +kernel)) ggX6_layLevel_X6_endOf
set_option maxRecDepth 20000 in
theorem ggX6_layLevel_X6_layLow : GoodIn wsX6_layLevel wsX6_layLow := goodIn_r _ [26, 2, 3, 22, 7, 34, 35, 36, 37, 38, 39, 40, 41, 42, 43, 44, 45, 46, 47, 48, 49, 50, 51, 52, 53, 54, 55, 56, 57, 58] (by decide +kernel) (by decide +kernel)
set_option maxRecDepth 20000 in
theorem gX6_layLevel_X6_layLow : GoodIn wsX6_layLevel (wsV RX6 118 RX6 yX6_layLow wsX6_layLow) := goodIn_app (goodIn_of _ (by decide +kernel)) ggX6_layLevel_X6_layLow
set_option maxRecDepth 20000 in
theorem ggX6_layLevel_X6_divisor : GoodIn wsX6_layLevel wsX6_divisor := goodIn_r _ [33] (by decide +kernel) (by decide +kernel)
set_option maxRecDepth 20000 in
theorem gX6_layLevel_X6_divisor : GoodIn wsX6_layLevel (va_wsS RX6 135 yX6_divisor wsX6_divisor) := goodIn_app (goodIn_of _ (by decide +kernel)) ggX6_layLevel_X6_divisor
theorem dX6_layLevel_0 : decode cX6_layLevel 0 = .ok (.aload_n 0, 1) := by decide +kernel
theorem dX6_layLevel_1 : decode cX6_layLevel 1 = .ok (.invokevirtual 128, 3) := by decide +kernel
theorem dX6_layLevel_4 : decode cX6_layLevel 4 = .ok (.iconst 0, 1) := by decide +kernel
theorem dX6_layLevel_5 : decode cX6_layLevel 5 = .ok (.istore_n 2, 1) := by decide +kernel
theorem dX6_layLevel_6 : decode cX6_layLevel 6 = .ok (.iconst 0, 1) := by decide +kernel
theorem dX6_layLevel_7 : decode cX6_layLevel 7 = .ok (.istore_n 3, 1) := by decide +kernel
theorem dX6_layLevel_8 : decode cX6_layLevel 8 = .ok (.iload_n 3, 1) := by decide +kernel
theorem dX6_layLevel_9 : decode cX6_layLevel 9 = .ok (.aload_n 0, 1) := by decide +kernel
theorem dX6_layLevel_10 : decode cX6_layLevel 10 = .ok (.getfield 122, 3) := by decide +kernel
theorem dX6_layLevel_13 : decode cX6_layLevel 13 = .ok (.if_icmp .ge 107, 3) := by decide +kernel
theorem dX6_layLevel_16 : decode cX6_layLevel 16 = .ok (.bipush 60, 2) := by decide +kernel
theorem dX6_layLevel_18 : decode cX6_layLevel 18 = .ok (.iload_n 1, 1) := by decide +kernel
theorem dX6_layLevel_19 : decode cX6_layLevel 19 = .ok (.imul, 1) := by decide +kernel
theorem dX6_layLevel_20 : decode cX6_layLevel 20 = .ok (.iload_n 2, 1) := by decide +kernel
theorem dX6_layLevel_21 : decode cX6_layLevel 21 = .ok (.iadd, 1) := by decide +kernel
theorem dX6_layLevel_22 : decode cX6_layLevel 22 = .ok (.istore 4, 2) := by decide +kernel
theorem dX6_layLevel_24 : decode cX6_layLevel 24 = .ok (.aload_n 0, 1) := by decide +kernel
theorem dX6_layLevel_25 : decode cX6_layLevel 25 = .ok (.iload_n 3, 1) := by decide +kernel
theorem dX6_layLevel_26 : decode cX6_layLevel 26 = .ok (.invokevirtual 131, 3) := by decide +kernel
theorem dX6_layLevel_29 : decode cX6_layLevel 29 = .ok (.istore 5, 2) := by decide +kernel
theorem dX6_layLevel_31 : decode cX6_layLevel 31 = .ok (.aload_n 0, 1) := by decide +kernel
theorem dX6_layLevel_32 : decode cX6_layLevel 32 = .ok (.iload_n 3, 1) := by decide +kernel
theorem dX6_layLevel_33 : decode cX6_layLevel 33 = .ok (.iload 5, 2) := by decide +kernel
theorem dX6_layLevel_35 : decode cX6_layLevel 35 = .ok (.invokevirtual 118, 3) := by decide +kernel
theorem dX6_layLevel_38 : decode cX6_layLevel 38 = .ok (.aload_n 0, 1) := by decide +kernel
theorem dX6_layLevel_39 : decode cX6_layLevel 39 = .ok (.getfield 111, 3) := by decide +kernel
theorem dX6_layLevel_42 : decode cX6_layLevel 42 = .ok (.aload_n 0, 1) := by decide +kernel
theorem dX6_layLevel_43 : decode cX6_layLevel 43 = .ok (.getfield 115, 3) := by decide +kernel
theorem dX6_layLevel_46 : decode cX6_layLevel 46 = .ok (.invokestatic 135, 3) := by decide +kernel
theorem dX6_layLevel_49 : decode cX6_layLevel 49 = .ok (.lstore 6, 2) := by decide +kernel
theorem dX6_layLevel_51 : decode cX6_layLevel 51 = .ok (.aload_n 0, 1) := by decide +kernel
theorem dX6_layLevel_52 : decode cX6_layLevel 52 = .ok (.getfield 42, 3) := by decide +kernel
theorem dX6_layLevel_55 : decode cX6_layLevel 55 = .ok (.iload 4, 2) := by decide +kernel
theorem dX6_layLevel_57 : decode cX6_layLevel 57 = .ok (.iload_n 3, 1) := by decide +kernel
theorem dX6_layLevel_58 : decode cX6_layLevel 58 = .ok (.iastore, 1) := by decide +kernel
theorem dX6_layLevel_59 : decode cX6_layLevel 59 = .ok (.aload_n 0, 1) := by decide +kernel
theorem dX6_layLevel_60 : decode cX6_layLevel 60 = .ok (.getfield 45, 3) := by decide +kernel
theorem dX6_layLevel_63 : decode cX6_layLevel 63 = .ok (.iload 4, 2) := by decide +kernel
theorem dX6_layLevel_65 : decode cX6_layLevel 65 = .ok (.iload 5, 2) := by decide +kernel
theorem dX6_layLevel_67 : decode cX6_layLevel 67 = .ok (.iastore, 1) := by decide +kernel
theorem dX6_layLevel_68 : decode cX6_layLevel 68 = .ok (.aload_n 0, 1) := by decide +kernel
theorem dX6_layLevel_69 : decode cX6_layLevel 69 = .ok (.getfield 48, 3) := by decide +kernel
theorem dX6_layLevel_72 : decode cX6_layLevel 72 = .ok (.iload 4, 2) := by decide +kernel
theorem dX6_layLevel_74 : decode cX6_layLevel 74 = .ok (.aload_n 0, 1) := by decide +kernel
theorem dX6_layLevel_75 : decode cX6_layLevel 75 = .ok (.getfield 30, 3) := by decide +kernel
theorem dX6_layLevel_78 : decode cX6_layLevel 78 = .ok (.iload_n 3, 1) := by decide +kernel
theorem dX6_layLevel_79 : decode cX6_layLevel 79 = .ok (.iaload, 1) := by decide +kernel
theorem dX6_layLevel_80 : decode cX6_layLevel 80 = .ok (.iastore, 1) := by decide +kernel
theorem dX6_layLevel_81 : decode cX6_layLevel 81 = .ok (.aload_n 0, 1) := by decide +kernel
theorem dX6_layLevel_82 : decode cX6_layLevel 82 = .ok (.getfield 51, 3) := by decide +kernel
theorem dX6_layLevel_85 : decode cX6_layLevel 85 = .ok (.iload 4, 2) := by decide +kernel
theorem dX6_layLevel_87 : decode cX6_layLevel 87 = .ok (.aload_n 0, 1) := by decide +kernel
theorem dX6_layLevel_88 : decode cX6_layLevel 88 = .ok (.getfield 111, 3) := by decide +kernel
theorem dX6_layLevel_91 : decode cX6_layLevel 91 = .ok (.lload 6, 2) := by decide +kernel
theorem dX6_layLevel_93 : decode cX6_layLevel 93 = .ok (.ldiv, 1) := by decide +kernel
theorem dX6_layLevel_94 : decode cX6_layLevel 94 = .ok (.lastore, 1) := by decide +kernel
theorem dX6_layLevel_95 : decode cX6_layLevel 95 = .ok (.aload_n 0, 1) := by decide +kernel
theorem dX6_layLevel_96 : decode cX6_layLevel 96 = .ok (.getfield 55, 3) := by decide +kernel
theorem dX6_layLevel_99 : decode cX6_layLevel 99 = .ok (.iload 4, 2) := by decide +kernel
theorem dX6_layLevel_101 : decode cX6_layLevel 101 = .ok (.aload_n 0, 1) := by decide +kernel
theorem dX6_layLevel_102 : decode cX6_layLevel 102 = .ok (.getfield 115, 3) := by decide +kernel
theorem dX6_layLevel_105 : decode cX6_layLevel 105 = .ok (.lload 6, 2) := by decide +kernel
theorem dX6_layLevel_107 : decode cX6_layLevel 107 = .ok (.ldiv, 1) := by decide +kernel
theorem dX6_layLevel_108 : decode cX6_layLevel 108 = .ok (.lastore, 1) := by decide +kernel
theorem dX6_layLevel_109 : decode cX6_layLevel 109 = .ok (.iinc 2 1, 3) := by decide +kernel
theorem dX6_layLevel_112 : decode cX6_layLevel 112 = .ok (.iload 5, 2) := by decide +kernel
theorem dX6_layLevel_114 : decode cX6_layLevel 114 = .ok (.iconst 1, 1) := by decide +kernel
theorem dX6_layLevel_115 : decode cX6_layLevel 115 = .ok (.iadd, 1) := by decide +kernel
theorem dX6_layLevel_116 : decode cX6_layLevel 116 = .ok (.istore_n 3, 1) := by decide +kernel
theorem dX6_layLevel_117 : decode cX6_layLevel 117 = .ok (.goto (-109), 3) := by decide +kernel
theorem dX6_layLevel_120 : decode cX6_layLevel 120 = .ok (.aload_n 0, 1) := by decide +kernel
theorem dX6_layLevel_121 : decode cX6_layLevel 121 = .ok (.getfield 39, 3) := by decide +kernel
theorem dX6_layLevel_124 : decode cX6_layLevel 124 = .ok (.iload_n 1, 1) := by decide +kernel
theorem dX6_layLevel_125 : decode cX6_layLevel 125 = .ok (.iload_n 2, 1) := by decide +kernel
theorem dX6_layLevel_126 : decode cX6_layLevel 126 = .ok (.iastore, 1) := by decide +kernel
theorem dX6_layLevel_127 : decode cX6_layLevel 127 = .ok (.return_, 1) := by decide +kernel
set_option maxRecDepth 20000 in
theorem ggX6_layLevels_X6_layLevel : GoodIn wsX6_layLevels wsX6_layLevel := goodIn_r _ [12, 3, 13, 14, 15, 16, 7, 4, 17, 18, 6, 19, 20, 21, 11, 22, 23, 24, 25, 26, 27, 28, 29, 30, 31, 32, 33, 34, 35, 36, 37, 38, 39, 40, 41, 42, 43, 44, 45, 46, 47, 48, 49, 50, 51, 52, 53, 54, 55, 56, 57, 58, 59, 60, 61, 62, 63, 64, 65] (by decide +kernel) (by decide +kernel)
set_option maxRecDepth 20000 in
theorem gX6_layLevels_X6_layLevel : GoodIn wsX6_layLevels (wsV RX6 142 RX6 yX6_layLevel wsX6_layLevel) := goodIn_app (goodIn_of _ (by decide +kernel)) ggX6_layLevels_X6_layLevel
theorem dX6_layLevels_0 : decode cX6_layLevels 0 = .ok (.aload_n 0, 1) := by decide +kernel
theorem dX6_layLevels_1 : decode cX6_layLevels 1 = .ok (.iconst 0, 1) := by decide +kernel
theorem dX6_layLevels_2 : decode cX6_layLevels 2 = .ok (.putfield 139, 3) := by decide +kernel
theorem dX6_layLevels_5 : decode cX6_layLevels 5 = .ok (.aload_n 0, 1) := by decide +kernel
theorem dX6_layLevels_6 : decode cX6_layLevels 6 = .ok (.aload_n 0, 1) := by decide +kernel
theorem dX6_layLevels_7 : decode cX6_layLevels 7 = .ok (.getfield 69, 3) := by decide +kernel
theorem dX6_layLevels_10 : decode cX6_layLevels 10 = .ok (.putfield 122, 3) := by decide +kernel
theorem dX6_layLevels_13 : decode cX6_layLevels 13 = .ok (.iconst 0, 1) := by decide +kernel
theorem dX6_layLevels_14 : decode cX6_layLevels 14 = .ok (.istore_n 1, 1) := by decide +kernel
theorem dX6_layLevels_15 : decode cX6_layLevels 15 = .ok (.iload_n 1, 1) := by decide +kernel
theorem dX6_layLevels_16 : decode cX6_layLevels 16 = .ok (.aload_n 0, 1) := by decide +kernel
theorem dX6_layLevels_17 : decode cX6_layLevels 17 = .ok (.getfield 69, 3) := by decide +kernel
theorem dX6_layLevels_20 : decode cX6_layLevels 20 = .ok (.if_icmp .ge 21, 3) := by decide +kernel
theorem dX6_layLevels_23 : decode cX6_layLevels 23 = .ok (.aload_n 0, 1) := by decide +kernel
theorem dX6_layLevels_24 : decode cX6_layLevels 24 = .ok (.getfield 30, 3) := by decide +kernel
theorem dX6_layLevels_27 : decode cX6_layLevels 27 = .ok (.iload_n 1, 1) := by decide +kernel
theorem dX6_layLevels_28 : decode cX6_layLevels 28 = .ok (.aload_n 0, 1) := by decide +kernel
theorem dX6_layLevels_29 : decode cX6_layLevels 29 = .ok (.getfield 7, 3) := by decide +kernel
theorem dX6_layLevels_32 : decode cX6_layLevels 32 = .ok (.iload_n 1, 1) := by decide +kernel
theorem dX6_layLevels_33 : decode cX6_layLevels 33 = .ok (.iaload, 1) := by decide +kernel
theorem dX6_layLevels_34 : decode cX6_layLevels 34 = .ok (.iastore, 1) := by decide +kernel
theorem dX6_layLevels_35 : decode cX6_layLevels 35 = .ok (.iinc 1 1, 3) := by decide +kernel
theorem dX6_layLevels_38 : decode cX6_layLevels 38 = .ok (.goto (-23), 3) := by decide +kernel
theorem dX6_layLevels_41 : decode cX6_layLevels 41 = .ok (.aload_n 0, 1) := by decide +kernel
theorem dX6_layLevels_42 : decode cX6_layLevels 42 = .ok (.getfield 69, 3) := by decide +kernel
theorem dX6_layLevels_45 : decode cX6_layLevels 45 = .ok (.ifCond .le 7, 3) := by decide +kernel
theorem dX6_layLevels_48 : decode cX6_layLevels 48 = .ok (.iconst 1, 1) := by decide +kernel
theorem dX6_layLevels_49 : decode cX6_layLevels 49 = .ok (.goto 4, 3) := by decide +kernel
theorem dX6_layLevels_52 : decode cX6_layLevels 52 = .ok (.iconst 0, 1) := by decide +kernel
theorem dX6_layLevels_53 : decode cX6_layLevels 53 = .ok (.istore_n 1, 1) := by decide +kernel
theorem dX6_layLevels_54 : decode cX6_layLevels 54 = .ok (.iload_n 1, 1) := by decide +kernel
theorem dX6_layLevels_55 : decode cX6_layLevels 55 = .ok (.ifCond .eq 87, 3) := by decide +kernel
theorem dX6_layLevels_58 : decode cX6_layLevels 58 = .ok (.aload_n 0, 1) := by decide +kernel
theorem dX6_layLevels_59 : decode cX6_layLevels 59 = .ok (.aload_n 0, 1) := by decide +kernel
theorem dX6_layLevels_60 : decode cX6_layLevels 60 = .ok (.getfield 139, 3) := by decide +kernel
theorem dX6_layLevels_63 : decode cX6_layLevels 63 = .ok (.invokevirtual 142, 3) := by decide +kernel
theorem dX6_layLevels_66 : decode cX6_layLevels 66 = .ok (.aload_n 0, 1) := by decide +kernel
theorem dX6_layLevels_67 : decode cX6_layLevels 67 = .ok (.aload_n 0, 1) := by decide +kernel
theorem dX6_layLevels_68 : decode cX6_layLevels 68 = .ok (.getfield 39, 3) := by decide +kernel
theorem dX6_layLevels_71 : decode cX6_layLevels 71 = .ok (.aload_n 0, 1) := by decide +kernel
theorem dX6_layLevels_72 : decode cX6_layLevels 72 = .ok (.getfield 139, 3) := by decide +kernel
theorem dX6_layLevels_75 : decode cX6_layLevels 75 = .ok (.iaload, 1) := by decide +kernel
theorem dX6_layLevels_76 : decode cX6_layLevels 76 = .ok (.putfield 122, 3) := by decide +kernel
theorem dX6_layLevels_79 : decode cX6_layLevels 79 = .ok (.iconst 0, 1) := by decide +kernel
theorem dX6_layLevels_80 : decode cX6_layLevels 80 = .ok (.istore_n 2, 1) := by decide +kernel
theorem dX6_layLevels_81 : decode cX6_layLevels 81 = .ok (.iload_n 2, 1) := by decide +kernel
theorem dX6_layLevels_82 : decode cX6_layLevels 82 = .ok (.aload_n 0, 1) := by decide +kernel
theorem dX6_layLevels_83 : decode cX6_layLevels 83 = .ok (.getfield 122, 3) := by decide +kernel
theorem dX6_layLevels_86 : decode cX6_layLevels 86 = .ok (.if_icmp .ge 29, 3) := by decide +kernel
theorem dX6_layLevels_89 : decode cX6_layLevels 89 = .ok (.aload_n 0, 1) := by decide +kernel
theorem dX6_layLevels_90 : decode cX6_layLevels 90 = .ok (.getfield 30, 3) := by decide +kernel
theorem dX6_layLevels_93 : decode cX6_layLevels 93 = .ok (.iload_n 2, 1) := by decide +kernel
theorem dX6_layLevels_94 : decode cX6_layLevels 94 = .ok (.aload_n 0, 1) := by decide +kernel
theorem dX6_layLevels_95 : decode cX6_layLevels 95 = .ok (.getfield 48, 3) := by decide +kernel
theorem dX6_layLevels_98 : decode cX6_layLevels 98 = .ok (.bipush 60, 2) := by decide +kernel
theorem dX6_layLevels_100 : decode cX6_layLevels 100 = .ok (.aload_n 0, 1) := by decide +kernel
theorem dX6_layLevels_101 : decode cX6_layLevels 101 = .ok (.getfield 139, 3) := by decide +kernel
theorem dX6_layLevels_104 : decode cX6_layLevels 104 = .ok (.imul, 1) := by decide +kernel
theorem dX6_layLevels_105 : decode cX6_layLevels 105 = .ok (.iload_n 2, 1) := by decide +kernel
theorem dX6_layLevels_106 : decode cX6_layLevels 106 = .ok (.iadd, 1) := by decide +kernel
theorem dX6_layLevels_107 : decode cX6_layLevels 107 = .ok (.iaload, 1) := by decide +kernel
theorem dX6_layLevels_108 : decode cX6_layLevels 108 = .ok (.iastore, 1) := by decide +kernel
theorem dX6_layLevels_109 : decode cX6_layLevels 109 = .ok (.iinc 2 1, 3) := by decide +kernel
theorem dX6_layLevels_112 : decode cX6_layLevels 112 = .ok (.goto (-31), 3) := by decide +kernel
theorem dX6_layLevels_115 : decode cX6_layLevels 115 = .ok (.aload_n 0, 1) := by decide +kernel
theorem dX6_layLevels_116 : decode cX6_layLevels 116 = .ok (.getfield 122, 3) := by decide +kernel
theorem dX6_layLevels_119 : decode cX6_layLevels 119 = .ok (.iconst 1, 1) := by decide +kernel
theorem dX6_layLevels_120 : decode cX6_layLevels 120 = .ok (.if_icmp .le 7, 3) := by decide +kernel
theorem dX6_layLevels_123 : decode cX6_layLevels 123 = .ok (.iconst 1, 1) := by decide +kernel
theorem dX6_layLevels_124 : decode cX6_layLevels 124 = .ok (.goto 4, 3) := by decide +kernel
theorem dX6_layLevels_127 : decode cX6_layLevels 127 = .ok (.iconst 0, 1) := by decide +kernel
theorem dX6_layLevels_128 : decode cX6_layLevels 128 = .ok (.istore_n 1, 1) := by decide +kernel
theorem dX6_layLevels_129 : decode cX6_layLevels 129 = .ok (.aload_n 0, 1) := by decide +kernel
theorem dX6_layLevels_130 : decode cX6_layLevels 130 = .ok (.dup, 1) := by decide +kernel
theorem dX6_layLevels_131 : decode cX6_layLevels 131 = .ok (.getfield 139, 3) := by decide +kernel
theorem dX6_layLevels_134 : decode cX6_layLevels 134 = .ok (.iconst 1, 1) := by decide +kernel
theorem dX6_layLevels_135 : decode cX6_layLevels 135 = .ok (.iadd, 1) := by decide +kernel
theorem dX6_layLevels_136 : decode cX6_layLevels 136 = .ok (.putfield 139, 3) := by decide +kernel
theorem dX6_layLevels_139 : decode cX6_layLevels 139 = .ok (.goto (-85), 3) := by decide +kernel
theorem dX6_layLevels_142 : decode cX6_layLevels 142 = .ok (.return_, 1) := by decide +kernel
theorem dX6_piecesAt_0 : decode cX6_piecesAt 0 = .ok (.iload_n 1, 1) := by decide +kernel
theorem dX6_piecesAt_1 : decode cX6_piecesAt 1 = .ok (.aload_n 0, 1) := by decide +kernel
theorem dX6_piecesAt_2 : decode cX6_piecesAt 2 = .ok (.getfield 139, 3) := by decide +kernel
theorem dX6_piecesAt_5 : decode cX6_piecesAt 5 = .ok (.if_icmp .ge 12, 3) := by decide +kernel
theorem dX6_piecesAt_8 : decode cX6_piecesAt 8 = .ok (.aload_n 0, 1) := by decide +kernel
theorem dX6_piecesAt_9 : decode cX6_piecesAt 9 = .ok (.getfield 39, 3) := by decide +kernel
theorem dX6_piecesAt_12 : decode cX6_piecesAt 12 = .ok (.iload_n 1, 1) := by decide +kernel
theorem dX6_piecesAt_13 : decode cX6_piecesAt 13 = .ok (.iaload, 1) := by decide +kernel
theorem dX6_piecesAt_14 : decode cX6_piecesAt 14 = .ok (.goto 4, 3) := by decide +kernel
theorem dX6_piecesAt_17 : decode cX6_piecesAt 17 = .ok (.iconst 0, 1) := by decide +kernel
theorem dX6_piecesAt_18 : decode cX6_piecesAt 18 = .ok (.ireturn, 1) := by decide +kernel
set_option maxRecDepth 20000 in
theorem ggX6_pieces_X6_in : GoodIn wsX6_pieces wsX6_in := goodIn_r _ [4] (by decide +kernel) (by decide +kernel)
set_option maxRecDepth 20000 in
theorem gX6_pieces_X6_in : GoodIn wsX6_pieces (va_wsS RX6 62 yX6_in wsX6_in) := goodIn_app (goodIn_of _ (by decide +kernel)) ggX6_pieces_X6_in
set_option maxRecDepth 20000 in
theorem ggX6_pieces_X6_piecesAt : GoodIn wsX6_pieces wsX6_piecesAt := goodIn_r _ [8, 9, 10, 11, 12, 13, 14, 15, 16, 17, 18, 19, 20, 21, 22, 23, 24, 25, 26, 27, 28, 29, 30, 31, 32, 33, 34, 35] (by decide +kernel) (by decide +kernel)
set_option maxRecDepth 20000 in
theorem gX6_pieces_X6_piecesAt : GoodIn wsX6_pieces (wsV RX6 145 RX6 yX6_piecesAt wsX6_piecesAt) := goodIn_app (goodIn_of _ (by decide +kernel)) ggX6_pieces_X6_piecesAt
theorem dX6_pieces_0 : decode cX6_pieces 0 = .ok (.iload_n 1, 1) := by decide +kernel
theorem dX6_pieces_1 : decode cX6_pieces 1 = .ok (.iconst 0, 1) := by decide +kernel
theorem dX6_pieces_2 : decode cX6_pieces 2 = .ok (.bipush 9, 2) := by decide +kernel
theorem dX6_pieces_4 : decode cX6_pieces 4 = .ok (.invokestatic 62, 3) := by decide +kernel
theorem dX6_pieces_7 : decode cX6_pieces 7 = .ok (.ifCond .eq 11, 3) := by decide +kernel
theorem dX6_pieces_10 : decode cX6_pieces 10 = .ok (.aload_n 0, 1) := by decide +kernel
theorem dX6_pieces_11 : decode cX6_pieces 11 = .ok (.iload_n 1, 1) := by decide +kernel
theorem dX6_pieces_12 : decode cX6_pieces 12 = .ok (.invokevirtual 145, 3) := by decide +kernel
theorem dX6_pieces_15 : decode cX6_pieces 15 = .ok (.goto 5, 3) := by decide +kernel
theorem dX6_pieces_18 : decode cX6_pieces 18 = .ok (.bipush (-2), 2) := by decide +kernel
theorem dX6_pieces_20 : decode cX6_pieces 20 = .ok (.ireturn, 1) := by decide +kernel
set_option maxRecDepth 20000 in
theorem ggX6_piece_X6_in : GoodIn wsX6_piece wsX6_in := goodIn_r _ [9] (by decide +kernel) (by decide +kernel)
set_option maxRecDepth 20000 in
theorem gX6_piece_X6_in : GoodIn wsX6_piece (va_wsS RX6 62 yX6_in wsX6_in) := goodIn_app (goodIn_of _ (by decide +kernel)) ggX6_piece_X6_in
set_option maxRecDepth 20000 in
theorem ggX6_piece_X6_piecesAt : GoodIn wsX6_piece wsX6_piecesAt := goodIn_r _ [13, 14, 15, 16, 17, 18, 19, 20, 21, 22, 23, 24, 25, 26, 27, 28, 29, 30, 31, 32, 33, 34, 35, 36, 37, 38, 39, 40] (by decide +kernel) (by decide +kernel)
set_option maxRecDepth 20000 in
theorem gX6_piece_X6_piecesAt : GoodIn wsX6_piece (wsV RX6 145 RX6 yX6_piecesAt wsX6_piecesAt) := goodIn_app (goodIn_of _ (by decide +kernel)) ggX6_piece_X6_piecesAt
theorem dX6_piece_0 : decode cX6_piece 0 = .ok (.iload_n 1, 1) := by decide +kernel
theorem dX6_piece_1 : decode cX6_piece 1 = .ok (.iconst 0, 1) := by decide +kernel
theorem dX6_piece_2 : decode cX6_piece 2 = .ok (.bipush 9, 2) := by decide +kernel
theorem dX6_piece_4 : decode cX6_piece 4 = .ok (.invokestatic 62, 3) := by decide +kernel
theorem dX6_piece_7 : decode cX6_piece 7 = .ok (.ifCond .eq 18, 3) := by decide +kernel
theorem dX6_piece_10 : decode cX6_piece 10 = .ok (.iload_n 2, 1) := by decide +kernel
theorem dX6_piece_11 : decode cX6_piece 11 = .ok (.iconst 0, 1) := by decide +kernel
theorem dX6_piece_12 : decode cX6_piece 12 = .ok (.aload_n 0, 1) := by decide +kernel
theorem dX6_piece_13 : decode cX6_piece 13 = .ok (.iload_n 1, 1) := by decide +kernel
theorem dX6_piece_14 : decode cX6_piece 14 = .ok (.invokevirtual 145, 3) := by decide +kernel
theorem dX6_piece_17 : decode cX6_piece 17 = .ok (.iconst 1, 1) := by decide +kernel
theorem dX6_piece_18 : decode cX6_piece 18 = .ok (.isub, 1) := by decide +kernel
theorem dX6_piece_19 : decode cX6_piece 19 = .ok (.invokestatic 62, 3) := by decide +kernel
theorem dX6_piece_22 : decode cX6_piece 22 = .ok (.ifCond .ne 6, 3) := by decide +kernel
theorem dX6_piece_25 : decode cX6_piece 25 = .ok (.bipush (-2), 2) := by decide +kernel
theorem dX6_piece_27 : decode cX6_piece 27 = .ok (.ireturn, 1) := by decide +kernel
theorem dX6_piece_28 : decode cX6_piece 28 = .ok (.bipush 60, 2) := by decide +kernel
theorem dX6_piece_30 : decode cX6_piece 30 = .ok (.iload_n 1, 1) := by decide +kernel
theorem dX6_piece_31 : decode cX6_piece 31 = .ok (.imul, 1) := by decide +kernel
theorem dX6_piece_32 : decode cX6_piece 32 = .ok (.iload_n 2, 1) := by decide +kernel
theorem dX6_piece_33 : decode cX6_piece 33 = .ok (.iadd, 1) := by decide +kernel
theorem dX6_piece_34 : decode cX6_piece 34 = .ok (.istore 4, 2) := by decide +kernel
theorem dX6_piece_36 : decode cX6_piece 36 = .ok (.iload_n 3, 1) := by decide +kernel
theorem dX6_piece_37 : decode cX6_piece 37 = .ok (.tableswitch 77 0 4 #[35, 43, 51, 59, 68], 35) := by decide +kernel
theorem dX6_piece_72 : decode cX6_piece 72 = .ok (.aload_n 0, 1) := by decide +kernel
theorem dX6_piece_73 : decode cX6_piece 73 = .ok (.getfield 42, 3) := by decide +kernel
theorem dX6_piece_76 : decode cX6_piece 76 = .ok (.iload 4, 2) := by decide +kernel
theorem dX6_piece_78 : decode cX6_piece 78 = .ok (.iaload, 1) := by decide +kernel
theorem dX6_piece_79 : decode cX6_piece 79 = .ok (.ireturn, 1) := by decide +kernel
theorem dX6_piece_80 : decode cX6_piece 80 = .ok (.aload_n 0, 1) := by decide +kernel
theorem dX6_piece_81 : decode cX6_piece 81 = .ok (.getfield 45, 3) := by decide +kernel
theorem dX6_piece_84 : decode cX6_piece 84 = .ok (.iload 4, 2) := by decide +kernel
theorem dX6_piece_86 : decode cX6_piece 86 = .ok (.iaload, 1) := by decide +kernel
theorem dX6_piece_87 : decode cX6_piece 87 = .ok (.ireturn, 1) := by decide +kernel
theorem dX6_piece_88 : decode cX6_piece 88 = .ok (.aload_n 0, 1) := by decide +kernel
theorem dX6_piece_89 : decode cX6_piece 89 = .ok (.getfield 48, 3) := by decide +kernel
theorem dX6_piece_92 : decode cX6_piece 92 = .ok (.iload 4, 2) := by decide +kernel
theorem dX6_piece_94 : decode cX6_piece 94 = .ok (.iaload, 1) := by decide +kernel
theorem dX6_piece_95 : decode cX6_piece 95 = .ok (.ireturn, 1) := by decide +kernel
theorem dX6_piece_96 : decode cX6_piece 96 = .ok (.aload_n 0, 1) := by decide +kernel
theorem dX6_piece_97 : decode cX6_piece 97 = .ok (.getfield 51, 3) := by decide +kernel
theorem dX6_piece_100 : decode cX6_piece 100 = .ok (.iload 4, 2) := by decide +kernel
theorem dX6_piece_102 : decode cX6_piece 102 = .ok (.laload, 1) := by decide +kernel
theorem dX6_piece_103 : decode cX6_piece 103 = .ok (.l2i, 1) := by decide +kernel
theorem dX6_piece_104 : decode cX6_piece 104 = .ok (.ireturn, 1) := by decide +kernel
theorem dX6_piece_105 : decode cX6_piece 105 = .ok (.aload_n 0, 1) := by decide +kernel
theorem dX6_piece_106 : decode cX6_piece 106 = .ok (.getfield 55, 3) := by decide +kernel
theorem dX6_piece_109 : decode cX6_piece 109 = .ok (.iload 4, 2) := by decide +kernel
theorem dX6_piece_111 : decode cX6_piece 111 = .ok (.laload, 1) := by decide +kernel
theorem dX6_piece_112 : decode cX6_piece 112 = .ok (.l2i, 1) := by decide +kernel
theorem dX6_piece_113 : decode cX6_piece 113 = .ok (.ireturn, 1) := by decide +kernel
theorem dX6_piece_114 : decode cX6_piece 114 = .ok (.bipush (-2), 2) := by decide +kernel
theorem dX6_piece_116 : decode cX6_piece 116 = .ok (.ireturn, 1) := by decide +kernel
theorem dX6_levels_0 : decode cX6_levels 0 = .ok (.aload_n 0, 1) := by decide +kernel
theorem dX6_levels_1 : decode cX6_levels 1 = .ok (.getfield 139, 3) := by decide +kernel
theorem dX6_levels_4 : decode cX6_levels 4 = .ok (.ireturn, 1) := by decide +kernel
set_option maxRecDepth 20000 in
theorem ggX6_pieceFor_X6_piecesAt : GoodIn wsX6_pieceFor wsX6_piecesAt := goodIn_r _ [6, 7, 8, 9, 10, 11, 12, 13, 14, 15, 16, 17, 18, 19, 20, 21, 22, 23, 24, 25, 26, 27, 28, 29, 30, 31, 32, 33] (by decide +kernel) (by decide +kernel)
set_option maxRecDepth 20000 in
theorem gX6_pieceFor_X6_piecesAt : GoodIn wsX6_pieceFor (wsV RX6 145 RX6 yX6_piecesAt wsX6_piecesAt) := goodIn_app (goodIn_of _ (by decide +kernel)) ggX6_pieceFor_X6_piecesAt
theorem dX6_pieceFor_0 : decode cX6_pieceFor 0 = .ok (.iconst 0, 1) := by decide +kernel
theorem dX6_pieceFor_1 : decode cX6_pieceFor 1 = .ok (.istore_n 2, 1) := by decide +kernel
theorem dX6_pieceFor_2 : decode cX6_pieceFor 2 = .ok (.iconst 1, 1) := by decide +kernel
theorem dX6_pieceFor_3 : decode cX6_pieceFor 3 = .ok (.istore_n 3, 1) := by decide +kernel
theorem dX6_pieceFor_4 : decode cX6_pieceFor 4 = .ok (.iload_n 3, 1) := by decide +kernel
theorem dX6_pieceFor_5 : decode cX6_pieceFor 5 = .ok (.aload_n 0, 1) := by decide +kernel
theorem dX6_pieceFor_6 : decode cX6_pieceFor 6 = .ok (.iconst 0, 1) := by decide +kernel
theorem dX6_pieceFor_7 : decode cX6_pieceFor 7 = .ok (.invokevirtual 145, 3) := by decide +kernel
theorem dX6_pieceFor_10 : decode cX6_pieceFor 10 = .ok (.if_icmp .ge 25, 3) := by decide +kernel
theorem dX6_pieceFor_13 : decode cX6_pieceFor 13 = .ok (.aload_n 0, 1) := by decide +kernel
theorem dX6_pieceFor_14 : decode cX6_pieceFor 14 = .ok (.getfield 48, 3) := by decide +kernel
theorem dX6_pieceFor_17 : decode cX6_pieceFor 17 = .ok (.iload_n 3, 1) := by decide +kernel
theorem dX6_pieceFor_18 : decode cX6_pieceFor 18 = .ok (.iaload, 1) := by decide +kernel
theorem dX6_pieceFor_19 : decode cX6_pieceFor 19 = .ok (.iload_n 1, 1) := by decide +kernel
theorem dX6_pieceFor_20 : decode cX6_pieceFor 20 = .ok (.if_icmp .gt 7, 3) := by decide +kernel
theorem dX6_pieceFor_23 : decode cX6_pieceFor 23 = .ok (.iload_n 3, 1) := by decide +kernel
theorem dX6_pieceFor_24 : decode cX6_pieceFor 24 = .ok (.goto 4, 3) := by decide +kernel
theorem dX6_pieceFor_27 : decode cX6_pieceFor 27 = .ok (.iload_n 2, 1) := by decide +kernel
theorem dX6_pieceFor_28 : decode cX6_pieceFor 28 = .ok (.istore_n 2, 1) := by decide +kernel
theorem dX6_pieceFor_29 : decode cX6_pieceFor 29 = .ok (.iinc 3 1, 3) := by decide +kernel
theorem dX6_pieceFor_32 : decode cX6_pieceFor 32 = .ok (.goto (-28), 3) := by decide +kernel
theorem dX6_pieceFor_35 : decode cX6_pieceFor 35 = .ok (.iload_n 2, 1) := by decide +kernel
theorem dX6_pieceFor_36 : decode cX6_pieceFor 36 = .ok (.ireturn, 1) := by decide +kernel
theorem dX6_guessBy_0 : decode cX6_guessBy 0 = .ok (.aload_n 0, 1) := by decide +kernel
theorem dX6_guessBy_1 : decode cX6_guessBy 1 = .ok (.getfield 51, 3) := by decide +kernel
theorem dX6_guessBy_4 : decode cX6_guessBy 4 = .ok (.iload_n 1, 1) := by decide +kernel
theorem dX6_guessBy_5 : decode cX6_guessBy 5 = .ok (.laload, 1) := by decide +kernel
theorem dX6_guessBy_6 : decode cX6_guessBy 6 = .ok (.iload_n 2, 1) := by decide +kernel
theorem dX6_guessBy_7 : decode cX6_guessBy 7 = .ok (.aload_n 0, 1) := by decide +kernel
theorem dX6_guessBy_8 : decode cX6_guessBy 8 = .ok (.getfield 48, 3) := by decide +kernel
theorem dX6_guessBy_11 : decode cX6_guessBy 11 = .ok (.iload_n 1, 1) := by decide +kernel
theorem dX6_guessBy_12 : decode cX6_guessBy 12 = .ok (.iaload, 1) := by decide +kernel
theorem dX6_guessBy_13 : decode cX6_guessBy 13 = .ok (.isub, 1) := by decide +kernel
theorem dX6_guessBy_14 : decode cX6_guessBy 14 = .ok (.i2l, 1) := by decide +kernel
theorem dX6_guessBy_15 : decode cX6_guessBy 15 = .ok (.lmul, 1) := by decide +kernel
theorem dX6_guessBy_16 : decode cX6_guessBy 16 = .ok (.lstore_n 3, 1) := by decide +kernel
theorem dX6_guessBy_17 : decode cX6_guessBy 17 = .ok (.lload_n 3, 1) := by decide +kernel
theorem dX6_guessBy_18 : decode cX6_guessBy 18 = .ok (.lconst 0, 1) := by decide +kernel
theorem dX6_guessBy_19 : decode cX6_guessBy 19 = .ok (.lcmp, 1) := by decide +kernel
theorem dX6_guessBy_20 : decode cX6_guessBy 20 = .ok (.ifCond .lt 14, 3) := by decide +kernel
theorem dX6_guessBy_23 : decode cX6_guessBy 23 = .ok (.lload_n 3, 1) := by decide +kernel
theorem dX6_guessBy_24 : decode cX6_guessBy 24 = .ok (.aload_n 0, 1) := by decide +kernel
theorem dX6_guessBy_25 : decode cX6_guessBy 25 = .ok (.getfield 55, 3) := by decide +kernel
theorem dX6_guessBy_28 : decode cX6_guessBy 28 = .ok (.iload_n 1, 1) := by decide +kernel
theorem dX6_guessBy_29 : decode cX6_guessBy 29 = .ok (.laload, 1) := by decide +kernel
theorem dX6_guessBy_30 : decode cX6_guessBy 30 = .ok (.ldiv, 1) := by decide +kernel
theorem dX6_guessBy_31 : decode cX6_guessBy 31 = .ok (.goto 21, 3) := by decide +kernel
theorem dX6_guessBy_34 : decode cX6_guessBy 34 = .ok (.aload_n 0, 1) := by decide +kernel
theorem dX6_guessBy_35 : decode cX6_guessBy 35 = .ok (.getfield 55, 3) := by decide +kernel
theorem dX6_guessBy_38 : decode cX6_guessBy 38 = .ok (.iload_n 1, 1) := by decide +kernel
theorem dX6_guessBy_39 : decode cX6_guessBy 39 = .ok (.laload, 1) := by decide +kernel
theorem dX6_guessBy_40 : decode cX6_guessBy 40 = .ok (.lconst 1, 1) := by decide +kernel
theorem dX6_guessBy_41 : decode cX6_guessBy 41 = .ok (.lsub, 1) := by decide +kernel
theorem dX6_guessBy_42 : decode cX6_guessBy 42 = .ok (.lload_n 3, 1) := by decide +kernel
theorem dX6_guessBy_43 : decode cX6_guessBy 43 = .ok (.lsub, 1) := by decide +kernel
theorem dX6_guessBy_44 : decode cX6_guessBy 44 = .ok (.aload_n 0, 1) := by decide +kernel
theorem dX6_guessBy_45 : decode cX6_guessBy 45 = .ok (.getfield 55, 3) := by decide +kernel
theorem dX6_guessBy_48 : decode cX6_guessBy 48 = .ok (.iload_n 1, 1) := by decide +kernel
theorem dX6_guessBy_49 : decode cX6_guessBy 49 = .ok (.laload, 1) := by decide +kernel
theorem dX6_guessBy_50 : decode cX6_guessBy 50 = .ok (.ldiv, 1) := by decide +kernel
theorem dX6_guessBy_51 : decode cX6_guessBy 51 = .ok (.lneg, 1) := by decide +kernel
theorem dX6_guessBy_52 : decode cX6_guessBy 52 = .ok (.lstore 5, 2) := by decide +kernel
theorem dX6_guessBy_54 : decode cX6_guessBy 54 = .ok (.aload_n 0, 1) := by decide +kernel
theorem dX6_guessBy_55 : decode cX6_guessBy 55 = .ok (.getfield 42, 3) := by decide +kernel
theorem dX6_guessBy_58 : decode cX6_guessBy 58 = .ok (.iload_n 1, 1) := by decide +kernel
theorem dX6_guessBy_59 : decode cX6_guessBy 59 = .ok (.iaload, 1) := by decide +kernel
theorem dX6_guessBy_60 : decode cX6_guessBy 60 = .ok (.i2l, 1) := by decide +kernel
theorem dX6_guessBy_61 : decode cX6_guessBy 61 = .ok (.lload 5, 2) := by decide +kernel
theorem dX6_guessBy_63 : decode cX6_guessBy 63 = .ok (.ladd, 1) := by decide +kernel
theorem dX6_guessBy_64 : decode cX6_guessBy 64 = .ok (.lstore 7, 2) := by decide +kernel
theorem dX6_guessBy_66 : decode cX6_guessBy 66 = .ok (.lload 7, 2) := by decide +kernel
theorem dX6_guessBy_68 : decode cX6_guessBy 68 = .ok (.aload_n 0, 1) := by decide +kernel
theorem dX6_guessBy_69 : decode cX6_guessBy 69 = .ok (.getfield 42, 3) := by decide +kernel
theorem dX6_guessBy_72 : decode cX6_guessBy 72 = .ok (.iload_n 1, 1) := by decide +kernel
theorem dX6_guessBy_73 : decode cX6_guessBy 73 = .ok (.iaload, 1) := by decide +kernel
theorem dX6_guessBy_74 : decode cX6_guessBy 74 = .ok (.i2l, 1) := by decide +kernel
theorem dX6_guessBy_75 : decode cX6_guessBy 75 = .ok (.lcmp, 1) := by decide +kernel
theorem dX6_guessBy_76 : decode cX6_guessBy 76 = .ok (.ifCond .ge 12, 3) := by decide +kernel
theorem dX6_guessBy_79 : decode cX6_guessBy 79 = .ok (.aload_n 0, 1) := by decide +kernel
theorem dX6_guessBy_80 : decode cX6_guessBy 80 = .ok (.getfield 42, 3) := by decide +kernel
theorem dX6_guessBy_83 : decode cX6_guessBy 83 = .ok (.iload_n 1, 1) := by decide +kernel
theorem dX6_guessBy_84 : decode cX6_guessBy 84 = .ok (.iaload, 1) := by decide +kernel
theorem dX6_guessBy_85 : decode cX6_guessBy 85 = .ok (.goto 28, 3) := by decide +kernel
theorem dX6_guessBy_88 : decode cX6_guessBy 88 = .ok (.lload 7, 2) := by decide +kernel
theorem dX6_guessBy_90 : decode cX6_guessBy 90 = .ok (.aload_n 0, 1) := by decide +kernel
theorem dX6_guessBy_91 : decode cX6_guessBy 91 = .ok (.getfield 45, 3) := by decide +kernel
theorem dX6_guessBy_94 : decode cX6_guessBy 94 = .ok (.iload_n 1, 1) := by decide +kernel
theorem dX6_guessBy_95 : decode cX6_guessBy 95 = .ok (.iaload, 1) := by decide +kernel
theorem dX6_guessBy_96 : decode cX6_guessBy 96 = .ok (.i2l, 1) := by decide +kernel
theorem dX6_guessBy_97 : decode cX6_guessBy 97 = .ok (.lcmp, 1) := by decide +kernel
theorem dX6_guessBy_98 : decode cX6_guessBy 98 = .ok (.ifCond .le 12, 3) := by decide +kernel
theorem dX6_guessBy_101 : decode cX6_guessBy 101 = .ok (.aload_n 0, 1) := by decide +kernel
theorem dX6_guessBy_102 : decode cX6_guessBy 102 = .ok (.getfield 45, 3) := by decide +kernel
theorem dX6_guessBy_105 : decode cX6_guessBy 105 = .ok (.iload_n 1, 1) := by decide +kernel
theorem dX6_guessBy_106 : decode cX6_guessBy 106 = .ok (.iaload, 1) := by decide +kernel
theorem dX6_guessBy_107 : decode cX6_guessBy 107 = .ok (.goto 6, 3) := by decide +kernel
theorem dX6_guessBy_110 : decode cX6_guessBy 110 = .ok (.lload 7, 2) := by decide +kernel
theorem dX6_guessBy_112 : decode cX6_guessBy 112 = .ok (.l2i, 1) := by decide +kernel
theorem dX6_guessBy_113 : decode cX6_guessBy 113 = .ok (.ireturn, 1) := by decide +kernel
set_option maxRecDepth 20000 in
theorem ggX6_guess_X6_isNumber : GoodIn wsX6_guess wsX6_isNumber := goodIn_r _ [5, 6, 7, 8, 4, 9] (by decide +kernel) (by decide +kernel)
set_option maxRecDepth 20000 in
theorem gX6_guess_X6_isNumber : GoodIn wsX6_guess (va_wsS RX6 95 yX6_isNumber wsX6_isNumber) := goodIn_app (goodIn_of _ (by decide +kernel)) ggX6_guess_X6_isNumber
set_option maxRecDepth 20000 in
theorem ggX6_guess_X6_pieceFor : GoodIn wsX6_guess wsX6_pieceFor := goodIn_r _ [13, 14, 15, 16, 17, 4, 18, 19, 20, 29, 30, 31, 32, 33, 34, 35, 36, 37, 38, 39, 40, 41, 42, 43, 44, 45, 46, 47, 48, 49, 50, 51, 52, 53] (by decide +kernel) (by decide +kernel)
set_option maxRecDepth 20000 in
theorem gX6_guess_X6_pieceFor : GoodIn wsX6_guess (wsV RX6 148 RX6 yX6_pieceFor wsX6_pieceFor) := goodIn_app (goodIn_of _ (by decide +kernel)) ggX6_guess_X6_pieceFor
set_option maxRecDepth 20000 in
theorem ggX6_guess_X6_guessBy : GoodIn wsX6_guess wsX6_guessBy := goodIn_r _ [24, 25, 14, 26, 27, 28, 29, 30, 31, 32, 33, 34, 35, 36, 37, 38, 39, 40, 41, 42, 43, 44, 45, 46, 47, 48, 49, 50, 51, 52, 53] (by decide +kernel) (by decide +kernel)
set_option maxRecDepth 20000 in
theorem gX6_guess_X6_guessBy : GoodIn wsX6_guess (wsV RX6 151 RX6 yX6_guessBy wsX6_guessBy) := goodIn_app (goodIn_of _ (by decide +kernel)) ggX6_guess_X6_guessBy
theorem dX6_guess_0 : decode cX6_guess 0 = .ok (.iload_n 1, 1) := by decide +kernel
theorem dX6_guess_1 : decode cX6_guess 1 = .ok (.invokestatic 95, 3) := by decide +kernel
theorem dX6_guess_4 : decode cX6_guess 4 = .ok (.ifCond .ne 6, 3) := by decide +kernel
theorem dX6_guess_7 : decode cX6_guess 7 = .ok (.bipush (-2), 2) := by decide +kernel
theorem dX6_guess_9 : decode cX6_guess 9 = .ok (.ireturn, 1) := by decide +kernel
theorem dX6_guess_10 : decode cX6_guess 10 = .ok (.aload_n 0, 1) := by decide +kernel
