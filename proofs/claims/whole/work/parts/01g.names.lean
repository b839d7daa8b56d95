theorem dX6_init_0 : decode cX6_init 0 = .ok (.aload_n 0, 1) := by decide +kernel
theorem dX6_init_1 : decode cX6_init 1 = .ok (.invokespecial 1, 3) := by decide +kernel
theorem dX6_init_4 : decode cX6_init 4 = .ok (.aload_n 0, 1) := by decide +kernel
theorem dX6_init_5 : decode cX6_init 5 = .ok (.bipush 61, 2) := by decide +kernel
theorem dX6_init_7 : decode cX6_init 7 = .ok (.newarray .int, 2) := by decide +kernel
theorem dX6_init_9 : decode cX6_init 9 = .ok (.putfield 7, 3) := by decide +kernel
theorem dX6_init_12 : decode cX6_init 12 = .ok (.aload_n 0, 1) := by decide +kernel
theorem dX6_init_13 : decode cX6_init 13 = .ok (.iconst 2, 1) := by decide +kernel
theorem dX6_init_14 : decode cX6_init 14 = .ok (.putfield 13, 3) := by decide +kernel
theorem dX6_init_17 : decode cX6_init 17 = .ok (.aload_n 0, 1) := by decide +kernel
theorem dX6_init_18 : decode cX6_init 18 = .ok (.bipush 9, 2) := by decide +kernel
theorem dX6_init_20 : decode cX6_init 20 = .ok (.newarray .int, 2) := by decide +kernel
theorem dX6_init_22 : decode cX6_init 22 = .ok (.putfield 17, 3) := by decide +kernel
theorem dX6_init_25 : decode cX6_init 25 = .ok (.aload_n 0, 1) := by decide +kernel
theorem dX6_init_26 : decode cX6_init 26 = .ok (.bipush 9, 2) := by decide +kernel
theorem dX6_init_28 : decode cX6_init 28 = .ok (.newarray .int, 2) := by decide +kernel
theorem dX6_init_30 : decode cX6_init 30 = .ok (.putfield 20, 3) := by decide +kernel
theorem dX6_init_33 : decode cX6_init 33 = .ok (.aload_n 0, 1) := by decide +kernel
theorem dX6_init_34 : decode cX6_init 34 = .ok (.bipush 64, 2) := by decide +kernel
theorem dX6_init_36 : decode cX6_init 36 = .ok (.newarray .boolean, 2) := by decide +kernel
theorem dX6_init_38 : decode cX6_init 38 = .ok (.putfield 23, 3) := by decide +kernel
theorem dX6_init_41 : decode cX6_init 41 = .ok (.aload_n 0, 1) := by decide +kernel
theorem dX6_init_42 : decode cX6_init 42 = .ok (.bipush 70, 2) := by decide +kernel
theorem dX6_init_44 : decode cX6_init 44 = .ok (.newarray .int, 2) := by decide +kernel
theorem dX6_init_46 : decode cX6_init 46 = .ok (.putfield 27, 3) := by decide +kernel
theorem dX6_init_49 : decode cX6_init 49 = .ok (.aload_n 0, 1) := by decide +kernel
theorem dX6_init_50 : decode cX6_init 50 = .ok (.bipush 70, 2) := by decide +kernel
theorem dX6_init_52 : decode cX6_init 52 = .ok (.newarray .int, 2) := by decide +kernel
theorem dX6_init_54 : decode cX6_init 54 = .ok (.putfield 30, 3) := by decide +kernel
theorem dX6_init_57 : decode cX6_init 57 = .ok (.aload_n 0, 1) := by decide +kernel
theorem dX6_init_58 : decode cX6_init 58 = .ok (.bipush 70, 2) := by decide +kernel
theorem dX6_init_60 : decode cX6_init 60 = .ok (.newarray .int, 2) := by decide +kernel
theorem dX6_init_62 : decode cX6_init 62 = .ok (.putfield 33, 3) := by decide +kernel
theorem dX6_init_65 : decode cX6_init 65 = .ok (.aload_n 0, 1) := by decide +kernel
theorem dX6_init_66 : decode cX6_init 66 = .ok (.bipush 71, 2) := by decide +kernel
theorem dX6_init_68 : decode cX6_init 68 = .ok (.newarray .int, 2) := by decide +kernel
theorem dX6_init_70 : decode cX6_init 70 = .ok (.putfield 36, 3) := by decide +kernel
theorem dX6_init_73 : decode cX6_init 73 = .ok (.aload_n 0, 1) := by decide +kernel
theorem dX6_init_74 : decode cX6_init 74 = .ok (.bipush 10, 2) := by decide +kernel
theorem dX6_init_76 : decode cX6_init 76 = .ok (.newarray .int, 2) := by decide +kernel
theorem dX6_init_78 : decode cX6_init 78 = .ok (.putfield 39, 3) := by decide +kernel
theorem dX6_init_81 : decode cX6_init 81 = .ok (.aload_n 0, 1) := by decide +kernel
theorem dX6_init_82 : decode cX6_init 82 = .ok (.sipush 600, 3) := by decide +kernel
theorem dX6_init_85 : decode cX6_init 85 = .ok (.newarray .int, 2) := by decide +kernel
theorem dX6_init_87 : decode cX6_init 87 = .ok (.putfield 42, 3) := by decide +kernel
theorem dX6_init_90 : decode cX6_init 90 = .ok (.aload_n 0, 1) := by decide +kernel
theorem dX6_init_91 : decode cX6_init 91 = .ok (.sipush 600, 3) := by decide +kernel
theorem dX6_init_94 : decode cX6_init 94 = .ok (.newarray .int, 2) := by decide +kernel
theorem dX6_init_96 : decode cX6_init 96 = .ok (.putfield 45, 3) := by decide +kernel
theorem dX6_init_99 : decode cX6_init 99 = .ok (.aload_n 0, 1) := by decide +kernel
theorem dX6_init_100 : decode cX6_init 100 = .ok (.sipush 600, 3) := by decide +kernel
theorem dX6_init_103 : decode cX6_init 103 = .ok (.newarray .int, 2) := by decide +kernel
theorem dX6_init_105 : decode cX6_init 105 = .ok (.putfield 48, 3) := by decide +kernel
theorem dX6_init_108 : decode cX6_init 108 = .ok (.aload_n 0, 1) := by decide +kernel
theorem dX6_init_109 : decode cX6_init 109 = .ok (.sipush 600, 3) := by decide +kernel
theorem dX6_init_112 : decode cX6_init 112 = .ok (.newarray .long, 2) := by decide +kernel
theorem dX6_init_114 : decode cX6_init 114 = .ok (.putfield 51, 3) := by decide +kernel
theorem dX6_init_117 : decode cX6_init 117 = .ok (.aload_n 0, 1) := by decide +kernel
theorem dX6_init_118 : decode cX6_init 118 = .ok (.sipush 600, 3) := by decide +kernel
theorem dX6_init_121 : decode cX6_init 121 = .ok (.newarray .long, 2) := by decide +kernel
theorem dX6_init_123 : decode cX6_init 123 = .ok (.putfield 55, 3) := by decide +kernel
theorem dX6_init_126 : decode cX6_init 126 = .ok (.aload_n 0, 1) := by decide +kernel
theorem dX6_init_127 : decode cX6_init 127 = .ok (.invokevirtual 58, 3) := by decide +kernel
theorem dX6_init_130 : decode cX6_init 130 = .ok (.return_, 1) := by decide +kernel
theorem dX6_in_0 : decode cX6_in 0 = .ok (.iload_n 0, 1) := by decide +kernel
theorem dX6_in_1 : decode cX6_in 1 = .ok (.iload_n 1, 1) := by decide +kernel
theorem dX6_in_2 : decode cX6_in 2 = .ok (.if_icmp .lt 12, 3) := by decide +kernel
theorem dX6_in_5 : decode cX6_in 5 = .ok (.iload_n 0, 1) := by decide +kernel
theorem dX6_in_6 : decode cX6_in 6 = .ok (.iload_n 2, 1) := by decide +kernel
theorem dX6_in_7 : decode cX6_in 7 = .ok (.if_icmp .gt 7, 3) := by decide +kernel
theorem dX6_in_10 : decode cX6_in 10 = .ok (.iconst 1, 1) := by decide +kernel
theorem dX6_in_11 : decode cX6_in 11 = .ok (.goto 4, 3) := by decide +kernel
theorem dX6_in_14 : decode cX6_in 14 = .ok (.iconst 0, 1) := by decide +kernel
theorem dX6_in_15 : decode cX6_in 15 = .ok (.ireturn, 1) := by decide +kernel
set_option maxRecDepth 20000 in
theorem ggX6_isNumber_X6_in : GoodIn wsX6_isNumber wsX6_in := goodIn_r _ [5] (by decide +kernel) (by decide +kernel)
set_option maxRecDepth 20000 in
theorem gX6_isNumber_X6_in : GoodIn wsX6_isNumber (va_wsS RX6 62 yX6_in wsX6_in) := goodIn_app (goodIn_of _ (by decide +kernel)) ggX6_isNumber_X6_in
theorem dX6_isNumber_0 : decode cX6_isNumber 0 = .ok (.iload_n 0, 1) := by decide +kernel
theorem dX6_isNumber_1 : decode cX6_isNumber 1 = .ok (.iconst 0, 1) := by decide +kernel
theorem dX6_isNumber_2 : decode cX6_isNumber 2 = .ok (.ldc 61, 2) := by decide +kernel
theorem dX6_isNumber_4 : decode cX6_isNumber 4 = .ok (.invokestatic 62, 3) := by decide +kernel
theorem dX6_isNumber_7 : decode cX6_isNumber 7 = .ok (.ireturn, 1) := by decide +kernel
theorem dX6_placeIn_0 : decode cX6_placeIn 0 = .ok (.iconst 0, 1) := by decide +kernel
theorem dX6_placeIn_1 : decode cX6_placeIn 1 = .ok (.istore_n 3, 1) := by decide +kernel
theorem dX6_placeIn_2 : decode cX6_placeIn 2 = .ok (.iload_n 3, 1) := by decide +kernel
theorem dX6_placeIn_3 : decode cX6_placeIn 3 = .ok (.iload_n 1, 1) := by decide +kernel
theorem dX6_placeIn_4 : decode cX6_placeIn 4 = .ok (.if_icmp .ge 18, 3) := by decide +kernel
theorem dX6_placeIn_7 : decode cX6_placeIn 7 = .ok (.aload_n 0, 1) := by decide +kernel
theorem dX6_placeIn_8 : decode cX6_placeIn 8 = .ok (.iload_n 3, 1) := by decide +kernel
theorem dX6_placeIn_9 : decode cX6_placeIn 9 = .ok (.iaload, 1) := by decide +kernel
theorem dX6_placeIn_10 : decode cX6_placeIn 10 = .ok (.iload_n 2, 1) := by decide +kernel
theorem dX6_placeIn_11 : decode cX6_placeIn 11 = .ok (.if_icmp .ne 5, 3) := by decide +kernel
theorem dX6_placeIn_14 : decode cX6_placeIn 14 = .ok (.iload_n 3, 1) := by decide +kernel
theorem dX6_placeIn_15 : decode cX6_placeIn 15 = .ok (.ireturn, 1) := by decide +kernel
theorem dX6_placeIn_16 : decode cX6_placeIn 16 = .ok (.iinc 3 1, 3) := by decide +kernel
theorem dX6_placeIn_19 : decode cX6_placeIn 19 = .ok (.goto (-17), 3) := by decide +kernel
theorem dX6_placeIn_22 : decode cX6_placeIn 22 = .ok (.iconst (-1), 1) := by decide +kernel
theorem dX6_placeIn_23 : decode cX6_placeIn 23 = .ok (.ireturn, 1) := by decide +kernel
theorem dX6_insertNow_0 : decode cX6_insertNow 0 = .ok (.aload_n 0, 1) := by decide +kernel
theorem dX6_insertNow_1 : decode cX6_insertNow 1 = .ok (.getfield 66, 3) := by decide +kernel
theorem dX6_insertNow_4 : decode cX6_insertNow 4 = .ok (.istore_n 2, 1) := by decide +kernel
theorem dX6_insertNow_5 : decode cX6_insertNow 5 = .ok (.iload_n 2, 1) := by decide +kernel
theorem dX6_insertNow_6 : decode cX6_insertNow 6 = .ok (.ifCond .le 35, 3) := by decide +kernel
theorem dX6_insertNow_9 : decode cX6_insertNow 9 = .ok (.aload_n 0, 1) := by decide +kernel
theorem dX6_insertNow_10 : decode cX6_insertNow 10 = .ok (.getfield 27, 3) := by decide +kernel
theorem dX6_insertNow_13 : decode cX6_insertNow 13 = .ok (.iload_n 2, 1) := by decide +kernel
theorem dX6_insertNow_14 : decode cX6_insertNow 14 = .ok (.iconst 1, 1) := by decide +kernel
theorem dX6_insertNow_15 : decode cX6_insertNow 15 = .ok (.isub, 1) := by decide +kernel
theorem dX6_insertNow_16 : decode cX6_insertNow 16 = .ok (.iaload, 1) := by decide +kernel
theorem dX6_insertNow_17 : decode cX6_insertNow 17 = .ok (.iload_n 1, 1) := by decide +kernel
theorem dX6_insertNow_18 : decode cX6_insertNow 18 = .ok (.if_icmp .le 23, 3) := by decide +kernel
theorem dX6_insertNow_21 : decode cX6_insertNow 21 = .ok (.aload_n 0, 1) := by decide +kernel
theorem dX6_insertNow_22 : decode cX6_insertNow 22 = .ok (.getfield 27, 3) := by decide +kernel
theorem dX6_insertNow_25 : decode cX6_insertNow 25 = .ok (.iload_n 2, 1) := by decide +kernel
theorem dX6_insertNow_26 : decode cX6_insertNow 26 = .ok (.aload_n 0, 1) := by decide +kernel
theorem dX6_insertNow_27 : decode cX6_insertNow 27 = .ok (.getfield 27, 3) := by decide +kernel
theorem dX6_insertNow_30 : decode cX6_insertNow 30 = .ok (.iload_n 2, 1) := by decide +kernel
theorem dX6_insertNow_31 : decode cX6_insertNow 31 = .ok (.iconst 1, 1) := by decide +kernel
theorem dX6_insertNow_32 : decode cX6_insertNow 32 = .ok (.isub, 1) := by decide +kernel
theorem dX6_insertNow_33 : decode cX6_insertNow 33 = .ok (.iaload, 1) := by decide +kernel
theorem dX6_insertNow_34 : decode cX6_insertNow 34 = .ok (.iastore, 1) := by decide +kernel
theorem dX6_insertNow_35 : decode cX6_insertNow 35 = .ok (.iinc 2 (-1), 3) := by decide +kernel
theorem dX6_insertNow_38 : decode cX6_insertNow 38 = .ok (.goto (-33), 3) := by decide +kernel
theorem dX6_insertNow_41 : decode cX6_insertNow 41 = .ok (.aload_n 0, 1) := by decide +kernel
theorem dX6_insertNow_42 : decode cX6_insertNow 42 = .ok (.getfield 27, 3) := by decide +kernel
theorem dX6_insertNow_45 : decode cX6_insertNow 45 = .ok (.iload_n 2, 1) := by decide +kernel
theorem dX6_insertNow_46 : decode cX6_insertNow 46 = .ok (.iload_n 1, 1) := by decide +kernel
theorem dX6_insertNow_47 : decode cX6_insertNow 47 = .ok (.iastore, 1) := by decide +kernel
theorem dX6_insertNow_48 : decode cX6_insertNow 48 = .ok (.aload_n 0, 1) := by decide +kernel
theorem dX6_insertNow_49 : decode cX6_insertNow 49 = .ok (.dup, 1) := by decide +kernel
theorem dX6_insertNow_50 : decode cX6_insertNow 50 = .ok (.getfield 66, 3) := by decide +kernel
theorem dX6_insertNow_53 : decode cX6_insertNow 53 = .ok (.iconst 1, 1) := by decide +kernel
theorem dX6_insertNow_54 : decode cX6_insertNow 54 = .ok (.iadd, 1) := by decide +kernel
theorem dX6_insertNow_55 : decode cX6_insertNow 55 = .ok (.putfield 66, 3) := by decide +kernel
theorem dX6_insertNow_58 : decode cX6_insertNow 58 = .ok (.return_, 1) := by decide +kernel
set_option maxRecDepth 20000 in
theorem ggX6_layNow_X6_placeIn : GoodIn wsX6_layNow wsX6_placeIn := goodIn_r _ [11] (by decide +kernel) (by decide +kernel)
set_option maxRecDepth 20000 in
theorem gX6_layNow_X6_placeIn : GoodIn wsX6_layNow (va_wsS RX6 75 yX6_placeIn wsX6_placeIn) := goodIn_app (goodIn_of _ (by decide +kernel)) ggX6_layNow_X6_placeIn
set_option maxRecDepth 20000 in
theorem ggX6_layNow_X6_insertNow : GoodIn wsX6_layNow wsX6_insertNow := goodIn_r _ [15, 1, 16, 17, 18, 19, 20, 21, 22, 23, 24, 25, 26, 27, 28, 29, 30, 31, 32, 33, 34, 35, 36, 37, 38, 39, 40, 41] (by decide +kernel) (by decide +kernel)
set_option maxRecDepth 20000 in
theorem gX6_layNow_X6_insertNow : GoodIn wsX6_layNow (wsV RX6 79 RX6 yX6_insertNow wsX6_insertNow) := goodIn_app (goodIn_of _ (by decide +kernel)) ggX6_layNow_X6_insertNow
theorem dX6_layNow_0 : decode cX6_layNow 0 = .ok (.aload_n 0, 1) := by decide +kernel
theorem dX6_layNow_1 : decode cX6_layNow 1 = .ok (.iconst 0, 1) := by decide +kernel
theorem dX6_layNow_2 : decode cX6_layNow 2 = .ok (.putfield 66, 3) := by decide +kernel
theorem dX6_layNow_5 : decode cX6_layNow 5 = .ok (.iconst 0, 1) := by decide +kernel
theorem dX6_layNow_6 : decode cX6_layNow 6 = .ok (.istore_n 1, 1) := by decide +kernel
theorem dX6_layNow_7 : decode cX6_layNow 7 = .ok (.iload_n 1, 1) := by decide +kernel
theorem dX6_layNow_8 : decode cX6_layNow 8 = .ok (.aload_n 0, 1) := by decide +kernel
theorem dX6_layNow_9 : decode cX6_layNow 9 = .ok (.getfield 69, 3) := by decide +kernel
theorem dX6_layNow_12 : decode cX6_layNow 12 = .ok (.if_icmp .ge 40, 3) := by decide +kernel
theorem dX6_layNow_15 : decode cX6_layNow 15 = .ok (.aload_n 0, 1) := by decide +kernel
theorem dX6_layNow_16 : decode cX6_layNow 16 = .ok (.getfield 20, 3) := by decide +kernel
theorem dX6_layNow_19 : decode cX6_layNow 19 = .ok (.aload_n 0, 1) := by decide +kernel
theorem dX6_layNow_20 : decode cX6_layNow 20 = .ok (.getfield 72, 3) := by decide +kernel
theorem dX6_layNow_23 : decode cX6_layNow 23 = .ok (.aload_n 0, 1) := by decide +kernel
theorem dX6_layNow_24 : decode cX6_layNow 24 = .ok (.getfield 7, 3) := by decide +kernel
theorem dX6_layNow_27 : decode cX6_layNow 27 = .ok (.iload_n 1, 1) := by decide +kernel
theorem dX6_layNow_28 : decode cX6_layNow 28 = .ok (.iaload, 1) := by decide +kernel
theorem dX6_layNow_29 : decode cX6_layNow 29 = .ok (.invokestatic 75, 3) := by decide +kernel
theorem dX6_layNow_32 : decode cX6_layNow 32 = .ok (.iconst (-1), 1) := by decide +kernel
theorem dX6_layNow_33 : decode cX6_layNow 33 = .ok (.if_icmp .ne 13, 3) := by decide +kernel
theorem dX6_layNow_36 : decode cX6_layNow 36 = .ok (.aload_n 0, 1) := by decide +kernel
theorem dX6_layNow_37 : decode cX6_layNow 37 = .ok (.aload_n 0, 1) := by decide +kernel
theorem dX6_layNow_38 : decode cX6_layNow 38 = .ok (.getfield 7, 3) := by decide +kernel
theorem dX6_layNow_41 : decode cX6_layNow 41 = .ok (.iload_n 1, 1) := by decide +kernel
theorem dX6_layNow_42 : decode cX6_layNow 42 = .ok (.iaload, 1) := by decide +kernel
theorem dX6_layNow_43 : decode cX6_layNow 43 = .ok (.invokevirtual 79, 3) := by decide +kernel
theorem dX6_layNow_46 : decode cX6_layNow 46 = .ok (.iinc 1 1, 3) := by decide +kernel
theorem dX6_layNow_49 : decode cX6_layNow 49 = .ok (.goto (-42), 3) := by decide +kernel
theorem dX6_layNow_52 : decode cX6_layNow 52 = .ok (.iconst 0, 1) := by decide +kernel
theorem dX6_layNow_53 : decode cX6_layNow 53 = .ok (.istore_n 1, 1) := by decide +kernel
theorem dX6_layNow_54 : decode cX6_layNow 54 = .ok (.iload_n 1, 1) := by decide +kernel
theorem dX6_layNow_55 : decode cX6_layNow 55 = .ok (.aload_n 0, 1) := by decide +kernel
theorem dX6_layNow_56 : decode cX6_layNow 56 = .ok (.getfield 83, 3) := by decide +kernel
theorem dX6_layNow_59 : decode cX6_layNow 59 = .ok (.if_icmp .ge 19, 3) := by decide +kernel
theorem dX6_layNow_62 : decode cX6_layNow 62 = .ok (.aload_n 0, 1) := by decide +kernel
theorem dX6_layNow_63 : decode cX6_layNow 63 = .ok (.aload_n 0, 1) := by decide +kernel
theorem dX6_layNow_64 : decode cX6_layNow 64 = .ok (.getfield 17, 3) := by decide +kernel
theorem dX6_layNow_67 : decode cX6_layNow 67 = .ok (.iload_n 1, 1) := by decide +kernel
theorem dX6_layNow_68 : decode cX6_layNow 68 = .ok (.iaload, 1) := by decide +kernel
theorem dX6_layNow_69 : decode cX6_layNow 69 = .ok (.invokevirtual 79, 3) := by decide +kernel
theorem dX6_layNow_72 : decode cX6_layNow 72 = .ok (.iinc 1 1, 3) := by decide +kernel
theorem dX6_layNow_75 : decode cX6_layNow 75 = .ok (.goto (-21), 3) := by decide +kernel
theorem dX6_layNow_78 : decode cX6_layNow 78 = .ok (.return_, 1) := by decide +kernel
set_option maxRecDepth 20000 in
theorem ggX6_isThere_X6_layNow : GoodIn wsX6_isThere wsX6_layNow := goodIn_r _ [7, 2, 8, 9, 10, 11, 12, 13, 14, 15, 6, 16, 17, 18, 19, 20, 1, 21, 22, 23, 24, 25, 26, 27, 28, 29, 30, 31, 32, 33, 34, 35, 36, 37, 38, 39, 40, 41, 42, 43, 44, 45] (by decide +kernel) (by decide +kernel)
set_option maxRecDepth 20000 in
theorem gX6_isThere_X6_layNow : GoodIn wsX6_isThere (wsV RX6 86 RX6 yX6_layNow wsX6_layNow) := goodIn_app (goodIn_of _ (by decide +kernel)) ggX6_isThere_X6_layNow
set_option maxRecDepth 20000 in
theorem ggX6_isThere_X6_placeIn : GoodIn wsX6_isThere wsX6_placeIn := goodIn_r _ [16] (by decide +kernel) (by decide +kernel)
set_option maxRecDepth 20000 in
theorem gX6_isThere_X6_placeIn : GoodIn wsX6_isThere (va_wsS RX6 75 yX6_placeIn wsX6_placeIn) := goodIn_app (goodIn_of _ (by decide +kernel)) ggX6_isThere_X6_placeIn
theorem dX6_isThere_0 : decode cX6_isThere 0 = .ok (.aload_n 0, 1) := by decide +kernel
theorem dX6_isThere_1 : decode cX6_isThere 1 = .ok (.invokevirtual 86, 3) := by decide +kernel
theorem dX6_isThere_4 : decode cX6_isThere 4 = .ok (.aload_n 0, 1) := by decide +kernel
theorem dX6_isThere_5 : decode cX6_isThere 5 = .ok (.getfield 27, 3) := by decide +kernel
theorem dX6_isThere_8 : decode cX6_isThere 8 = .ok (.aload_n 0, 1) := by decide +kernel
theorem dX6_isThere_9 : decode cX6_isThere 9 = .ok (.getfield 66, 3) := by decide +kernel
theorem dX6_isThere_12 : decode cX6_isThere 12 = .ok (.iload_n 1, 1) := by decide +kernel
theorem dX6_isThere_13 : decode cX6_isThere 13 = .ok (.invokestatic 75, 3) := by decide +kernel
theorem dX6_isThere_16 : decode cX6_isThere 16 = .ok (.iconst (-1), 1) := by decide +kernel
theorem dX6_isThere_17 : decode cX6_isThere 17 = .ok (.if_icmp .eq 7, 3) := by decide +kernel
theorem dX6_isThere_20 : decode cX6_isThere 20 = .ok (.iconst 1, 1) := by decide +kernel
theorem dX6_isThere_21 : decode cX6_isThere 21 = .ok (.goto 4, 3) := by decide +kernel
theorem dX6_isThere_24 : decode cX6_isThere 24 = .ok (.iconst 0, 1) := by decide +kernel
theorem dX6_isThere_25 : decode cX6_isThere 25 = .ok (.ireturn, 1) := by decide +kernel
theorem dX6_setBits_0 : decode cX6_setBits 0 = .ok (.aload_n 0, 1) := by decide +kernel
theorem dX6_setBits_1 : decode cX6_setBits 1 = .ok (.getfield 23, 3) := by decide +kernel
theorem dX6_setBits_4 : decode cX6_setBits 4 = .ok (.iload_n 1, 1) := by decide +kernel
theorem dX6_setBits_5 : decode cX6_setBits 5 = .ok (.bipush 61, 2) := by decide +kernel
theorem dX6_setBits_7 : decode cX6_setBits 7 = .ok (.irem, 1) := by decide +kernel
theorem dX6_setBits_8 : decode cX6_setBits 8 = .ok (.iconst 1, 1) := by decide +kernel
theorem dX6_setBits_9 : decode cX6_setBits 9 = .ok (.bastore, 1) := by decide +kernel
theorem dX6_setBits_10 : decode cX6_setBits 10 = .ok (.aload_n 0, 1) := by decide +kernel
theorem dX6_setBits_11 : decode cX6_setBits 11 = .ok (.getfield 23, 3) := by decide +kernel
theorem dX6_setBits_14 : decode cX6_setBits 14 = .ok (.iload_n 1, 1) := by decide +kernel
theorem dX6_setBits_15 : decode cX6_setBits 15 = .ok (.bipush 61, 2) := by decide +kernel
theorem dX6_setBits_17 : decode cX6_setBits 17 = .ok (.idiv, 1) := by decide +kernel
theorem dX6_setBits_18 : decode cX6_setBits 18 = .ok (.bipush 64, 2) := by decide +kernel
theorem dX6_setBits_20 : decode cX6_setBits 20 = .ok (.irem, 1) := by decide +kernel
theorem dX6_setBits_21 : decode cX6_setBits 21 = .ok (.iconst 1, 1) := by decide +kernel
theorem dX6_setBits_22 : decode cX6_setBits 22 = .ok (.bastore, 1) := by decide +kernel
theorem dX6_setBits_23 : decode cX6_setBits 23 = .ok (.return_, 1) := by decide +kernel
set_option maxRecDepth 20000 in
theorem ggX6_makeRow_X6_layNow : GoodIn wsX6_makeRow wsX6_layNow := goodIn_r _ [13, 2, 3, 14, 7, 4, 6, 15, 16, 17, 12, 18, 19, 20, 21, 22, 5, 68, 69, 70, 71, 72, 73, 74, 75, 76, 77, 78, 79, 80, 81, 82, 83, 84, 85, 86, 87, 88, 89, 90, 91, 92] (by decide +kernel) (by decide +kernel)
set_option maxRecDepth 20000 in
theorem gX6_makeRow_X6_layNow : GoodIn wsX6_makeRow (wsV RX6 86 RX6 yX6_layNow wsX6_layNow) := goodIn_app (goodIn_of _ (by decide +kernel)) ggX6_makeRow_X6_layNow
set_option maxRecDepth 20000 in
theorem ggX6_makeRow_X6_setBits : GoodIn wsX6_makeRow wsX6_setBits := goodIn_r _ [26, 1, 68, 69, 70, 71, 72, 73, 74, 75, 76, 77, 78, 79, 80, 81, 82, 83, 84, 85, 86, 87, 88, 89, 90, 91, 92] (by decide +kernel) (by decide +kernel)
set_option maxRecDepth 20000 in
theorem gX6_makeRow_X6_setBits : GoodIn wsX6_makeRow (wsV RX6 89 RX6 yX6_setBits wsX6_setBits) := goodIn_app (goodIn_of _ (by decide +kernel)) ggX6_makeRow_X6_setBits
set_option maxRecDepth 20000 in
theorem ggX6_makeRow_X6_layLevels : GoodIn wsX6_makeRow wsX6_layLevels := goodIn_r _ [30, 31, 3, 32, 33, 4, 34, 35, 36, 37, 38, 12, 39, 40, 41, 42, 43, 44, 45, 46, 47, 48, 49, 50, 51, 52, 53, 54, 55, 56, 57, 58, 59, 60, 61, 62, 63, 64, 65, 66, 67, 68, 69, 70, 71, 72, 73, 74, 75, 76, 77, 78, 79, 80, 81, 82, 83, 84, 85, 86, 87, 88, 89, 90, 91, 92] (by decide +kernel) (by decide +kernel)
set_option maxRecDepth 20000 in
theorem gX6_makeRow_X6_layLevels : GoodIn wsX6_makeRow (wsV RX6 58 RX6 yX6_layLevels wsX6_layLevels) := goodIn_app (goodIn_of _ (by decide +kernel)) ggX6_makeRow_X6_layLevels
theorem dX6_makeRow_0 : decode cX6_makeRow 0 = .ok (.aload_n 0, 1) := by decide +kernel
theorem dX6_makeRow_1 : decode cX6_makeRow 1 = .ok (.invokevirtual 86, 3) := by decide +kernel
theorem dX6_makeRow_4 : decode cX6_makeRow 4 = .ok (.iconst 0, 1) := by decide +kernel
theorem dX6_makeRow_5 : decode cX6_makeRow 5 = .ok (.istore_n 1, 1) := by decide +kernel
theorem dX6_makeRow_6 : decode cX6_makeRow 6 = .ok (.iload_n 1, 1) := by decide +kernel
theorem dX6_makeRow_7 : decode cX6_makeRow 7 = .ok (.bipush 64, 2) := by decide +kernel
theorem dX6_makeRow_9 : decode cX6_makeRow 9 = .ok (.if_icmp .ge 16, 3) := by decide +kernel
theorem dX6_makeRow_12 : decode cX6_makeRow 12 = .ok (.aload_n 0, 1) := by decide +kernel
theorem dX6_makeRow_13 : decode cX6_makeRow 13 = .ok (.getfield 23, 3) := by decide +kernel
theorem dX6_makeRow_16 : decode cX6_makeRow 16 = .ok (.iload_n 1, 1) := by decide +kernel
theorem dX6_makeRow_17 : decode cX6_makeRow 17 = .ok (.iconst 0, 1) := by decide +kernel
theorem dX6_makeRow_18 : decode cX6_makeRow 18 = .ok (.bastore, 1) := by decide +kernel
theorem dX6_makeRow_19 : decode cX6_makeRow 19 = .ok (.iinc 1 1, 3) := by decide +kernel
theorem dX6_makeRow_22 : decode cX6_makeRow 22 = .ok (.goto (-16), 3) := by decide +kernel
theorem dX6_makeRow_25 : decode cX6_makeRow 25 = .ok (.aload_n 0, 1) := by decide +kernel
theorem dX6_makeRow_26 : decode cX6_makeRow 26 = .ok (.aload_n 0, 1) := by decide +kernel
theorem dX6_makeRow_27 : decode cX6_makeRow 27 = .ok (.getfield 66, 3) := by decide +kernel
theorem dX6_makeRow_30 : decode cX6_makeRow 30 = .ok (.putfield 69, 3) := by decide +kernel
theorem dX6_makeRow_33 : decode cX6_makeRow 33 = .ok (.iconst 0, 1) := by decide +kernel
theorem dX6_makeRow_34 : decode cX6_makeRow 34 = .ok (.istore_n 1, 1) := by decide +kernel
theorem dX6_makeRow_35 : decode cX6_makeRow 35 = .ok (.iload_n 1, 1) := by decide +kernel
theorem dX6_makeRow_36 : decode cX6_makeRow 36 = .ok (.aload_n 0, 1) := by decide +kernel
theorem dX6_makeRow_37 : decode cX6_makeRow 37 = .ok (.getfield 66, 3) := by decide +kernel
theorem dX6_makeRow_40 : decode cX6_makeRow 40 = .ok (.if_icmp .ge 31, 3) := by decide +kernel
theorem dX6_makeRow_43 : decode cX6_makeRow 43 = .ok (.aload_n 0, 1) := by decide +kernel
theorem dX6_makeRow_44 : decode cX6_makeRow 44 = .ok (.getfield 7, 3) := by decide +kernel
theorem dX6_makeRow_47 : decode cX6_makeRow 47 = .ok (.iload_n 1, 1) := by decide +kernel
theorem dX6_makeRow_48 : decode cX6_makeRow 48 = .ok (.aload_n 0, 1) := by decide +kernel
theorem dX6_makeRow_49 : decode cX6_makeRow 49 = .ok (.getfield 27, 3) := by decide +kernel
theorem dX6_makeRow_52 : decode cX6_makeRow 52 = .ok (.iload_n 1, 1) := by decide +kernel
theorem dX6_makeRow_53 : decode cX6_makeRow 53 = .ok (.iaload, 1) := by decide +kernel
theorem dX6_makeRow_54 : decode cX6_makeRow 54 = .ok (.iastore, 1) := by decide +kernel
theorem dX6_makeRow_55 : decode cX6_makeRow 55 = .ok (.aload_n 0, 1) := by decide +kernel
theorem dX6_makeRow_56 : decode cX6_makeRow 56 = .ok (.aload_n 0, 1) := by decide +kernel
theorem dX6_makeRow_57 : decode cX6_makeRow 57 = .ok (.getfield 27, 3) := by decide +kernel
theorem dX6_makeRow_60 : decode cX6_makeRow 60 = .ok (.iload_n 1, 1) := by decide +kernel
theorem dX6_makeRow_61 : decode cX6_makeRow 61 = .ok (.iaload, 1) := by decide +kernel
theorem dX6_makeRow_62 : decode cX6_makeRow 62 = .ok (.invokevirtual 89, 3) := by decide +kernel
theorem dX6_makeRow_65 : decode cX6_makeRow 65 = .ok (.iinc 1 1, 3) := by decide +kernel
theorem dX6_makeRow_68 : decode cX6_makeRow 68 = .ok (.goto (-33), 3) := by decide +kernel
theorem dX6_makeRow_71 : decode cX6_makeRow 71 = .ok (.aload_n 0, 1) := by decide +kernel
theorem dX6_makeRow_72 : decode cX6_makeRow 72 = .ok (.iconst 0, 1) := by decide +kernel
theorem dX6_makeRow_73 : decode cX6_makeRow 73 = .ok (.putfield 83, 3) := by decide +kernel
theorem dX6_makeRow_76 : decode cX6_makeRow 76 = .ok (.aload_n 0, 1) := by decide +kernel
theorem dX6_makeRow_77 : decode cX6_makeRow 77 = .ok (.iconst 0, 1) := by decide +kernel
theorem dX6_makeRow_78 : decode cX6_makeRow 78 = .ok (.putfield 72, 3) := by decide +kernel
theorem dX6_makeRow_81 : decode cX6_makeRow 81 = .ok (.aload_n 0, 1) := by decide +kernel
theorem dX6_makeRow_82 : decode cX6_makeRow 82 = .ok (.dup, 1) := by decide +kernel
theorem dX6_makeRow_83 : decode cX6_makeRow 83 = .ok (.getfield 92, 3) := by decide +kernel
theorem dX6_makeRow_86 : decode cX6_makeRow 86 = .ok (.aload_n 0, 1) := by decide +kernel
theorem dX6_makeRow_87 : decode cX6_makeRow 87 = .ok (.getfield 69, 3) := by decide +kernel
theorem dX6_makeRow_90 : decode cX6_makeRow 90 = .ok (.iadd, 1) := by decide +kernel
theorem dX6_makeRow_91 : decode cX6_makeRow 91 = .ok (.putfield 92, 3) := by decide +kernel
theorem dX6_makeRow_94 : decode cX6_makeRow 94 = .ok (.aload_n 0, 1) := by decide +kernel
theorem dX6_makeRow_95 : decode cX6_makeRow 95 = .ok (.invokevirtual 58, 3) := by decide +kernel
theorem dX6_makeRow_98 : decode cX6_makeRow 98 = .ok (.return_, 1) := by decide +kernel
set_option maxRecDepth 20000 in
theorem ggX6_put_X6_isNumber : GoodIn wsX6_put wsX6_isNumber := goodIn_r _ [9, 10, 11, 12, 8, 13] (by decide +kernel) (by decide +kernel)
set_option maxRecDepth 20000 in
theorem gX6_put_X6_isNumber : GoodIn wsX6_put (va_wsS RX6 95 yX6_isNumber wsX6_isNumber) := goodIn_app (goodIn_of _ (by decide +kernel)) ggX6_put_X6_isNumber
set_option maxRecDepth 20000 in
theorem ggX6_put_X6_isThere : GoodIn wsX6_put wsX6_isThere := goodIn_r _ [17, 18, 1, 19, 20, 21, 8, 22, 23, 2, 3, 24, 4, 5, 25, 26, 27, 28, 29, 30, 31, 83, 84, 85, 86, 87, 88, 89, 90, 91, 92, 93, 94, 95, 96, 97, 98, 99, 100, 101, 102, 103, 104, 105, 106, 107] (by decide +kernel) (by decide +kernel)
set_option maxRecDepth 20000 in
theorem gX6_put_X6_isThere : GoodIn wsX6_put (wsV RX6 99 RX6 yX6_isThere wsX6_isThere) := goodIn_app (goodIn_of _ (by decide +kernel)) ggX6_put_X6_isThere
set_option maxRecDepth 20000 in
theorem ggX6_put_X6_placeIn : GoodIn wsX6_put wsX6_placeIn := goodIn_r _ [27] (by decide +kernel) (by decide +kernel)
set_option maxRecDepth 20000 in
theorem gX6_put_X6_placeIn : GoodIn wsX6_put (va_wsS RX6 75 yX6_placeIn wsX6_placeIn) := goodIn_app (goodIn_of _ (by decide +kernel)) ggX6_put_X6_placeIn
set_option maxRecDepth 20000 in
theorem ggX6_put_X6_makeRow : GoodIn wsX6_put wsX6_makeRow := goodIn_r _ [35, 36, 1, 23, 24, 18, 4, 3, 37, 19, 20, 21, 8, 22, 2, 5, 25, 26, 27, 28, 29, 30, 31, 38, 39, 40, 41, 42, 43, 44, 45, 46, 47, 48, 49, 50, 51, 52, 53, 54, 55, 56, 57, 58, 59, 60, 61, 62, 63, 64, 65, 66, 67, 68, 69, 70, 71, 72, 73, 74, 75, 76, 77, 78, 79, 80, 81, 82, 83, 84, 85, 86, 87, 88, 89, 90, 91, 92, 93, 94, 95, 96, 97, 98, 99, 100, 101, 102, 103, 104, 105, 106, 107] (by decide +kernel) (by decide +kernel)
set_option maxRecDepth 20000 in
theorem gX6_put_X6_makeRow : GoodIn wsX6_put (wsV RX6 102 RX6 yX6_makeRow wsX6_makeRow) := goodIn_app (goodIn_of _ (by decide +kernel)) ggX6_put_X6_makeRow
set_option maxRecDepth 20000 in
theorem ggX6_put_X6_setBits : GoodIn wsX6_put wsX6_setBits := goodIn_r _ [41, 36, 83, 84, 85, 86, 87, 88, 89, 90, 91, 92, 93, 94, 95, 96, 97, 98, 99, 100, 101, 102, 103, 104, 105, 106, 107] (by decide +kernel) (by decide +kernel)
set_option maxRecDepth 20000 in
theorem gX6_put_X6_setBits : GoodIn wsX6_put (wsV RX6 89 RX6 yX6_setBits wsX6_setBits) := goodIn_app (goodIn_of _ (by decide +kernel)) ggX6_put_X6_setBits
set_option maxRecDepth 20000 in
theorem ggX6_put_X6_layNow : GoodIn wsX6_put wsX6_layNow := goodIn_r _ [22, 1, 23, 2, 3, 24, 4, 5, 25, 26, 8, 27, 28, 29, 30, 31, 18, 83, 84, 85, 86, 87, 88, 89, 90, 91, 92, 93, 94, 95, 96, 97, 98, 99, 100, 101, 102, 103, 104, 105, 106, 107] (by decide +kernel) (by decide +kernel)
set_option maxRecDepth 20000 in
theorem gX6_put_X6_layNow : GoodIn wsX6_put (wsV RX6 86 RX6 yX6_layNow wsX6_layNow) := goodIn_app (goodIn_of _ (by decide +kernel)) ggX6_put_X6_layNow
theorem dX6_put_0 : decode cX6_put 0 = .ok (.iload_n 1, 1) := by decide +kernel
theorem dX6_put_1 : decode cX6_put 1 = .ok (.invokestatic 95, 3) := by decide +kernel
theorem dX6_put_4 : decode cX6_put 4 = .ok (.ifCond .ne 6, 3) := by decide +kernel
theorem dX6_put_7 : decode cX6_put 7 = .ok (.bipush (-2), 2) := by decide +kernel
theorem dX6_put_9 : decode cX6_put 9 = .ok (.ireturn, 1) := by decide +kernel
theorem dX6_put_10 : decode cX6_put 10 = .ok (.aload_n 0, 1) := by decide +kernel
theorem dX6_put_11 : decode cX6_put 11 = .ok (.iload_n 1, 1) := by decide +kernel
theorem dX6_put_12 : decode cX6_put 12 = .ok (.invokevirtual 99, 3) := by decide +kernel
theorem dX6_put_15 : decode cX6_put 15 = .ok (.ifCond .eq 6, 3) := by decide +kernel
theorem dX6_put_18 : decode cX6_put 18 = .ok (.bipush (-3), 2) := by decide +kernel
theorem dX6_put_20 : decode cX6_put 20 = .ok (.ireturn, 1) := by decide +kernel
theorem dX6_put_21 : decode cX6_put 21 = .ok (.aload_n 0, 1) := by decide +kernel
theorem dX6_put_22 : decode cX6_put 22 = .ok (.getfield 66, 3) := by decide +kernel
theorem dX6_put_25 : decode cX6_put 25 = .ok (.bipush 60, 2) := by decide +kernel
theorem dX6_put_27 : decode cX6_put 27 = .ok (.if_icmp .ne 6, 3) := by decide +kernel
theorem dX6_put_30 : decode cX6_put 30 = .ok (.bipush (-4), 2) := by decide +kernel
theorem dX6_put_32 : decode cX6_put 32 = .ok (.ireturn, 1) := by decide +kernel
theorem dX6_put_33 : decode cX6_put 33 = .ok (.aload_n 0, 1) := by decide +kernel
theorem dX6_put_34 : decode cX6_put 34 = .ok (.getfield 20, 3) := by decide +kernel
theorem dX6_put_37 : decode cX6_put 37 = .ok (.aload_n 0, 1) := by decide +kernel
theorem dX6_put_38 : decode cX6_put 38 = .ok (.getfield 72, 3) := by decide +kernel
theorem dX6_put_41 : decode cX6_put 41 = .ok (.iload_n 1, 1) := by decide +kernel
theorem dX6_put_42 : decode cX6_put 42 = .ok (.invokestatic 75, 3) := by decide +kernel
theorem dX6_put_45 : decode cX6_put 45 = .ok (.istore_n 2, 1) := by decide +kernel
theorem dX6_put_46 : decode cX6_put 46 = .ok (.iload_n 2, 1) := by decide +kernel
theorem dX6_put_47 : decode cX6_put 47 = .ok (.iconst (-1), 1) := by decide +kernel
theorem dX6_put_48 : decode cX6_put 48 = .ok (.if_icmp .eq 31, 3) := by decide +kernel
theorem dX6_put_51 : decode cX6_put 51 = .ok (.aload_n 0, 1) := by decide +kernel
theorem dX6_put_52 : decode cX6_put 52 = .ok (.dup, 1) := by decide +kernel
theorem dX6_put_53 : decode cX6_put 53 = .ok (.getfield 72, 3) := by decide +kernel
theorem dX6_put_56 : decode cX6_put 56 = .ok (.iconst 1, 1) := by decide +kernel
theorem dX6_put_57 : decode cX6_put 57 = .ok (.isub, 1) := by decide +kernel
theorem dX6_put_58 : decode cX6_put 58 = .ok (.putfield 72, 3) := by decide +kernel
theorem dX6_put_61 : decode cX6_put 61 = .ok (.aload_n 0, 1) := by decide +kernel
theorem dX6_put_62 : decode cX6_put 62 = .ok (.getfield 20, 3) := by decide +kernel
theorem dX6_put_65 : decode cX6_put 65 = .ok (.iload_n 2, 1) := by decide +kernel
theorem dX6_put_66 : decode cX6_put 66 = .ok (.aload_n 0, 1) := by decide +kernel
theorem dX6_put_67 : decode cX6_put 67 = .ok (.getfield 20, 3) := by decide +kernel
theorem dX6_put_70 : decode cX6_put 70 = .ok (.aload_n 0, 1) := by decide +kernel
theorem dX6_put_71 : decode cX6_put 71 = .ok (.getfield 72, 3) := by decide +kernel
theorem dX6_put_74 : decode cX6_put 74 = .ok (.iaload, 1) := by decide +kernel
theorem dX6_put_75 : decode cX6_put 75 = .ok (.iastore, 1) := by decide +kernel
theorem dX6_put_76 : decode cX6_put 76 = .ok (.goto 41, 3) := by decide +kernel
theorem dX6_put_79 : decode cX6_put 79 = .ok (.aload_n 0, 1) := by decide +kernel
theorem dX6_put_80 : decode cX6_put 80 = .ok (.getfield 83, 3) := by decide +kernel
theorem dX6_put_83 : decode cX6_put 83 = .ok (.aload_n 0, 1) := by decide +kernel
theorem dX6_put_84 : decode cX6_put 84 = .ok (.getfield 72, 3) := by decide +kernel
theorem dX6_put_87 : decode cX6_put 87 = .ok (.iadd, 1) := by decide +kernel
theorem dX6_put_88 : decode cX6_put 88 = .ok (.bipush 8, 2) := by decide +kernel
theorem dX6_put_90 : decode cX6_put 90 = .ok (.if_icmp .ne 7, 3) := by decide +kernel
theorem dX6_put_93 : decode cX6_put 93 = .ok (.aload_n 0, 1) := by decide +kernel
theorem dX6_put_94 : decode cX6_put 94 = .ok (.invokevirtual 102, 3) := by decide +kernel
theorem dX6_put_97 : decode cX6_put 97 = .ok (.aload_n 0, 1) := by decide +kernel
theorem dX6_put_98 : decode cX6_put 98 = .ok (.getfield 17, 3) := by decide +kernel
theorem dX6_put_101 : decode cX6_put 101 = .ok (.aload_n 0, 1) := by decide +kernel
theorem dX6_put_102 : decode cX6_put 102 = .ok (.getfield 83, 3) := by decide +kernel
theorem dX6_put_105 : decode cX6_put 105 = .ok (.iload_n 1, 1) := by decide +kernel
theorem dX6_put_106 : decode cX6_put 106 = .ok (.iastore, 1) := by decide +kernel
theorem dX6_put_107 : decode cX6_put 107 = .ok (.aload_n 0, 1) := by decide +kernel
theorem dX6_put_108 : decode cX6_put 108 = .ok (.dup, 1) := by decide +kernel
theorem dX6_put_109 : decode cX6_put 109 = .ok (.getfield 83, 3) := by decide +kernel
theorem dX6_put_112 : decode cX6_put 112 = .ok (.iconst 1, 1) := by decide +kernel
theorem dX6_put_113 : decode cX6_put 113 = .ok (.iadd, 1) := by decide +kernel
theorem dX6_put_114 : decode cX6_put 114 = .ok (.putfield 83, 3) := by decide +kernel
theorem dX6_put_117 : decode cX6_put 117 = .ok (.aload_n 0, 1) := by decide +kernel
theorem dX6_put_118 : decode cX6_put 118 = .ok (.iload_n 1, 1) := by decide +kernel
theorem dX6_put_119 : decode cX6_put 119 = .ok (.invokevirtual 89, 3) := by decide +kernel
theorem dX6_put_122 : decode cX6_put 122 = .ok (.aload_n 0, 1) := by decide +kernel
theorem dX6_put_123 : decode cX6_put 123 = .ok (.invokevirtual 86, 3) := by decide +kernel
theorem dX6_put_126 : decode cX6_put 126 = .ok (.aload_n 0, 1) := by decide +kernel
theorem dX6_put_127 : decode cX6_put 127 = .ok (.getfield 66, 3) := by decide +kernel
theorem dX6_put_130 : decode cX6_put 130 = .ok (.ireturn, 1) := by decide +kernel
set_option maxRecDepth 20000 in
theorem ggX6_take_X6_isNumber : GoodIn wsX6_take wsX6_isNumber := goodIn_r _ [9, 10, 11, 12, 8, 13] (by decide +kernel) (by decide +kernel)
set_option maxRecDepth 20000 in
theorem gX6_take_X6_isNumber : GoodIn wsX6_take (va_wsS RX6 95 yX6_isNumber wsX6_isNumber) := goodIn_app (goodIn_of _ (by decide +kernel)) ggX6_take_X6_isNumber
set_option maxRecDepth 20000 in
theorem ggX6_take_X6_isThere : GoodIn wsX6_take wsX6_isThere := goodIn_r _ [17, 18, 5, 19, 20, 21, 8, 22, 23, 4, 3, 24, 2, 1, 25, 26, 27, 28, 29, 30, 31, 83, 84, 85, 86, 87, 88, 89, 90, 91, 92, 93, 94, 95, 96, 97, 98, 99, 100, 101, 102, 103, 104, 105, 106, 107] (by decide +kernel) (by decide +kernel)
set_option maxRecDepth 20000 in
theorem gX6_take_X6_isThere : GoodIn wsX6_take (wsV RX6 99 RX6 yX6_isThere wsX6_isThere) := goodIn_app (goodIn_of _ (by decide +kernel)) ggX6_take_X6_isThere
set_option maxRecDepth 20000 in
theorem ggX6_take_X6_placeIn : GoodIn wsX6_take wsX6_placeIn := goodIn_r _ [27] (by decide +kernel) (by decide +kernel)
set_option maxRecDepth 20000 in
theorem gX6_take_X6_placeIn : GoodIn wsX6_take (va_wsS RX6 75 yX6_placeIn wsX6_placeIn) := goodIn_app (goodIn_of _ (by decide +kernel)) ggX6_take_X6_placeIn
set_option maxRecDepth 20000 in
theorem ggX6_take_X6_makeRow : GoodIn wsX6_take wsX6_makeRow := goodIn_r _ [35, 36, 5, 23, 24, 18, 2, 3, 37, 19, 20, 21, 8, 22, 4, 1, 25, 26, 27, 28, 29, 30, 31, 38, 39, 40, 41, 42, 43, 44, 45, 46, 47, 48, 49, 50, 51, 52, 53, 54, 55, 56, 57, 58, 59, 60, 61, 62, 63, 64, 65, 66, 67, 68, 69, 70, 71, 72, 73, 74, 75, 76, 77, 78, 79, 80, 81, 82, 83, 84, 85, 86, 87, 88, 89, 90, 91, 92, 93, 94, 95, 96, 97, 98, 99, 100, 101, 102, 103, 104, 105, 106, 107] (by decide +kernel) (by decide +kernel)
set_option maxRecDepth 20000 in
theorem gX6_take_X6_makeRow : GoodIn wsX6_take (wsV RX6 102 RX6 yX6_makeRow wsX6_makeRow) := goodIn_app (goodIn_of _ (by decide +kernel)) ggX6_take_X6_makeRow
set_option maxRecDepth 20000 in
theorem ggX6_take_X6_layNow : GoodIn wsX6_take wsX6_layNow := goodIn_r _ [22, 5, 23, 4, 3, 24, 2, 1, 25, 26, 8, 27, 28, 29, 30, 31, 18, 83, 84, 85, 86, 87, 88, 89, 90, 91, 92, 93, 94, 95, 96, 97, 98, 99, 100, 101, 102, 103, 104, 105, 106, 107] (by decide +kernel) (by decide +kernel)
set_option maxRecDepth 20000 in
theorem gX6_take_X6_layNow : GoodIn wsX6_take (wsV RX6 86 RX6 yX6_layNow wsX6_layNow) := goodIn_app (goodIn_of _ (by decide +kernel)) ggX6_take_X6_layNow
theorem dX6_take_0 : decode cX6_take 0 = .ok (.iload_n 1, 1) := by decide +kernel
theorem dX6_take_1 : decode cX6_take 1 = .ok (.invokestatic 95, 3) := by decide +kernel
theorem dX6_take_4 : decode cX6_take 4 = .ok (.ifCond .ne 6, 3) := by decide +kernel
theorem dX6_take_7 : decode cX6_take 7 = .ok (.bipush (-2), 2) := by decide +kernel
theorem dX6_take_9 : decode cX6_take 9 = .ok (.ireturn, 1) := by decide +kernel
theorem dX6_take_10 : decode cX6_take 10 = .ok (.aload_n 0, 1) := by decide +kernel
theorem dX6_take_11 : decode cX6_take 11 = .ok (.iload_n 1, 1) := by decide +kernel
theorem dX6_take_12 : decode cX6_take 12 = .ok (.invokevirtual 99, 3) := by decide +kernel
theorem dX6_take_15 : decode cX6_take 15 = .ok (.ifCond .ne 6, 3) := by decide +kernel
theorem dX6_take_18 : decode cX6_take 18 = .ok (.bipush (-3), 2) := by decide +kernel
theorem dX6_take_20 : decode cX6_take 20 = .ok (.ireturn, 1) := by decide +kernel
theorem dX6_take_21 : decode cX6_take 21 = .ok (.aload_n 0, 1) := by decide +kernel
theorem dX6_take_22 : decode cX6_take 22 = .ok (.getfield 17, 3) := by decide +kernel
theorem dX6_take_25 : decode cX6_take 25 = .ok (.aload_n 0, 1) := by decide +kernel
theorem dX6_take_26 : decode cX6_take 26 = .ok (.getfield 83, 3) := by decide +kernel
theorem dX6_take_29 : decode cX6_take 29 = .ok (.iload_n 1, 1) := by decide +kernel
theorem dX6_take_30 : decode cX6_take 30 = .ok (.invokestatic 75, 3) := by decide +kernel
theorem dX6_take_33 : decode cX6_take 33 = .ok (.istore_n 2, 1) := by decide +kernel
theorem dX6_take_34 : decode cX6_take 34 = .ok (.iload_n 2, 1) := by decide +kernel
theorem dX6_take_35 : decode cX6_take 35 = .ok (.iconst (-1), 1) := by decide +kernel
