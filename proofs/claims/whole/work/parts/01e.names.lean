theorem dX5_init_0 : decode cX5_init 0 = .ok (.aload_n 0, 1) := by decide +kernel
theorem dX5_init_1 : decode cX5_init 1 = .ok (.invokespecial 1, 3) := by decide +kernel
theorem dX5_init_4 : decode cX5_init 4 = .ok (.aload_n 0, 1) := by decide +kernel
theorem dX5_init_5 : decode cX5_init 5 = .ok (.new 7, 3) := by decide +kernel
theorem dX5_init_8 : decode cX5_init 8 = .ok (.dup, 1) := by decide +kernel
theorem dX5_init_9 : decode cX5_init 9 = .ok (.invokespecial 9, 3) := by decide +kernel
theorem dX5_init_12 : decode cX5_init 12 = .ok (.putfield 10, 3) := by decide +kernel
theorem dX5_init_15 : decode cX5_init 15 = .ok (.aload_n 0, 1) := by decide +kernel
theorem dX5_init_16 : decode cX5_init 16 = .ok (.new 7, 3) := by decide +kernel
theorem dX5_init_19 : decode cX5_init 19 = .ok (.dup, 1) := by decide +kernel
theorem dX5_init_20 : decode cX5_init 20 = .ok (.invokespecial 9, 3) := by decide +kernel
theorem dX5_init_23 : decode cX5_init 23 = .ok (.putfield 16, 3) := by decide +kernel
theorem dX5_init_26 : decode cX5_init 26 = .ok (.aload_n 0, 1) := by decide +kernel
theorem dX5_init_27 : decode cX5_init 27 = .ok (.new 7, 3) := by decide +kernel
theorem dX5_init_30 : decode cX5_init 30 = .ok (.dup, 1) := by decide +kernel
theorem dX5_init_31 : decode cX5_init 31 = .ok (.invokespecial 9, 3) := by decide +kernel
theorem dX5_init_34 : decode cX5_init 34 = .ok (.putfield 19, 3) := by decide +kernel
theorem dX5_init_37 : decode cX5_init 37 = .ok (.aload_n 0, 1) := by decide +kernel
theorem dX5_init_38 : decode cX5_init 38 = .ok (.new 22, 3) := by decide +kernel
theorem dX5_init_41 : decode cX5_init 41 = .ok (.dup, 1) := by decide +kernel
theorem dX5_init_42 : decode cX5_init 42 = .ok (.invokespecial 24, 3) := by decide +kernel
theorem dX5_init_45 : decode cX5_init 45 = .ok (.putfield 25, 3) := by decide +kernel
theorem dX5_init_48 : decode cX5_init 48 = .ok (.aload_n 0, 1) := by decide +kernel
theorem dX5_init_49 : decode cX5_init 49 = .ok (.new 29, 3) := by decide +kernel
theorem dX5_init_52 : decode cX5_init 52 = .ok (.dup, 1) := by decide +kernel
theorem dX5_init_53 : decode cX5_init 53 = .ok (.invokespecial 31, 3) := by decide +kernel
theorem dX5_init_56 : decode cX5_init 56 = .ok (.putfield 32, 3) := by decide +kernel
theorem dX5_init_59 : decode cX5_init 59 = .ok (.aload_n 0, 1) := by decide +kernel
theorem dX5_init_60 : decode cX5_init 60 = .ok (.new 36, 3) := by decide +kernel
theorem dX5_init_63 : decode cX5_init 63 = .ok (.dup, 1) := by decide +kernel
theorem dX5_init_64 : decode cX5_init 64 = .ok (.invokespecial 38, 3) := by decide +kernel
theorem dX5_init_67 : decode cX5_init 67 = .ok (.putfield 39, 3) := by decide +kernel
theorem dX5_init_70 : decode cX5_init 70 = .ok (.aload_n 0, 1) := by decide +kernel
theorem dX5_init_71 : decode cX5_init 71 = .ok (.new 43, 3) := by decide +kernel
theorem dX5_init_74 : decode cX5_init 74 = .ok (.dup, 1) := by decide +kernel
theorem dX5_init_75 : decode cX5_init 75 = .ok (.invokespecial 45, 3) := by decide +kernel
theorem dX5_init_78 : decode cX5_init 78 = .ok (.putfield 46, 3) := by decide +kernel
theorem dX5_init_81 : decode cX5_init 81 = .ok (.aload_n 0, 1) := by decide +kernel
theorem dX5_init_82 : decode cX5_init 82 = .ok (.iconst 2, 1) := by decide +kernel
theorem dX5_init_83 : decode cX5_init 83 = .ok (.putfield 50, 3) := by decide +kernel
theorem dX5_init_86 : decode cX5_init 86 = .ok (.return_, 1) := by decide +kernel
set_option maxRecDepth 20000 in
theorem ggX5_put_X5_isNumber : GoodIn wsX5_put wsX5_isNumber := goodIn_r _ [9, 10] (by decide +kernel) (by decide +kernel)
set_option maxRecDepth 20000 in
theorem gX5_put_X5_isNumber : GoodIn wsX5_put (va_wsS RX5 54 yX5_isNumber wsX5_isNumber) := goodIn_app (goodIn_of _ (by decide +kernel)) ggX5_put_X5_isNumber
set_option maxRecDepth 20000 in
theorem ggX5_put_X2_has : GoodIn wsX5_put wsX2_has := goodIn_r _ [15, 16, 17, 18, 19, 20, 14, 21, 165, 166] (by decide +kernel) (by decide +kernel)
set_option maxRecDepth 20000 in
theorem gX5_put_X2_has : GoodIn wsX5_put (wsV RX5 58 RX2 yX2_has wsX2_has) := goodIn_app (goodIn_of _ (by decide +kernel)) ggX5_put_X2_has
set_option maxRecDepth 20000 in
theorem ggX5_put_X2_size : GoodIn wsX5_put wsX2_size := goodIn_r _ [25, 16, 165, 166] (by decide +kernel) (by decide +kernel)
set_option maxRecDepth 20000 in
theorem gX5_put_X2_size : GoodIn wsX5_put (wsV RX5 61 RX2 yX2_size wsX2_size) := goodIn_app (goodIn_of _ (by decide +kernel)) ggX5_put_X2_size
set_option maxRecDepth 20000 in
theorem ggX5_put_X5_clearAsideIfFull : GoodIn wsX5_put wsX5_clearAsideIfFull := goodIn_r _ [29, 4, 3, 30, 31, 32, 8, 33, 2, 1, 34, 5, 35, 36, 37, 38, 39, 40, 14, 41, 16, 42, 23, 24, 25, 43, 44, 45, 46, 17, 47, 48, 49, 50, 22, 51, 52, 53, 54, 55, 56, 57, 58, 59, 60, 61, 62, 63, 64, 65, 66, 67, 68, 69, 70, 71, 72, 73, 74, 75, 76, 77, 78, 79, 80, 81, 82, 83, 84, 85, 86, 87, 88, 89, 90, 91, 92, 93, 94, 95, 96, 97, 98, 99, 100, 101, 102, 103, 104, 105, 106, 107, 108, 109, 110, 111, 112, 113, 114, 115, 116, 117, 118, 119, 120, 121, 122, 123, 124, 125, 126, 127, 128, 129, 130, 131, 132, 133, 134, 135, 136, 137, 138, 139, 140, 141, 142, 143, 144, 145, 146, 147, 148, 154, 155, 156, 157, 158, 159, 160, 161, 162, 163, 164, 165, 166, 167, 168, 169, 170, 171, 172, 173, 174, 175, 176, 177, 178, 179, 180, 181] (by decide +kernel) (by decide +kernel)
set_option maxRecDepth 20000 in
theorem gX5_put_X5_clearAsideIfFull : GoodIn wsX5_put (wsV RX5 68 RX5 yX5_clearAsideIfFull wsX5_clearAsideIfFull) := goodIn_app (goodIn_of _ (by decide +kernel)) ggX5_put_X5_clearAsideIfFull
set_option maxRecDepth 20000 in
theorem ggX5_put_X2_add : GoodIn wsX5_put wsX2_add := goodIn_r _ [152, 16, 17, 153, 12, 13, 14, 15, 18, 19, 20, 21, 165, 166] (by decide +kernel) (by decide +kernel)
set_option maxRecDepth 20000 in
theorem gX5_put_X2_add : GoodIn wsX5_put (wsV RX5 74 RX2 yX2_add wsX2_add) := goodIn_app (goodIn_of _ (by decide +kernel)) ggX5_put_X2_add
set_option maxRecDepth 20000 in
theorem ggX5_put_X1_add : GoodIn wsX5_put wsX1_add := goodIn_r _ [61, 56, 62, 63, 54, 64, 167] (by decide +kernel) (by decide +kernel)
set_option maxRecDepth 20000 in
theorem gX5_put_X1_add : GoodIn wsX5_put (wsV RX5 78 RX1 yX1_add wsX1_add) := goodIn_app (goodIn_of _ (by decide +kernel)) ggX5_put_X1_add
theorem dX5_put_0 : decode cX5_put 0 = .ok (.iload_n 1, 1) := by decide +kernel
theorem dX5_put_1 : decode cX5_put 1 = .ok (.invokestatic 54, 3) := by decide +kernel
theorem dX5_put_4 : decode cX5_put 4 = .ok (.ifCond .ne 6, 3) := by decide +kernel
theorem dX5_put_7 : decode cX5_put 7 = .ok (.bipush (-2), 2) := by decide +kernel
theorem dX5_put_9 : decode cX5_put 9 = .ok (.ireturn, 1) := by decide +kernel
theorem dX5_put_10 : decode cX5_put 10 = .ok (.aload_n 0, 1) := by decide +kernel
theorem dX5_put_11 : decode cX5_put 11 = .ok (.getfield 10, 3) := by decide +kernel
theorem dX5_put_14 : decode cX5_put 14 = .ok (.iload_n 1, 1) := by decide +kernel
theorem dX5_put_15 : decode cX5_put 15 = .ok (.invokevirtual 58, 3) := by decide +kernel
theorem dX5_put_18 : decode cX5_put 18 = .ok (.ifCond .eq 6, 3) := by decide +kernel
theorem dX5_put_21 : decode cX5_put 21 = .ok (.bipush (-3), 2) := by decide +kernel
theorem dX5_put_23 : decode cX5_put 23 = .ok (.ireturn, 1) := by decide +kernel
theorem dX5_put_24 : decode cX5_put 24 = .ok (.aload_n 0, 1) := by decide +kernel
theorem dX5_put_25 : decode cX5_put 25 = .ok (.getfield 10, 3) := by decide +kernel
theorem dX5_put_28 : decode cX5_put 28 = .ok (.invokevirtual 61, 3) := by decide +kernel
theorem dX5_put_31 : decode cX5_put 31 = .ok (.bipush 60, 2) := by decide +kernel
theorem dX5_put_33 : decode cX5_put 33 = .ok (.if_icmp .lt 6, 3) := by decide +kernel
theorem dX5_put_36 : decode cX5_put 36 = .ok (.bipush (-4), 2) := by decide +kernel
theorem dX5_put_38 : decode cX5_put 38 = .ok (.ireturn, 1) := by decide +kernel
theorem dX5_put_39 : decode cX5_put 39 = .ok (.aload_n 0, 1) := by decide +kernel
theorem dX5_put_40 : decode cX5_put 40 = .ok (.getfield 16, 3) := by decide +kernel
theorem dX5_put_43 : decode cX5_put 43 = .ok (.iload_n 1, 1) := by decide +kernel
theorem dX5_put_44 : decode cX5_put 44 = .ok (.invokevirtual 58, 3) := by decide +kernel
theorem dX5_put_47 : decode cX5_put 47 = .ok (.ifCond .eq 16, 3) := by decide +kernel
theorem dX5_put_50 : decode cX5_put 50 = .ok (.aload_n 0, 1) := by decide +kernel
theorem dX5_put_51 : decode cX5_put 51 = .ok (.dup, 1) := by decide +kernel
theorem dX5_put_52 : decode cX5_put 52 = .ok (.getfield 65, 3) := by decide +kernel
theorem dX5_put_55 : decode cX5_put 55 = .ok (.iconst 1, 1) := by decide +kernel
theorem dX5_put_56 : decode cX5_put 56 = .ok (.isub, 1) := by decide +kernel
theorem dX5_put_57 : decode cX5_put 57 = .ok (.putfield 65, 3) := by decide +kernel
theorem dX5_put_60 : decode cX5_put 60 = .ok (.goto 17, 3) := by decide +kernel
theorem dX5_put_63 : decode cX5_put 63 = .ok (.aload_n 0, 1) := by decide +kernel
theorem dX5_put_64 : decode cX5_put 64 = .ok (.invokevirtual 68, 3) := by decide +kernel
theorem dX5_put_67 : decode cX5_put 67 = .ok (.aload_n 0, 1) := by decide +kernel
theorem dX5_put_68 : decode cX5_put 68 = .ok (.dup, 1) := by decide +kernel
theorem dX5_put_69 : decode cX5_put 69 = .ok (.getfield 71, 3) := by decide +kernel
theorem dX5_put_72 : decode cX5_put 72 = .ok (.iconst 1, 1) := by decide +kernel
theorem dX5_put_73 : decode cX5_put 73 = .ok (.iadd, 1) := by decide +kernel
theorem dX5_put_74 : decode cX5_put 74 = .ok (.putfield 71, 3) := by decide +kernel
theorem dX5_put_77 : decode cX5_put 77 = .ok (.aload_n 0, 1) := by decide +kernel
theorem dX5_put_78 : decode cX5_put 78 = .ok (.getfield 10, 3) := by decide +kernel
theorem dX5_put_81 : decode cX5_put 81 = .ok (.iload_n 1, 1) := by decide +kernel
theorem dX5_put_82 : decode cX5_put 82 = .ok (.invokevirtual 74, 3) := by decide +kernel
theorem dX5_put_85 : decode cX5_put 85 = .ok (.aload_n 0, 1) := by decide +kernel
theorem dX5_put_86 : decode cX5_put 86 = .ok (.getfield 39, 3) := by decide +kernel
theorem dX5_put_89 : decode cX5_put 89 = .ok (.iload_n 1, 1) := by decide +kernel
theorem dX5_put_90 : decode cX5_put 90 = .ok (.invokevirtual 78, 3) := by decide +kernel
theorem dX5_put_93 : decode cX5_put 93 = .ok (.aload_n 0, 1) := by decide +kernel
theorem dX5_put_94 : decode cX5_put 94 = .ok (.getfield 10, 3) := by decide +kernel
theorem dX5_put_97 : decode cX5_put 97 = .ok (.invokevirtual 61, 3) := by decide +kernel
theorem dX5_put_100 : decode cX5_put 100 = .ok (.ireturn, 1) := by decide +kernel
set_option maxRecDepth 20000 in
theorem ggX5_take_X5_isNumber : GoodIn wsX5_take wsX5_isNumber := goodIn_r _ [8, 9] (by decide +kernel) (by decide +kernel)
set_option maxRecDepth 20000 in
theorem gX5_take_X5_isNumber : GoodIn wsX5_take (va_wsS RX5 54 yX5_isNumber wsX5_isNumber) := goodIn_app (goodIn_of _ (by decide +kernel)) ggX5_take_X5_isNumber
set_option maxRecDepth 20000 in
theorem ggX5_take_X2_has : GoodIn wsX5_take wsX2_has := goodIn_r _ [14, 15, 16, 17, 18, 19, 13, 20, 165, 166] (by decide +kernel) (by decide +kernel)
set_option maxRecDepth 20000 in
theorem gX5_take_X2_has : GoodIn wsX5_take (wsV RX5 58 RX2 yX2_has wsX2_has) := goodIn_app (goodIn_of _ (by decide +kernel)) ggX5_take_X2_has
set_option maxRecDepth 20000 in
theorem ggX5_take_X5_clearAsideIfFull : GoodIn wsX5_take wsX5_clearAsideIfFull := goodIn_r _ [24, 4, 3, 25, 26, 27, 7, 28, 2, 1, 29, 30, 31, 32, 33, 34, 35, 36, 13, 37, 15, 38, 39, 40, 41, 42, 43, 44, 45, 16, 46, 47, 48, 49, 50, 51, 52, 53, 54, 55, 56, 57, 58, 59, 60, 61, 62, 63, 64, 65, 66, 67, 68, 69, 70, 71, 72, 73, 74, 75, 76, 77, 78, 79, 80, 81, 82, 83, 84, 85, 86, 87, 88, 89, 90, 91, 92, 93, 94, 95, 96, 97, 98, 99, 100, 101, 102, 103, 104, 105, 106, 107, 108, 109, 110, 111, 112, 113, 114, 115, 116, 117, 118, 119, 120, 121, 122, 123, 124, 125, 126, 127, 128, 129, 130, 131, 132, 133, 134, 135, 136, 137, 138, 139, 140, 141, 142, 143, 144, 145, 146, 147, 148, 154, 155, 156, 157, 158, 159, 160, 161, 162, 163, 164, 165, 166, 167, 168, 169, 170, 171, 172, 173, 174, 175, 176, 177, 178, 179, 180, 181] (by decide +kernel) (by decide +kernel)
set_option maxRecDepth 20000 in
theorem gX5_take_X5_clearAsideIfFull : GoodIn wsX5_take (wsV RX5 68 RX5 yX5_clearAsideIfFull wsX5_clearAsideIfFull) := goodIn_app (goodIn_of _ (by decide +kernel)) ggX5_take_X5_clearAsideIfFull
set_option maxRecDepth 20000 in
theorem ggX5_take_X2_drop : GoodIn wsX5_take wsX2_drop := goodIn_r _ [152, 15, 16, 153, 11, 12, 13, 14, 17, 18, 19, 20, 165, 166] (by decide +kernel) (by decide +kernel)
set_option maxRecDepth 20000 in
theorem gX5_take_X2_drop : GoodIn wsX5_take (wsV RX5 79 RX2 yX2_drop wsX2_drop) := goodIn_app (goodIn_of _ (by decide +kernel)) ggX5_take_X2_drop
set_option maxRecDepth 20000 in
theorem ggX5_take_X2_size : GoodIn wsX5_take wsX2_size := goodIn_r _ [41, 15, 165, 166] (by decide +kernel) (by decide +kernel)
set_option maxRecDepth 20000 in
theorem gX5_take_X2_size : GoodIn wsX5_take (wsV RX5 61 RX2 yX2_size wsX2_size) := goodIn_app (goodIn_of _ (by decide +kernel)) ggX5_take_X2_size
theorem dX5_take_0 : decode cX5_take 0 = .ok (.iload_n 1, 1) := by decide +kernel
theorem dX5_take_1 : decode cX5_take 1 = .ok (.invokestatic 54, 3) := by decide +kernel
theorem dX5_take_4 : decode cX5_take 4 = .ok (.ifCond .ne 6, 3) := by decide +kernel
theorem dX5_take_7 : decode cX5_take 7 = .ok (.bipush (-2), 2) := by decide +kernel
theorem dX5_take_9 : decode cX5_take 9 = .ok (.ireturn, 1) := by decide +kernel
theorem dX5_take_10 : decode cX5_take 10 = .ok (.aload_n 0, 1) := by decide +kernel
theorem dX5_take_11 : decode cX5_take 11 = .ok (.getfield 10, 3) := by decide +kernel
theorem dX5_take_14 : decode cX5_take 14 = .ok (.iload_n 1, 1) := by decide +kernel
theorem dX5_take_15 : decode cX5_take 15 = .ok (.invokevirtual 58, 3) := by decide +kernel
theorem dX5_take_18 : decode cX5_take 18 = .ok (.ifCond .ne 6, 3) := by decide +kernel
theorem dX5_take_21 : decode cX5_take 21 = .ok (.bipush (-3), 2) := by decide +kernel
theorem dX5_take_23 : decode cX5_take 23 = .ok (.ireturn, 1) := by decide +kernel
theorem dX5_take_24 : decode cX5_take 24 = .ok (.aload_n 0, 1) := by decide +kernel
theorem dX5_take_25 : decode cX5_take 25 = .ok (.getfield 16, 3) := by decide +kernel
theorem dX5_take_28 : decode cX5_take 28 = .ok (.iload_n 1, 1) := by decide +kernel
theorem dX5_take_29 : decode cX5_take 29 = .ok (.invokevirtual 58, 3) := by decide +kernel
theorem dX5_take_32 : decode cX5_take 32 = .ok (.ifCond .eq 20, 3) := by decide +kernel
theorem dX5_take_35 : decode cX5_take 35 = .ok (.aload_n 0, 1) := by decide +kernel
theorem dX5_take_36 : decode cX5_take 36 = .ok (.invokevirtual 68, 3) := by decide +kernel
theorem dX5_take_39 : decode cX5_take 39 = .ok (.aload_n 0, 1) := by decide +kernel
theorem dX5_take_40 : decode cX5_take 40 = .ok (.dup, 1) := by decide +kernel
theorem dX5_take_41 : decode cX5_take 41 = .ok (.getfield 65, 3) := by decide +kernel
theorem dX5_take_44 : decode cX5_take 44 = .ok (.iconst 1, 1) := by decide +kernel
theorem dX5_take_45 : decode cX5_take 45 = .ok (.iadd, 1) := by decide +kernel
theorem dX5_take_46 : decode cX5_take 46 = .ok (.putfield 65, 3) := by decide +kernel
theorem dX5_take_49 : decode cX5_take 49 = .ok (.goto 13, 3) := by decide +kernel
theorem dX5_take_52 : decode cX5_take 52 = .ok (.aload_n 0, 1) := by decide +kernel
theorem dX5_take_53 : decode cX5_take 53 = .ok (.dup, 1) := by decide +kernel
theorem dX5_take_54 : decode cX5_take 54 = .ok (.getfield 71, 3) := by decide +kernel
theorem dX5_take_57 : decode cX5_take 57 = .ok (.iconst 1, 1) := by decide +kernel
theorem dX5_take_58 : decode cX5_take 58 = .ok (.isub, 1) := by decide +kernel
theorem dX5_take_59 : decode cX5_take 59 = .ok (.putfield 71, 3) := by decide +kernel
theorem dX5_take_62 : decode cX5_take 62 = .ok (.aload_n 0, 1) := by decide +kernel
theorem dX5_take_63 : decode cX5_take 63 = .ok (.getfield 10, 3) := by decide +kernel
theorem dX5_take_66 : decode cX5_take 66 = .ok (.iload_n 1, 1) := by decide +kernel
theorem dX5_take_67 : decode cX5_take 67 = .ok (.invokevirtual 79, 3) := by decide +kernel
theorem dX5_take_70 : decode cX5_take 70 = .ok (.aload_n 0, 1) := by decide +kernel
theorem dX5_take_71 : decode cX5_take 71 = .ok (.getfield 10, 3) := by decide +kernel
theorem dX5_take_74 : decode cX5_take 74 = .ok (.invokevirtual 61, 3) := by decide +kernel
theorem dX5_take_77 : decode cX5_take 77 = .ok (.ireturn, 1) := by decide +kernel
set_option maxRecDepth 20000 in
theorem ggX5_make_X5_makeRow : GoodIn wsX5_make wsX5_makeRow := goodIn_r _ [6, 7, 8, 9, 10, 1, 11, 12, 13, 14, 15, 16, 17, 18, 19, 20, 21, 22, 23, 24, 25, 26, 27, 28, 29, 30, 31, 32, 33, 34, 35, 36, 37, 38, 39, 40, 41, 42, 43, 44, 45, 46, 47, 48, 49, 50, 51, 52, 53, 54, 55, 56, 57, 58, 59, 60, 61, 62, 63, 64, 65, 66, 67, 68, 69, 70, 71, 72, 73, 74, 75, 76, 77, 78, 79, 80, 81, 82, 83, 84, 85, 86, 87, 88, 89, 90, 91, 92, 93, 94, 95, 96, 97, 98, 99, 100, 101, 102, 103, 104, 105, 106, 107, 108, 109, 110, 111, 112, 113, 114, 115, 116, 117, 118, 119, 120, 121, 122, 123, 124, 125, 126, 127, 128, 129, 130, 131, 132, 133, 134, 135, 136, 137, 138, 139, 140, 141, 142, 143, 144, 145, 146, 147, 148, 149, 150, 151, 152, 153, 154, 155, 156, 157, 158, 159, 160] (by decide +kernel) (by decide +kernel)
set_option maxRecDepth 20000 in
theorem gX5_make_X5_makeRow : GoodIn wsX5_make (wsV RX5 82 RX5 yX5_makeRow wsX5_makeRow) := goodIn_app (goodIn_of _ (by decide +kernel)) ggX5_make_X5_makeRow
theorem dX5_make_0 : decode cX5_make 0 = .ok (.aload_n 0, 1) := by decide +kernel
theorem dX5_make_1 : decode cX5_make 1 = .ok (.invokevirtual 82, 3) := by decide +kernel
theorem dX5_make_4 : decode cX5_make 4 = .ok (.aload_n 0, 1) := by decide +kernel
theorem dX5_make_5 : decode cX5_make 5 = .ok (.getfield 85, 3) := by decide +kernel
theorem dX5_make_8 : decode cX5_make 8 = .ok (.ireturn, 1) := by decide +kernel
set_option maxRecDepth 20000 in
theorem ggX5_slack_X5_makeRow : GoodIn wsX5_slack wsX5_makeRow := goodIn_r _ [6, 7, 8, 9, 10, 11, 12, 13, 14, 1, 15, 16, 17, 18, 19, 20, 21, 22, 23, 24, 25, 26, 27, 28, 29, 30, 31, 32, 33, 34, 35, 36, 37, 38, 39, 40, 41, 42, 43, 44, 45, 46, 47, 48, 49, 50, 51, 52, 53, 54, 55, 56, 57, 58, 59, 60, 61, 62, 63, 64, 65, 66, 67, 68, 69, 70, 71, 72, 73, 74, 75, 76, 77, 78, 79, 80, 81, 82, 83, 84, 85, 86, 87, 88, 89, 90, 91, 92, 93, 94, 95, 96, 97, 98, 99, 100, 101, 102, 103, 104, 105, 106, 107, 108, 109, 110, 111, 112, 113, 114, 115, 116, 117, 118, 119, 120, 121, 122, 123, 124, 125, 126, 127, 128, 129, 130, 131, 132, 133, 134, 135, 136, 137, 138, 139, 140, 141, 142, 143, 144, 145, 146, 147, 148, 149, 150, 151, 152, 153, 154, 155, 156, 157, 158, 159, 160] (by decide +kernel) (by decide +kernel)
set_option maxRecDepth 20000 in
theorem gX5_slack_X5_makeRow : GoodIn wsX5_slack (wsV RX5 82 RX5 yX5_makeRow wsX5_makeRow) := goodIn_app (goodIn_of _ (by decide +kernel)) ggX5_slack_X5_makeRow
theorem dX5_slack_0 : decode cX5_slack 0 = .ok (.iload_n 1, 1) := by decide +kernel
theorem dX5_slack_1 : decode cX5_slack 1 = .ok (.ifCond .lt 9, 3) := by decide +kernel
theorem dX5_slack_4 : decode cX5_slack 4 = .ok (.iload_n 1, 1) := by decide +kernel
theorem dX5_slack_5 : decode cX5_slack 5 = .ok (.bipush 8, 2) := by decide +kernel
theorem dX5_slack_7 : decode cX5_slack 7 = .ok (.if_icmp .le 6, 3) := by decide +kernel
theorem dX5_slack_10 : decode cX5_slack 10 = .ok (.bipush (-2), 2) := by decide +kernel
theorem dX5_slack_12 : decode cX5_slack 12 = .ok (.ireturn, 1) := by decide +kernel
theorem dX5_slack_13 : decode cX5_slack 13 = .ok (.aload_n 0, 1) := by decide +kernel
theorem dX5_slack_14 : decode cX5_slack 14 = .ok (.getfield 50, 3) := by decide +kernel
theorem dX5_slack_17 : decode cX5_slack 17 = .ok (.istore_n 2, 1) := by decide +kernel
theorem dX5_slack_18 : decode cX5_slack 18 = .ok (.aload_n 0, 1) := by decide +kernel
theorem dX5_slack_19 : decode cX5_slack 19 = .ok (.iload_n 1, 1) := by decide +kernel
theorem dX5_slack_20 : decode cX5_slack 20 = .ok (.putfield 50, 3) := by decide +kernel
theorem dX5_slack_23 : decode cX5_slack 23 = .ok (.aload_n 0, 1) := by decide +kernel
theorem dX5_slack_24 : decode cX5_slack 24 = .ok (.invokevirtual 82, 3) := by decide +kernel
theorem dX5_slack_27 : decode cX5_slack 27 = .ok (.iload_n 2, 1) := by decide +kernel
theorem dX5_slack_28 : decode cX5_slack 28 = .ok (.ireturn, 1) := by decide +kernel
set_option maxRecDepth 20000 in
theorem ggX5_place_X5_isNumber : GoodIn wsX5_place wsX5_isNumber := goodIn_r _ [5, 6] (by decide +kernel) (by decide +kernel)
set_option maxRecDepth 20000 in
theorem gX5_place_X5_isNumber : GoodIn wsX5_place (va_wsS RX5 54 yX5_isNumber wsX5_isNumber) := goodIn_app (goodIn_of _ (by decide +kernel)) ggX5_place_X5_isNumber
set_option maxRecDepth 20000 in
theorem ggX5_place_X2_has : GoodIn wsX5_place wsX2_has := goodIn_r _ [11, 12, 13, 14, 15, 16, 10, 17, 30, 31] (by decide +kernel) (by decide +kernel)
set_option maxRecDepth 20000 in
theorem gX5_place_X2_has : GoodIn wsX5_place (wsV RX5 58 RX2 yX2_has wsX2_has) := goodIn_app (goodIn_of _ (by decide +kernel)) ggX5_place_X2_has
set_option maxRecDepth 20000 in
theorem ggX5_place_X2_below : GoodIn wsX5_place wsX2_below := goodIn_r _ [17, 12, 13, 30, 31] (by decide +kernel) (by decide +kernel)
set_option maxRecDepth 20000 in
theorem gX5_place_X2_below : GoodIn wsX5_place (wsV RX5 88 RX2 yX2_below wsX2_below) := goodIn_app (goodIn_of _ (by decide +kernel)) ggX5_place_X2_below
theorem dX5_place_0 : decode cX5_place 0 = .ok (.iload_n 1, 1) := by decide +kernel
theorem dX5_place_1 : decode cX5_place 1 = .ok (.invokestatic 54, 3) := by decide +kernel
theorem dX5_place_4 : decode cX5_place 4 = .ok (.ifCond .ne 6, 3) := by decide +kernel
theorem dX5_place_7 : decode cX5_place 7 = .ok (.bipush (-2), 2) := by decide +kernel
theorem dX5_place_9 : decode cX5_place 9 = .ok (.ireturn, 1) := by decide +kernel
theorem dX5_place_10 : decode cX5_place 10 = .ok (.aload_n 0, 1) := by decide +kernel
theorem dX5_place_11 : decode cX5_place 11 = .ok (.getfield 10, 3) := by decide +kernel
theorem dX5_place_14 : decode cX5_place 14 = .ok (.iload_n 1, 1) := by decide +kernel
theorem dX5_place_15 : decode cX5_place 15 = .ok (.invokevirtual 58, 3) := by decide +kernel
theorem dX5_place_18 : decode cX5_place 18 = .ok (.ifCond .eq 14, 3) := by decide +kernel
theorem dX5_place_21 : decode cX5_place 21 = .ok (.aload_n 0, 1) := by decide +kernel
theorem dX5_place_22 : decode cX5_place 22 = .ok (.getfield 10, 3) := by decide +kernel
theorem dX5_place_25 : decode cX5_place 25 = .ok (.iload_n 1, 1) := by decide +kernel
theorem dX5_place_26 : decode cX5_place 26 = .ok (.invokevirtual 88, 3) := by decide +kernel
theorem dX5_place_29 : decode cX5_place 29 = .ok (.goto 4, 3) := by decide +kernel
theorem dX5_place_32 : decode cX5_place 32 = .ok (.iconst (-1), 1) := by decide +kernel
theorem dX5_place_33 : decode cX5_place 33 = .ok (.ireturn, 1) := by decide +kernel
set_option maxRecDepth 20000 in
theorem ggX5_at_X2_size : GoodIn wsX5_at wsX2_size := goodIn_r _ [6, 7, 24, 25] (by decide +kernel) (by decide +kernel)
set_option maxRecDepth 20000 in
theorem gX5_at_X2_size : GoodIn wsX5_at (wsV RX5 61 RX2 yX2_size wsX2_size) := goodIn_app (goodIn_of _ (by decide +kernel)) ggX5_at_X2_size
set_option maxRecDepth 20000 in
theorem ggX5_at_X2_key : GoodIn wsX5_at wsX2_key := goodIn_r _ [11, 7, 12, 24, 25] (by decide +kernel) (by decide +kernel)
set_option maxRecDepth 20000 in
theorem gX5_at_X2_key : GoodIn wsX5_at (wsV RX5 92 RX2 yX2_key wsX2_key) := goodIn_app (goodIn_of _ (by decide +kernel)) ggX5_at_X2_key
theorem dX5_at_0 : decode cX5_at 0 = .ok (.iload_n 1, 1) := by decide +kernel
theorem dX5_at_1 : decode cX5_at 1 = .ok (.ifCond .lt 14, 3) := by decide +kernel
theorem dX5_at_4 : decode cX5_at 4 = .ok (.iload_n 1, 1) := by decide +kernel
theorem dX5_at_5 : decode cX5_at 5 = .ok (.aload_n 0, 1) := by decide +kernel
theorem dX5_at_6 : decode cX5_at 6 = .ok (.getfield 10, 3) := by decide +kernel
theorem dX5_at_9 : decode cX5_at 9 = .ok (.invokevirtual 61, 3) := by decide +kernel
theorem dX5_at_12 : decode cX5_at 12 = .ok (.if_icmp .lt 6, 3) := by decide +kernel
theorem dX5_at_15 : decode cX5_at 15 = .ok (.bipush (-2), 2) := by decide +kernel
theorem dX5_at_17 : decode cX5_at 17 = .ok (.ireturn, 1) := by decide +kernel
theorem dX5_at_18 : decode cX5_at 18 = .ok (.aload_n 0, 1) := by decide +kernel
theorem dX5_at_19 : decode cX5_at 19 = .ok (.getfield 10, 3) := by decide +kernel
theorem dX5_at_22 : decode cX5_at 22 = .ok (.iload_n 1, 1) := by decide +kernel
theorem dX5_at_23 : decode cX5_at 23 = .ok (.invokevirtual 92, 3) := by decide +kernel
theorem dX5_at_26 : decode cX5_at 26 = .ok (.ireturn, 1) := by decide +kernel
set_option maxRecDepth 20000 in
theorem ggX5_range_X5_isSpan : GoodIn wsX5_range wsX5_isSpan := goodIn_r _ [6, 7, 8, 5, 9, 1] (by decide +kernel) (by decide +kernel)
set_option maxRecDepth 20000 in
theorem gX5_range_X5_isSpan : GoodIn wsX5_range (va_wsS RX5 96 yX5_isSpan wsX5_isSpan) := goodIn_app (goodIn_of _ (by decide +kernel)) ggX5_range_X5_isSpan
set_option maxRecDepth 20000 in
theorem ggX5_range_X2_within : GoodIn wsX5_range wsX2_within := goodIn_r _ [14, 15, 16, 17, 13, 18, 19, 20, 32, 33] (by decide +kernel) (by decide +kernel)
set_option maxRecDepth 20000 in
theorem gX5_range_X2_within : GoodIn wsX5_range (wsV RX5 100 RX2 yX2_within wsX2_within) := goodIn_app (goodIn_of _ (by decide +kernel)) ggX5_range_X2_within
theorem dX5_range_0 : decode cX5_range 0 = .ok (.iload_n 1, 1) := by decide +kernel
theorem dX5_range_1 : decode cX5_range 1 = .ok (.iload_n 2, 1) := by decide +kernel
theorem dX5_range_2 : decode cX5_range 2 = .ok (.ldc 95, 2) := by decide +kernel
theorem dX5_range_4 : decode cX5_range 4 = .ok (.invokestatic 96, 3) := by decide +kernel
theorem dX5_range_7 : decode cX5_range 7 = .ok (.ifCond .ne 6, 3) := by decide +kernel
theorem dX5_range_10 : decode cX5_range 10 = .ok (.bipush (-2), 2) := by decide +kernel
theorem dX5_range_12 : decode cX5_range 12 = .ok (.ireturn, 1) := by decide +kernel
theorem dX5_range_13 : decode cX5_range 13 = .ok (.aload_n 0, 1) := by decide +kernel
theorem dX5_range_14 : decode cX5_range 14 = .ok (.getfield 10, 3) := by decide +kernel
theorem dX5_range_17 : decode cX5_range 17 = .ok (.iload_n 1, 1) := by decide +kernel
theorem dX5_range_18 : decode cX5_range 18 = .ok (.iload_n 2, 1) := by decide +kernel
theorem dX5_range_19 : decode cX5_range 19 = .ok (.invokevirtual 100, 3) := by decide +kernel
theorem dX5_range_22 : decode cX5_range 22 = .ok (.ireturn, 1) := by decide +kernel
set_option maxRecDepth 20000 in
theorem ggX5_sum_X5_isSpan : GoodIn wsX5_sum wsX5_isSpan := goodIn_r _ [7, 8, 9, 6, 10, 1] (by decide +kernel) (by decide +kernel)
set_option maxRecDepth 20000 in
theorem gX5_sum_X5_isSpan : GoodIn wsX5_sum (va_wsS RX5 96 yX5_isSpan wsX5_isSpan) := goodIn_app (goodIn_of _ (by decide +kernel)) ggX5_sum_X5_isSpan
set_option maxRecDepth 20000 in
theorem ggX5_sum_X2_total : GoodIn wsX5_sum wsX2_total := goodIn_r _ [15, 16, 17, 18, 14, 19, 20, 21, 22, 23, 24, 25, 37, 38] (by decide +kernel) (by decide +kernel)
set_option maxRecDepth 20000 in
theorem gX5_sum_X2_total : GoodIn wsX5_sum (wsV RX5 106 RX2 yX2_total wsX2_total) := goodIn_app (goodIn_of _ (by decide +kernel)) ggX5_sum_X2_total
theorem dX5_sum_0 : decode cX5_sum 0 = .ok (.iload_n 1, 1) := by decide +kernel
theorem dX5_sum_1 : decode cX5_sum 1 = .ok (.iload_n 2, 1) := by decide +kernel
theorem dX5_sum_2 : decode cX5_sum 2 = .ok (.ldc 95, 2) := by decide +kernel
theorem dX5_sum_4 : decode cX5_sum 4 = .ok (.invokestatic 96, 3) := by decide +kernel
theorem dX5_sum_7 : decode cX5_sum 7 = .ok (.ifCond .ne 7, 3) := by decide +kernel
theorem dX5_sum_10 : decode cX5_sum 10 = .ok (.ldc2_w 104, 3) := by decide +kernel
theorem dX5_sum_13 : decode cX5_sum 13 = .ok (.lreturn, 1) := by decide +kernel
theorem dX5_sum_14 : decode cX5_sum 14 = .ok (.aload_n 0, 1) := by decide +kernel
theorem dX5_sum_15 : decode cX5_sum 15 = .ok (.getfield 10, 3) := by decide +kernel
theorem dX5_sum_18 : decode cX5_sum 18 = .ok (.iload_n 1, 1) := by decide +kernel
theorem dX5_sum_19 : decode cX5_sum 19 = .ok (.iload_n 2, 1) := by decide +kernel
theorem dX5_sum_20 : decode cX5_sum 20 = .ok (.invokevirtual 106, 3) := by decide +kernel
theorem dX5_sum_23 : decode cX5_sum 23 = .ok (.lreturn, 1) := by decide +kernel
set_option maxRecDepth 20000 in
theorem ggX5_pieces_X4_width : GoodIn wsX5_pieces wsX4_width := goodIn_r _ [6, 7, 8, 20, 21, 22, 23, 24, 25, 26, 27, 28] (by decide +kernel) (by decide +kernel)
set_option maxRecDepth 20000 in
theorem gX5_pieces_X4_width : GoodIn wsX5_pieces (wsV RX5 110 RX4 yX4_width wsX4_width) := goodIn_app (goodIn_of _ (by decide +kernel)) ggX5_pieces_X4_width
theorem dX5_pieces_0 : decode cX5_pieces 0 = .ok (.iload_n 1, 1) := by decide +kernel
theorem dX5_pieces_1 : decode cX5_pieces 1 = .ok (.ifCond .lt 9, 3) := by decide +kernel
theorem dX5_pieces_4 : decode cX5_pieces 4 = .ok (.iload_n 1, 1) := by decide +kernel
theorem dX5_pieces_5 : decode cX5_pieces 5 = .ok (.bipush 10, 2) := by decide +kernel
theorem dX5_pieces_7 : decode cX5_pieces 7 = .ok (.if_icmp .lt 6, 3) := by decide +kernel
theorem dX5_pieces_10 : decode cX5_pieces 10 = .ok (.bipush (-2), 2) := by decide +kernel
theorem dX5_pieces_12 : decode cX5_pieces 12 = .ok (.ireturn, 1) := by decide +kernel
theorem dX5_pieces_13 : decode cX5_pieces 13 = .ok (.aload_n 0, 1) := by decide +kernel
theorem dX5_pieces_14 : decode cX5_pieces 14 = .ok (.getfield 32, 3) := by decide +kernel
theorem dX5_pieces_17 : decode cX5_pieces 17 = .ok (.iload_n 1, 1) := by decide +kernel
theorem dX5_pieces_18 : decode cX5_pieces 18 = .ok (.invokevirtual 110, 3) := by decide +kernel
theorem dX5_pieces_21 : decode cX5_pieces 21 = .ok (.ireturn, 1) := by decide +kernel
set_option maxRecDepth 20000 in
theorem ggX5_piece_X4_tell : GoodIn wsX5_piece wsX4_tell := goodIn_r _ [6, 7, 8, 9, 10, 11, 12, 13, 14, 15, 5, 16, 17, 18, 19, 20, 21, 22, 34, 35, 36, 37, 38, 39, 40, 41, 42] (by decide +kernel) (by decide +kernel)
set_option maxRecDepth 20000 in
theorem gX5_piece_X4_tell : GoodIn wsX5_piece (wsV RX5 113 RX4 yX4_tell wsX4_tell) := goodIn_app (goodIn_of _ (by decide +kernel)) ggX5_piece_X4_tell
theorem dX5_piece_0 : decode cX5_piece 0 = .ok (.aload_n 0, 1) := by decide +kernel
theorem dX5_piece_1 : decode cX5_piece 1 = .ok (.getfield 32, 3) := by decide +kernel
theorem dX5_piece_4 : decode cX5_piece 4 = .ok (.iload_n 1, 1) := by decide +kernel
theorem dX5_piece_5 : decode cX5_piece 5 = .ok (.iload_n 2, 1) := by decide +kernel
theorem dX5_piece_6 : decode cX5_piece 6 = .ok (.iload_n 3, 1) := by decide +kernel
theorem dX5_piece_7 : decode cX5_piece 7 = .ok (.invokevirtual 113, 3) := by decide +kernel
theorem dX5_piece_10 : decode cX5_piece 10 = .ok (.ireturn, 1) := by decide +kernel
set_option maxRecDepth 20000 in
theorem ggX5_levels_X4_height : GoodIn wsX5_levels wsX4_height := goodIn_r _ [6, 7, 19, 20, 21, 22, 23, 24, 25, 26, 27] (by decide +kernel) (by decide +kernel)
set_option maxRecDepth 20000 in
theorem gX5_levels_X4_height : GoodIn wsX5_levels (wsV RX5 117 RX4 yX4_height wsX4_height) := goodIn_app (goodIn_of _ (by decide +kernel)) ggX5_levels_X4_height
theorem dX5_levels_0 : decode cX5_levels 0 = .ok (.aload_n 0, 1) := by decide +kernel
theorem dX5_levels_1 : decode cX5_levels 1 = .ok (.getfield 32, 3) := by decide +kernel
theorem dX5_levels_4 : decode cX5_levels 4 = .ok (.invokevirtual 117, 3) := by decide +kernel
theorem dX5_levels_7 : decode cX5_levels 7 = .ok (.ireturn, 1) := by decide +kernel
set_option maxRecDepth 20000 in
theorem ggX5_guess_X5_isNumber : GoodIn wsX5_guess wsX5_isNumber := goodIn_r _ [5, 6] (by decide +kernel) (by decide +kernel)
set_option maxRecDepth 20000 in
theorem gX5_guess_X5_isNumber : GoodIn wsX5_guess (va_wsS RX5 54 yX5_isNumber wsX5_isNumber) := goodIn_app (goodIn_of _ (by decide +kernel)) ggX5_guess_X5_isNumber
set_option maxRecDepth 20000 in
theorem ggX5_guess_X4_height : GoodIn wsX5_guess wsX4_height := goodIn_r _ [11, 12, 58, 59, 60, 61, 62, 63, 64, 65, 66] (by decide +kernel) (by decide +kernel)
set_option maxRecDepth 20000 in
theorem gX5_guess_X4_height : GoodIn wsX5_guess (wsV RX5 117 RX4 yX4_height wsX4_height) := goodIn_app (goodIn_of _ (by decide +kernel)) ggX5_guess_X4_height
set_option maxRecDepth 20000 in
theorem ggX5_guess_X4_pieceFor : GoodIn wsX5_guess wsX4_pieceFor := goodIn_r _ [16, 17, 18, 19, 20, 10, 21, 12, 22, 23, 24, 25, 26, 27, 58, 59, 60, 61, 62, 63, 64, 65, 66] (by decide +kernel) (by decide +kernel)
set_option maxRecDepth 20000 in
theorem gX5_guess_X4_pieceFor : GoodIn wsX5_guess (wsV RX5 120 RX4 yX4_pieceFor wsX4_pieceFor) := goodIn_app (goodIn_of _ (by decide +kernel)) ggX5_guess_X4_pieceFor
set_option maxRecDepth 20000 in
theorem ggX5_guess_X4_rankBy : GoodIn wsX5_guess wsX4_rankBy := goodIn_r _ [31, 32, 33, 17, 34, 35, 36, 37, 38, 39, 40, 41, 42, 23, 24, 25, 10, 26, 27, 43, 44, 45, 46, 58, 59, 60, 61, 62, 63, 64, 65, 66] (by decide +kernel) (by decide +kernel)
set_option maxRecDepth 20000 in
theorem gX5_guess_X4_rankBy : GoodIn wsX5_guess (wsV RX5 123 RX4 yX4_rankBy wsX4_rankBy) := goodIn_app (goodIn_of _ (by decide +kernel)) ggX5_guess_X4_rankBy
theorem dX5_guess_0 : decode cX5_guess 0 = .ok (.iload_n 1, 1) := by decide +kernel
theorem dX5_guess_1 : decode cX5_guess 1 = .ok (.invokestatic 54, 3) := by decide +kernel
theorem dX5_guess_4 : decode cX5_guess 4 = .ok (.ifCond .ne 6, 3) := by decide +kernel
theorem dX5_guess_7 : decode cX5_guess 7 = .ok (.bipush (-2), 2) := by decide +kernel
theorem dX5_guess_9 : decode cX5_guess 9 = .ok (.ireturn, 1) := by decide +kernel
theorem dX5_guess_10 : decode cX5_guess 10 = .ok (.aload_n 0, 1) := by decide +kernel
theorem dX5_guess_11 : decode cX5_guess 11 = .ok (.getfield 32, 3) := by decide +kernel
theorem dX5_guess_14 : decode cX5_guess 14 = .ok (.invokevirtual 117, 3) := by decide +kernel
theorem dX5_guess_17 : decode cX5_guess 17 = .ok (.ifCond .ne 7, 3) := by decide +kernel
theorem dX5_guess_20 : decode cX5_guess 20 = .ok (.iconst (-1), 1) := by decide +kernel
theorem dX5_guess_21 : decode cX5_guess 21 = .ok (.goto 19, 3) := by decide +kernel
theorem dX5_guess_24 : decode cX5_guess 24 = .ok (.aload_n 0, 1) := by decide +kernel
theorem dX5_guess_25 : decode cX5_guess 25 = .ok (.getfield 32, 3) := by decide +kernel
theorem dX5_guess_28 : decode cX5_guess 28 = .ok (.aload_n 0, 1) := by decide +kernel
theorem dX5_guess_29 : decode cX5_guess 29 = .ok (.getfield 32, 3) := by decide +kernel
theorem dX5_guess_32 : decode cX5_guess 32 = .ok (.iload_n 1, 1) := by decide +kernel
theorem dX5_guess_33 : decode cX5_guess 33 = .ok (.invokevirtual 120, 3) := by decide +kernel
theorem dX5_guess_36 : decode cX5_guess 36 = .ok (.iload_n 1, 1) := by decide +kernel
theorem dX5_guess_37 : decode cX5_guess 37 = .ok (.invokevirtual 123, 3) := by decide +kernel
theorem dX5_guess_40 : decode cX5_guess 40 = .ok (.ireturn, 1) := by decide +kernel
set_option maxRecDepth 20000 in
theorem ggX5_find_X5_isNumber : GoodIn wsX5_find wsX5_isNumber := goodIn_r _ [8, 9] (by decide +kernel) (by decide +kernel)
set_option maxRecDepth 20000 in
theorem gX5_find_X5_isNumber : GoodIn wsX5_find (va_wsS RX5 54 yX5_isNumber wsX5_isNumber) := goodIn_app (goodIn_of _ (by decide +kernel)) ggX5_find_X5_isNumber
set_option maxRecDepth 20000 in
theorem ggX5_find_X3_run : GoodIn wsX5_find wsX3_run := goodIn_r _ [14, 15, 16, 17, 18, 19, 20, 21, 22, 23, 24, 25, 26, 27, 28, 29, 30, 31, 32, 33, 34, 35, 36, 37, 38, 39, 40, 41, 42, 43, 44, 45, 46, 47, 48, 49, 50, 51, 52, 53, 54, 55, 56, 57, 58, 13, 59, 60, 61, 62, 63, 64, 65, 66, 67, 68, 69, 70, 71, 72, 73, 74, 90, 91, 92, 93, 94, 95, 96, 97, 98, 99, 100, 101, 102] (by decide +kernel) (by decide +kernel)
