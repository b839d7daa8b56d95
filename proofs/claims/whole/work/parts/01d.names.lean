theorem dX4_init_0 : decode cX4_init 0 = .ok (.aload_n 0, 1) := by decide +kernel
theorem dX4_init_1 : decode cX4_init 1 = .ok (.invokespecial 3, 3) := by decide +kernel
theorem dX4_init_4 : decode cX4_init 4 = .ok (.aload_n 0, 1) := by decide +kernel
theorem dX4_init_5 : decode cX4_init 5 = .ok (.new 9, 3) := by decide +kernel
theorem dX4_init_8 : decode cX4_init 8 = .ok (.dup, 1) := by decide +kernel
theorem dX4_init_9 : decode cX4_init 9 = .ok (.invokespecial 11, 3) := by decide +kernel
theorem dX4_init_12 : decode cX4_init 12 = .ok (.putfield 12, 3) := by decide +kernel
theorem dX4_init_15 : decode cX4_init 15 = .ok (.aload_n 0, 1) := by decide +kernel
theorem dX4_init_16 : decode cX4_init 16 = .ok (.bipush 11, 2) := by decide +kernel
theorem dX4_init_18 : decode cX4_init 18 = .ok (.newarray .int, 2) := by decide +kernel
theorem dX4_init_20 : decode cX4_init 20 = .ok (.putfield 18, 3) := by decide +kernel
theorem dX4_init_23 : decode cX4_init 23 = .ok (.aload_n 0, 1) := by decide +kernel
theorem dX4_init_24 : decode cX4_init 24 = .ok (.bipush 60, 2) := by decide +kernel
theorem dX4_init_26 : decode cX4_init 26 = .ok (.newarray .int, 2) := by decide +kernel
theorem dX4_init_28 : decode cX4_init 28 = .ok (.putfield 22, 3) := by decide +kernel
theorem dX4_init_31 : decode cX4_init 31 = .ok (.aload_n 0, 1) := by decide +kernel
theorem dX4_init_32 : decode cX4_init 32 = .ok (.bipush 60, 2) := by decide +kernel
theorem dX4_init_34 : decode cX4_init 34 = .ok (.newarray .int, 2) := by decide +kernel
theorem dX4_init_36 : decode cX4_init 36 = .ok (.putfield 25, 3) := by decide +kernel
theorem dX4_init_39 : decode cX4_init 39 = .ok (.aload_n 0, 1) := by decide +kernel
theorem dX4_init_40 : decode cX4_init 40 = .ok (.bipush 60, 2) := by decide +kernel
theorem dX4_init_42 : decode cX4_init 42 = .ok (.newarray .int, 2) := by decide +kernel
theorem dX4_init_44 : decode cX4_init 44 = .ok (.putfield 28, 3) := by decide +kernel
theorem dX4_init_47 : decode cX4_init 47 = .ok (.aload_n 0, 1) := by decide +kernel
theorem dX4_init_48 : decode cX4_init 48 = .ok (.bipush 60, 2) := by decide +kernel
theorem dX4_init_50 : decode cX4_init 50 = .ok (.newarray .int, 2) := by decide +kernel
theorem dX4_init_52 : decode cX4_init 52 = .ok (.putfield 31, 3) := by decide +kernel
theorem dX4_init_55 : decode cX4_init 55 = .ok (.aload_n 0, 1) := by decide +kernel
theorem dX4_init_56 : decode cX4_init 56 = .ok (.bipush 60, 2) := by decide +kernel
theorem dX4_init_58 : decode cX4_init 58 = .ok (.newarray .int, 2) := by decide +kernel
theorem dX4_init_60 : decode cX4_init 60 = .ok (.putfield 34, 3) := by decide +kernel
theorem dX4_init_63 : decode cX4_init 63 = .ok (.return_, 1) := by decide +kernel
theorem dX4_height_0 : decode cX4_height 0 = .ok (.aload_n 0, 1) := by decide +kernel
theorem dX4_height_1 : decode cX4_height 1 = .ok (.getfield 37, 3) := by decide +kernel
theorem dX4_height_4 : decode cX4_height 4 = .ok (.ireturn, 1) := by decide +kernel
theorem dX4_width_0 : decode cX4_width 0 = .ok (.iload_n 1, 1) := by decide +kernel
theorem dX4_width_1 : decode cX4_width 1 = .ok (.ifCond .lt 35, 3) := by decide +kernel
theorem dX4_width_4 : decode cX4_width 4 = .ok (.iload_n 1, 1) := by decide +kernel
theorem dX4_width_5 : decode cX4_width 5 = .ok (.aload_n 0, 1) := by decide +kernel
theorem dX4_width_6 : decode cX4_width 6 = .ok (.getfield 37, 3) := by decide +kernel
theorem dX4_width_9 : decode cX4_width 9 = .ok (.if_icmp .ge 27, 3) := by decide +kernel
theorem dX4_width_12 : decode cX4_width 12 = .ok (.iload_n 1, 1) := by decide +kernel
theorem dX4_width_13 : decode cX4_width 13 = .ok (.bipush 10, 2) := by decide +kernel
theorem dX4_width_15 : decode cX4_width 15 = .ok (.if_icmp .ge 21, 3) := by decide +kernel
theorem dX4_width_18 : decode cX4_width 18 = .ok (.aload_n 0, 1) := by decide +kernel
theorem dX4_width_19 : decode cX4_width 19 = .ok (.getfield 18, 3) := by decide +kernel
theorem dX4_width_22 : decode cX4_width 22 = .ok (.iload_n 1, 1) := by decide +kernel
theorem dX4_width_23 : decode cX4_width 23 = .ok (.iconst 1, 1) := by decide +kernel
theorem dX4_width_24 : decode cX4_width 24 = .ok (.iadd, 1) := by decide +kernel
theorem dX4_width_25 : decode cX4_width 25 = .ok (.iaload, 1) := by decide +kernel
theorem dX4_width_26 : decode cX4_width 26 = .ok (.aload_n 0, 1) := by decide +kernel
theorem dX4_width_27 : decode cX4_width 27 = .ok (.getfield 18, 3) := by decide +kernel
theorem dX4_width_30 : decode cX4_width 30 = .ok (.iload_n 1, 1) := by decide +kernel
theorem dX4_width_31 : decode cX4_width 31 = .ok (.iaload, 1) := by decide +kernel
theorem dX4_width_32 : decode cX4_width 32 = .ok (.isub, 1) := by decide +kernel
theorem dX4_width_33 : decode cX4_width 33 = .ok (.goto 4, 3) := by decide +kernel
theorem dX4_width_36 : decode cX4_width 36 = .ok (.iconst 0, 1) := by decide +kernel
theorem dX4_width_37 : decode cX4_width 37 = .ok (.ireturn, 1) := by decide +kernel
set_option maxRecDepth 20000 in
theorem ggX4_tell_X4_width : GoodIn wsX4_tell wsX4_width := goodIn_r _ [11, 12, 1, 18, 19, 20, 21, 22, 23, 24, 25, 26] (by decide +kernel) (by decide +kernel)
set_option maxRecDepth 20000 in
theorem gX4_tell_X4_width : GoodIn wsX4_tell (wsV RX4 41 RX4 yX4_width wsX4_width) := goodIn_app (goodIn_of _ (by decide +kernel)) ggX4_tell_X4_width
set_option maxRecDepth 20000 in
theorem ggX4_tell_X4_isPiece : GoodIn wsX4_tell wsX4_isPiece := goodIn_r _ [16, 17, 18, 19, 20, 21, 22, 23, 24, 25, 26] (by decide +kernel) (by decide +kernel)
set_option maxRecDepth 20000 in
theorem gX4_tell_X4_isPiece : GoodIn wsX4_tell (wsV RX4 45 RX4 yX4_isPiece wsX4_isPiece) := goodIn_app (goodIn_of _ (by decide +kernel)) ggX4_tell_X4_isPiece
theorem dX4_tell_0 : decode cX4_tell 0 = .ok (.iload_n 2, 1) := by decide +kernel
theorem dX4_tell_1 : decode cX4_tell 1 = .ok (.ifCond .lt 12, 3) := by decide +kernel
theorem dX4_tell_4 : decode cX4_tell 4 = .ok (.iload_n 2, 1) := by decide +kernel
theorem dX4_tell_5 : decode cX4_tell 5 = .ok (.aload_n 0, 1) := by decide +kernel
theorem dX4_tell_6 : decode cX4_tell 6 = .ok (.iload_n 1, 1) := by decide +kernel
theorem dX4_tell_7 : decode cX4_tell 7 = .ok (.invokevirtual 41, 3) := by decide +kernel
theorem dX4_tell_10 : decode cX4_tell 10 = .ok (.if_icmp .lt 6, 3) := by decide +kernel
theorem dX4_tell_13 : decode cX4_tell 13 = .ok (.bipush (-2), 2) := by decide +kernel
theorem dX4_tell_15 : decode cX4_tell 15 = .ok (.ireturn, 1) := by decide +kernel
theorem dX4_tell_16 : decode cX4_tell 16 = .ok (.aload_n 0, 1) := by decide +kernel
theorem dX4_tell_17 : decode cX4_tell 17 = .ok (.getfield 18, 3) := by decide +kernel
theorem dX4_tell_20 : decode cX4_tell 20 = .ok (.iload_n 1, 1) := by decide +kernel
theorem dX4_tell_21 : decode cX4_tell 21 = .ok (.iaload, 1) := by decide +kernel
theorem dX4_tell_22 : decode cX4_tell 22 = .ok (.iload_n 2, 1) := by decide +kernel
theorem dX4_tell_23 : decode cX4_tell 23 = .ok (.iadd, 1) := by decide +kernel
theorem dX4_tell_24 : decode cX4_tell 24 = .ok (.istore 4, 2) := by decide +kernel
theorem dX4_tell_26 : decode cX4_tell 26 = .ok (.aload_n 0, 1) := by decide +kernel
theorem dX4_tell_27 : decode cX4_tell 27 = .ok (.iload 4, 2) := by decide +kernel
theorem dX4_tell_29 : decode cX4_tell 29 = .ok (.invokevirtual 45, 3) := by decide +kernel
theorem dX4_tell_32 : decode cX4_tell 32 = .ok (.ifCond .ne 6, 3) := by decide +kernel
theorem dX4_tell_35 : decode cX4_tell 35 = .ok (.bipush (-2), 2) := by decide +kernel
theorem dX4_tell_37 : decode cX4_tell 37 = .ok (.ireturn, 1) := by decide +kernel
theorem dX4_tell_38 : decode cX4_tell 38 = .ok (.iload_n 3, 1) := by decide +kernel
theorem dX4_tell_39 : decode cX4_tell 39 = .ok (.tableswitch 73 0 4 #[33, 41, 49, 57, 65], 33) := by decide +kernel
theorem dX4_tell_72 : decode cX4_tell 72 = .ok (.aload_n 0, 1) := by decide +kernel
theorem dX4_tell_73 : decode cX4_tell 73 = .ok (.getfield 22, 3) := by decide +kernel
theorem dX4_tell_76 : decode cX4_tell 76 = .ok (.iload 4, 2) := by decide +kernel
theorem dX4_tell_78 : decode cX4_tell 78 = .ok (.iaload, 1) := by decide +kernel
theorem dX4_tell_79 : decode cX4_tell 79 = .ok (.ireturn, 1) := by decide +kernel
theorem dX4_tell_80 : decode cX4_tell 80 = .ok (.aload_n 0, 1) := by decide +kernel
theorem dX4_tell_81 : decode cX4_tell 81 = .ok (.getfield 25, 3) := by decide +kernel
theorem dX4_tell_84 : decode cX4_tell 84 = .ok (.iload 4, 2) := by decide +kernel
theorem dX4_tell_86 : decode cX4_tell 86 = .ok (.iaload, 1) := by decide +kernel
theorem dX4_tell_87 : decode cX4_tell 87 = .ok (.ireturn, 1) := by decide +kernel
theorem dX4_tell_88 : decode cX4_tell 88 = .ok (.aload_n 0, 1) := by decide +kernel
theorem dX4_tell_89 : decode cX4_tell 89 = .ok (.getfield 28, 3) := by decide +kernel
theorem dX4_tell_92 : decode cX4_tell 92 = .ok (.iload 4, 2) := by decide +kernel
theorem dX4_tell_94 : decode cX4_tell 94 = .ok (.iaload, 1) := by decide +kernel
theorem dX4_tell_95 : decode cX4_tell 95 = .ok (.ireturn, 1) := by decide +kernel
theorem dX4_tell_96 : decode cX4_tell 96 = .ok (.aload_n 0, 1) := by decide +kernel
theorem dX4_tell_97 : decode cX4_tell 97 = .ok (.getfield 31, 3) := by decide +kernel
theorem dX4_tell_100 : decode cX4_tell 100 = .ok (.iload 4, 2) := by decide +kernel
theorem dX4_tell_102 : decode cX4_tell 102 = .ok (.iaload, 1) := by decide +kernel
theorem dX4_tell_103 : decode cX4_tell 103 = .ok (.ireturn, 1) := by decide +kernel
theorem dX4_tell_104 : decode cX4_tell 104 = .ok (.aload_n 0, 1) := by decide +kernel
theorem dX4_tell_105 : decode cX4_tell 105 = .ok (.getfield 34, 3) := by decide +kernel
theorem dX4_tell_108 : decode cX4_tell 108 = .ok (.iload 4, 2) := by decide +kernel
theorem dX4_tell_110 : decode cX4_tell 110 = .ok (.iaload, 1) := by decide +kernel
theorem dX4_tell_111 : decode cX4_tell 111 = .ok (.ireturn, 1) := by decide +kernel
theorem dX4_tell_112 : decode cX4_tell 112 = .ok (.bipush (-2), 2) := by decide +kernel
theorem dX4_tell_114 : decode cX4_tell 114 = .ok (.ireturn, 1) := by decide +kernel
set_option maxRecDepth 20000 in
theorem ggX4_build_X2_copy : GoodIn wsX4_build wsX2_copy := goodIn_r _ [8, 9, 10, 11, 12, 7, 13, 14, 15, 16, 17, 18, 19, 20, 21, 22, 108, 109] (by decide +kernel) (by decide +kernel)
set_option maxRecDepth 20000 in
theorem gX4_build_X2_copy : GoodIn wsX4_build (wsV RX4 52 RX2 yX2_copy wsX2_copy) := goodIn_app (goodIn_of _ (by decide +kernel)) ggX4_build_X2_copy
set_option maxRecDepth 20000 in
theorem ggX4_build_X2_size : GoodIn wsX4_build wsX2_size := goodIn_r _ [13, 9, 108, 109] (by decide +kernel) (by decide +kernel)
set_option maxRecDepth 20000 in
theorem gX4_build_X2_size : GoodIn wsX4_build (wsV RX4 56 RX2 yX2_size wsX2_size) := goodIn_app (goodIn_of _ (by decide +kernel)) ggX4_build_X2_size
set_option maxRecDepth 20000 in
theorem ggX4_build_X0_cut : GoodIn wsX4_build wsX0_cut := goodIn_r _ [28, 29, 30, 31, 32, 33, 34, 35, 11, 12, 7, 13, 9, 36, 15, 16, 17, 18, 37, 38, 39, 27, 40, 41, 42, 43, 110, 111, 112, 113, 114, 108, 109] (by decide +kernel) (by decide +kernel)
set_option maxRecDepth 20000 in
theorem gX4_build_X0_cut : GoodIn wsX4_build (wsV RX4 59 RX0 yX0_cut wsX0_cut) := goodIn_app (goodIn_of _ (by decide +kernel)) ggX4_build_X0_cut
set_option maxRecDepth 20000 in
theorem ggX4_build_X4_raise : GoodIn wsX4_build wsX4_raise := goodIn_r _ [48, 49, 2, 3, 1, 23, 11, 12, 7, 13, 9, 50, 51, 52, 47, 53, 54, 55, 56, 57, 58, 59, 60, 61, 27, 62, 42, 63, 64, 65, 66, 67, 68, 69, 43, 70, 71, 72, 73, 74, 75, 76, 41, 77, 15, 16, 17, 18, 99, 100, 101, 102, 103, 104, 105, 106, 107, 108, 109, 110, 111, 112, 113, 114] (by decide +kernel) (by decide +kernel)
set_option maxRecDepth 20000 in
theorem gX4_build_X4_raise : GoodIn wsX4_build (wsV RX4 65 RX4 yX4_raise wsX4_raise) := goodIn_app (goodIn_of _ (by decide +kernel)) ggX4_build_X4_raise
set_option maxRecDepth 20000 in
theorem ggX4_build_X4_width : GoodIn wsX4_build wsX4_width := goodIn_r _ [81, 1, 49, 99, 100, 101, 102, 103, 104, 105, 106, 107] (by decide +kernel) (by decide +kernel)
set_option maxRecDepth 20000 in
theorem gX4_build_X4_width : GoodIn wsX4_build (wsV RX4 41 RX4 yX4_width wsX4_width) := goodIn_app (goodIn_of _ (by decide +kernel)) ggX4_build_X4_width
set_option maxRecDepth 20000 in
theorem ggX4_build_X4_layBase : GoodIn wsX4_build wsX4_layBase := goodIn_r _ [85, 3, 86, 87, 88, 7, 89, 9, 78, 79, 80, 47, 81, 1, 49, 90, 91, 92, 93, 54, 55, 56, 57, 58, 94, 95, 96, 97, 2, 98, 20, 21, 22, 18, 99, 100, 101, 102, 103, 104, 105, 106, 107, 108, 109] (by decide +kernel) (by decide +kernel)
set_option maxRecDepth 20000 in
theorem gX4_build_X4_layBase : GoodIn wsX4_build (wsV RX4 69 RX4 yX4_layBase wsX4_layBase) := goodIn_app (goodIn_of _ (by decide +kernel)) ggX4_build_X4_layBase
theorem dX4_build_0 : decode cX4_build 0 = .ok (.aload_n 0, 1) := by decide +kernel
theorem dX4_build_1 : decode cX4_build 1 = .ok (.iconst 0, 1) := by decide +kernel
theorem dX4_build_2 : decode cX4_build 2 = .ok (.putfield 37, 3) := by decide +kernel
theorem dX4_build_5 : decode cX4_build 5 = .ok (.aload_n 0, 1) := by decide +kernel
theorem dX4_build_6 : decode cX4_build 6 = .ok (.iconst 0, 1) := by decide +kernel
theorem dX4_build_7 : decode cX4_build 7 = .ok (.putfield 49, 3) := by decide +kernel
theorem dX4_build_10 : decode cX4_build 10 = .ok (.aload_n 0, 1) := by decide +kernel
theorem dX4_build_11 : decode cX4_build 11 = .ok (.getfield 12, 3) := by decide +kernel
theorem dX4_build_14 : decode cX4_build 14 = .ok (.aload_n 1, 1) := by decide +kernel
theorem dX4_build_15 : decode cX4_build 15 = .ok (.invokevirtual 52, 3) := by decide +kernel
theorem dX4_build_18 : decode cX4_build 18 = .ok (.aload_n 0, 1) := by decide +kernel
theorem dX4_build_19 : decode cX4_build 19 = .ok (.getfield 12, 3) := by decide +kernel
theorem dX4_build_22 : decode cX4_build 22 = .ok (.invokevirtual 56, 3) := by decide +kernel
theorem dX4_build_25 : decode cX4_build 25 = .ok (.ifCond .le 7, 3) := by decide +kernel
theorem dX4_build_28 : decode cX4_build 28 = .ok (.iconst 1, 1) := by decide +kernel
theorem dX4_build_29 : decode cX4_build 29 = .ok (.goto 4, 3) := by decide +kernel
theorem dX4_build_32 : decode cX4_build 32 = .ok (.iconst 0, 1) := by decide +kernel
theorem dX4_build_33 : decode cX4_build 33 = .ok (.istore 4, 2) := by decide +kernel
theorem dX4_build_35 : decode cX4_build 35 = .ok (.iconst 0, 1) := by decide +kernel
theorem dX4_build_36 : decode cX4_build 36 = .ok (.istore 5, 2) := by decide +kernel
theorem dX4_build_38 : decode cX4_build 38 = .ok (.iload 5, 2) := by decide +kernel
theorem dX4_build_40 : decode cX4_build 40 = .ok (.bipush 10, 2) := by decide +kernel
theorem dX4_build_42 : decode cX4_build 42 = .ok (.if_icmp .ge 53, 3) := by decide +kernel
theorem dX4_build_45 : decode cX4_build 45 = .ok (.iload 4, 2) := by decide +kernel
theorem dX4_build_47 : decode cX4_build 47 = .ok (.ifCond .eq 48, 3) := by decide +kernel
theorem dX4_build_50 : decode cX4_build 50 = .ok (.aload_n 2, 1) := by decide +kernel
theorem dX4_build_51 : decode cX4_build 51 = .ok (.aload_n 0, 1) := by decide +kernel
theorem dX4_build_52 : decode cX4_build 52 = .ok (.getfield 12, 3) := by decide +kernel
theorem dX4_build_55 : decode cX4_build 55 = .ok (.iload_n 3, 1) := by decide +kernel
theorem dX4_build_56 : decode cX4_build 56 = .ok (.invokevirtual 59, 3) := by decide +kernel
theorem dX4_build_59 : decode cX4_build 59 = .ok (.aload_n 0, 1) := by decide +kernel
theorem dX4_build_60 : decode cX4_build 60 = .ok (.iload 5, 2) := by decide +kernel
theorem dX4_build_62 : decode cX4_build 62 = .ok (.aload_n 2, 1) := by decide +kernel
theorem dX4_build_63 : decode cX4_build 63 = .ok (.invokevirtual 65, 3) := by decide +kernel
theorem dX4_build_66 : decode cX4_build 66 = .ok (.aload_n 0, 1) := by decide +kernel
theorem dX4_build_67 : decode cX4_build 67 = .ok (.iload 5, 2) := by decide +kernel
theorem dX4_build_69 : decode cX4_build 69 = .ok (.invokevirtual 41, 3) := by decide +kernel
theorem dX4_build_72 : decode cX4_build 72 = .ok (.iconst 1, 1) := by decide +kernel
theorem dX4_build_73 : decode cX4_build 73 = .ok (.if_icmp .le 7, 3) := by decide +kernel
theorem dX4_build_76 : decode cX4_build 76 = .ok (.iconst 1, 1) := by decide +kernel
theorem dX4_build_77 : decode cX4_build 77 = .ok (.goto 4, 3) := by decide +kernel
theorem dX4_build_80 : decode cX4_build 80 = .ok (.iconst 0, 1) := by decide +kernel
theorem dX4_build_81 : decode cX4_build 81 = .ok (.istore 4, 2) := by decide +kernel
theorem dX4_build_83 : decode cX4_build 83 = .ok (.aload_n 0, 1) := by decide +kernel
theorem dX4_build_84 : decode cX4_build 84 = .ok (.iload 5, 2) := by decide +kernel
theorem dX4_build_86 : decode cX4_build 86 = .ok (.invokevirtual 69, 3) := by decide +kernel
theorem dX4_build_89 : decode cX4_build 89 = .ok (.iinc 5 1, 3) := by decide +kernel
theorem dX4_build_92 : decode cX4_build 92 = .ok (.goto (-54), 3) := by decide +kernel
theorem dX4_build_95 : decode cX4_build 95 = .ok (.return_, 1) := by decide +kernel
set_option maxRecDepth 20000 in
theorem ggX4_pieceFor_X4_width : GoodIn wsX4_pieceFor wsX4_width := goodIn_r _ [6, 7, 8, 14, 15, 16, 17, 18, 19, 20, 21, 22] (by decide +kernel) (by decide +kernel)
set_option maxRecDepth 20000 in
theorem gX4_pieceFor_X4_width : GoodIn wsX4_pieceFor (wsV RX4 41 RX4 yX4_width wsX4_width) := goodIn_app (goodIn_of _ (by decide +kernel)) ggX4_pieceFor_X4_width
set_option maxRecDepth 20000 in
theorem ggX4_pieceFor_X4_isPiece : GoodIn wsX4_pieceFor wsX4_isPiece := goodIn_r _ [12, 13, 14, 15, 16, 17, 18, 19, 20, 21, 22] (by decide +kernel) (by decide +kernel)
set_option maxRecDepth 20000 in
theorem gX4_pieceFor_X4_isPiece : GoodIn wsX4_pieceFor (wsV RX4 45 RX4 yX4_isPiece wsX4_isPiece) := goodIn_app (goodIn_of _ (by decide +kernel)) ggX4_pieceFor_X4_isPiece
theorem dX4_pieceFor_0 : decode cX4_pieceFor 0 = .ok (.iconst 0, 1) := by decide +kernel
theorem dX4_pieceFor_1 : decode cX4_pieceFor 1 = .ok (.istore_n 2, 1) := by decide +kernel
theorem dX4_pieceFor_2 : decode cX4_pieceFor 2 = .ok (.iconst 1, 1) := by decide +kernel
theorem dX4_pieceFor_3 : decode cX4_pieceFor 3 = .ok (.istore_n 3, 1) := by decide +kernel
theorem dX4_pieceFor_4 : decode cX4_pieceFor 4 = .ok (.iload_n 3, 1) := by decide +kernel
theorem dX4_pieceFor_5 : decode cX4_pieceFor 5 = .ok (.aload_n 0, 1) := by decide +kernel
theorem dX4_pieceFor_6 : decode cX4_pieceFor 6 = .ok (.iconst 0, 1) := by decide +kernel
theorem dX4_pieceFor_7 : decode cX4_pieceFor 7 = .ok (.invokevirtual 41, 3) := by decide +kernel
theorem dX4_pieceFor_10 : decode cX4_pieceFor 10 = .ok (.if_icmp .ge 29, 3) := by decide +kernel
theorem dX4_pieceFor_13 : decode cX4_pieceFor 13 = .ok (.aload_n 0, 1) := by decide +kernel
theorem dX4_pieceFor_14 : decode cX4_pieceFor 14 = .ok (.iload_n 3, 1) := by decide +kernel
theorem dX4_pieceFor_15 : decode cX4_pieceFor 15 = .ok (.invokevirtual 45, 3) := by decide +kernel
theorem dX4_pieceFor_18 : decode cX4_pieceFor 18 = .ok (.ifCond .eq 21, 3) := by decide +kernel
theorem dX4_pieceFor_21 : decode cX4_pieceFor 21 = .ok (.aload_n 0, 1) := by decide +kernel
theorem dX4_pieceFor_22 : decode cX4_pieceFor 22 = .ok (.getfield 28, 3) := by decide +kernel
theorem dX4_pieceFor_25 : decode cX4_pieceFor 25 = .ok (.iload_n 3, 1) := by decide +kernel
theorem dX4_pieceFor_26 : decode cX4_pieceFor 26 = .ok (.iaload, 1) := by decide +kernel
theorem dX4_pieceFor_27 : decode cX4_pieceFor 27 = .ok (.iload_n 1, 1) := by decide +kernel
theorem dX4_pieceFor_28 : decode cX4_pieceFor 28 = .ok (.if_icmp .gt 11, 3) := by decide +kernel
theorem dX4_pieceFor_31 : decode cX4_pieceFor 31 = .ok (.iload_n 3, 1) := by decide +kernel
theorem dX4_pieceFor_32 : decode cX4_pieceFor 32 = .ok (.istore_n 2, 1) := by decide +kernel
theorem dX4_pieceFor_33 : decode cX4_pieceFor 33 = .ok (.iinc 3 1, 3) := by decide +kernel
theorem dX4_pieceFor_36 : decode cX4_pieceFor 36 = .ok (.goto (-32), 3) := by decide +kernel
theorem dX4_pieceFor_39 : decode cX4_pieceFor 39 = .ok (.iload_n 2, 1) := by decide +kernel
theorem dX4_pieceFor_40 : decode cX4_pieceFor 40 = .ok (.ireturn, 1) := by decide +kernel
set_option maxRecDepth 20000 in
theorem ggX4_rankBy_X4_isPiece : GoodIn wsX4_rankBy wsX4_isPiece := goodIn_r _ [17, 18, 23, 24, 25, 26, 27, 28, 29, 30, 31] (by decide +kernel) (by decide +kernel)
set_option maxRecDepth 20000 in
theorem gX4_rankBy_X4_isPiece : GoodIn wsX4_rankBy (wsV RX4 45 RX4 yX4_isPiece wsX4_isPiece) := goodIn_app (goodIn_of _ (by decide +kernel)) ggX4_rankBy_X4_isPiece
set_option maxRecDepth 20000 in
theorem ggX4_rankBy_J9_floorDiv_7cf53 : GoodIn wsX4_rankBy wsJ9_floorDiv_7cf53 := goodIn_r _ [22] (by decide +kernel) (by decide +kernel)
set_option maxRecDepth 20000 in
theorem gX4_rankBy_J9_floorDiv_7cf53 : GoodIn wsX4_rankBy (va_wsS RX4 73 yJ9_floorDiv_7cf53 wsJ9_floorDiv_7cf53) := goodIn_app (goodIn_of _ (by decide +kernel)) ggX4_rankBy_J9_floorDiv_7cf53
theorem dX4_rankBy_0 : decode cX4_rankBy 0 = .ok (.aload_n 0, 1) := by decide +kernel
theorem dX4_rankBy_1 : decode cX4_rankBy 1 = .ok (.iload_n 1, 1) := by decide +kernel
theorem dX4_rankBy_2 : decode cX4_rankBy 2 = .ok (.invokevirtual 45, 3) := by decide +kernel
theorem dX4_rankBy_5 : decode cX4_rankBy 5 = .ok (.ifCond .eq 12, 3) := by decide +kernel
theorem dX4_rankBy_8 : decode cX4_rankBy 8 = .ok (.aload_n 0, 1) := by decide +kernel
theorem dX4_rankBy_9 : decode cX4_rankBy 9 = .ok (.getfield 34, 3) := by decide +kernel
theorem dX4_rankBy_12 : decode cX4_rankBy 12 = .ok (.iload_n 1, 1) := by decide +kernel
theorem dX4_rankBy_13 : decode cX4_rankBy 13 = .ok (.iaload, 1) := by decide +kernel
theorem dX4_rankBy_14 : decode cX4_rankBy 14 = .ok (.ifCond .gt 5, 3) := by decide +kernel
theorem dX4_rankBy_17 : decode cX4_rankBy 17 = .ok (.iconst (-1), 1) := by decide +kernel
theorem dX4_rankBy_18 : decode cX4_rankBy 18 = .ok (.ireturn, 1) := by decide +kernel
theorem dX4_rankBy_19 : decode cX4_rankBy 19 = .ok (.aload_n 0, 1) := by decide +kernel
theorem dX4_rankBy_20 : decode cX4_rankBy 20 = .ok (.getfield 31, 3) := by decide +kernel
theorem dX4_rankBy_23 : decode cX4_rankBy 23 = .ok (.iload_n 1, 1) := by decide +kernel
theorem dX4_rankBy_24 : decode cX4_rankBy 24 = .ok (.iaload, 1) := by decide +kernel
theorem dX4_rankBy_25 : decode cX4_rankBy 25 = .ok (.iload_n 2, 1) := by decide +kernel
theorem dX4_rankBy_26 : decode cX4_rankBy 26 = .ok (.aload_n 0, 1) := by decide +kernel
theorem dX4_rankBy_27 : decode cX4_rankBy 27 = .ok (.getfield 28, 3) := by decide +kernel
theorem dX4_rankBy_30 : decode cX4_rankBy 30 = .ok (.iload_n 1, 1) := by decide +kernel
theorem dX4_rankBy_31 : decode cX4_rankBy 31 = .ok (.iaload, 1) := by decide +kernel
theorem dX4_rankBy_32 : decode cX4_rankBy 32 = .ok (.isub, 1) := by decide +kernel
theorem dX4_rankBy_33 : decode cX4_rankBy 33 = .ok (.imul, 1) := by decide +kernel
theorem dX4_rankBy_34 : decode cX4_rankBy 34 = .ok (.aload_n 0, 1) := by decide +kernel
theorem dX4_rankBy_35 : decode cX4_rankBy 35 = .ok (.getfield 34, 3) := by decide +kernel
theorem dX4_rankBy_38 : decode cX4_rankBy 38 = .ok (.iload_n 1, 1) := by decide +kernel
theorem dX4_rankBy_39 : decode cX4_rankBy 39 = .ok (.iaload, 1) := by decide +kernel
theorem dX4_rankBy_40 : decode cX4_rankBy 40 = .ok (.invokestatic 73, 3) := by decide +kernel
theorem dX4_rankBy_43 : decode cX4_rankBy 43 = .ok (.istore_n 3, 1) := by decide +kernel
theorem dX4_rankBy_44 : decode cX4_rankBy 44 = .ok (.aload_n 0, 1) := by decide +kernel
theorem dX4_rankBy_45 : decode cX4_rankBy 45 = .ok (.getfield 22, 3) := by decide +kernel
theorem dX4_rankBy_48 : decode cX4_rankBy 48 = .ok (.iload_n 1, 1) := by decide +kernel
theorem dX4_rankBy_49 : decode cX4_rankBy 49 = .ok (.iaload, 1) := by decide +kernel
theorem dX4_rankBy_50 : decode cX4_rankBy 50 = .ok (.aload_n 0, 1) := by decide +kernel
theorem dX4_rankBy_51 : decode cX4_rankBy 51 = .ok (.getfield 25, 3) := by decide +kernel
theorem dX4_rankBy_54 : decode cX4_rankBy 54 = .ok (.iload_n 1, 1) := by decide +kernel
theorem dX4_rankBy_55 : decode cX4_rankBy 55 = .ok (.iaload, 1) := by decide +kernel
theorem dX4_rankBy_56 : decode cX4_rankBy 56 = .ok (.aload_n 0, 1) := by decide +kernel
theorem dX4_rankBy_57 : decode cX4_rankBy 57 = .ok (.getfield 22, 3) := by decide +kernel
theorem dX4_rankBy_60 : decode cX4_rankBy 60 = .ok (.iload_n 1, 1) := by decide +kernel
theorem dX4_rankBy_61 : decode cX4_rankBy 61 = .ok (.iaload, 1) := by decide +kernel
theorem dX4_rankBy_62 : decode cX4_rankBy 62 = .ok (.iload_n 3, 1) := by decide +kernel
theorem dX4_rankBy_63 : decode cX4_rankBy 63 = .ok (.iadd, 1) := by decide +kernel
theorem dX4_rankBy_64 : decode cX4_rankBy 64 = .ok (.invokestatic 79, 3) := by decide +kernel
theorem dX4_rankBy_67 : decode cX4_rankBy 67 = .ok (.invokestatic 82, 3) := by decide +kernel
theorem dX4_rankBy_70 : decode cX4_rankBy 70 = .ok (.ireturn, 1) := by decide +kernel
set_option maxRecDepth 20000 in
theorem ggX4_fromOf_X4_isPiece : GoodIn wsX4_fromOf wsX4_isPiece := goodIn_r _ [6, 7, 8, 9, 10, 11, 12, 13, 14, 15, 16] (by decide +kernel) (by decide +kernel)
set_option maxRecDepth 20000 in
theorem gX4_fromOf_X4_isPiece : GoodIn wsX4_fromOf (wsV RX4 45 RX4 yX4_isPiece wsX4_isPiece) := goodIn_app (goodIn_of _ (by decide +kernel)) ggX4_fromOf_X4_isPiece
theorem dX4_fromOf_0 : decode cX4_fromOf 0 = .ok (.aload_n 0, 1) := by decide +kernel
theorem dX4_fromOf_1 : decode cX4_fromOf 1 = .ok (.iload_n 1, 1) := by decide +kernel
theorem dX4_fromOf_2 : decode cX4_fromOf 2 = .ok (.invokevirtual 45, 3) := by decide +kernel
theorem dX4_fromOf_5 : decode cX4_fromOf 5 = .ok (.ifCond .eq 12, 3) := by decide +kernel
theorem dX4_fromOf_8 : decode cX4_fromOf 8 = .ok (.aload_n 0, 1) := by decide +kernel
theorem dX4_fromOf_9 : decode cX4_fromOf 9 = .ok (.getfield 22, 3) := by decide +kernel
theorem dX4_fromOf_12 : decode cX4_fromOf 12 = .ok (.iload_n 1, 1) := by decide +kernel
theorem dX4_fromOf_13 : decode cX4_fromOf 13 = .ok (.iaload, 1) := by decide +kernel
theorem dX4_fromOf_14 : decode cX4_fromOf 14 = .ok (.goto 4, 3) := by decide +kernel
theorem dX4_fromOf_17 : decode cX4_fromOf 17 = .ok (.iconst 0, 1) := by decide +kernel
theorem dX4_fromOf_18 : decode cX4_fromOf 18 = .ok (.ireturn, 1) := by decide +kernel
set_option maxRecDepth 20000 in
theorem ggX4_lastOf_X4_isPiece : GoodIn wsX4_lastOf wsX4_isPiece := goodIn_r _ [6, 7, 8, 9, 10, 11, 12, 13, 14, 15, 16] (by decide +kernel) (by decide +kernel)
set_option maxRecDepth 20000 in
theorem gX4_lastOf_X4_isPiece : GoodIn wsX4_lastOf (wsV RX4 45 RX4 yX4_isPiece wsX4_isPiece) := goodIn_app (goodIn_of _ (by decide +kernel)) ggX4_lastOf_X4_isPiece
theorem dX4_lastOf_0 : decode cX4_lastOf 0 = .ok (.aload_n 0, 1) := by decide +kernel
theorem dX4_lastOf_1 : decode cX4_lastOf 1 = .ok (.iload_n 1, 1) := by decide +kernel
theorem dX4_lastOf_2 : decode cX4_lastOf 2 = .ok (.invokevirtual 45, 3) := by decide +kernel
theorem dX4_lastOf_5 : decode cX4_lastOf 5 = .ok (.ifCond .eq 12, 3) := by decide +kernel
theorem dX4_lastOf_8 : decode cX4_lastOf 8 = .ok (.aload_n 0, 1) := by decide +kernel
theorem dX4_lastOf_9 : decode cX4_lastOf 9 = .ok (.getfield 25, 3) := by decide +kernel
theorem dX4_lastOf_12 : decode cX4_lastOf 12 = .ok (.iload_n 1, 1) := by decide +kernel
theorem dX4_lastOf_13 : decode cX4_lastOf 13 = .ok (.iaload, 1) := by decide +kernel
theorem dX4_lastOf_14 : decode cX4_lastOf 14 = .ok (.goto 4, 3) := by decide +kernel
theorem dX4_lastOf_17 : decode cX4_lastOf 17 = .ok (.iconst (-1), 1) := by decide +kernel
theorem dX4_lastOf_18 : decode cX4_lastOf 18 = .ok (.ireturn, 1) := by decide +kernel
theorem dX4_isPiece_0 : decode cX4_isPiece 0 = .ok (.iload_n 1, 1) := by decide +kernel
theorem dX4_isPiece_1 : decode cX4_isPiece 1 = .ok (.ifCond .lt 21, 3) := by decide +kernel
theorem dX4_isPiece_4 : decode cX4_isPiece 4 = .ok (.iload_n 1, 1) := by decide +kernel
theorem dX4_isPiece_5 : decode cX4_isPiece 5 = .ok (.aload_n 0, 1) := by decide +kernel
theorem dX4_isPiece_6 : decode cX4_isPiece 6 = .ok (.getfield 49, 3) := by decide +kernel
theorem dX4_isPiece_9 : decode cX4_isPiece 9 = .ok (.if_icmp .ge 13, 3) := by decide +kernel
theorem dX4_isPiece_12 : decode cX4_isPiece 12 = .ok (.iload_n 1, 1) := by decide +kernel
theorem dX4_isPiece_13 : decode cX4_isPiece 13 = .ok (.bipush 60, 2) := by decide +kernel
theorem dX4_isPiece_15 : decode cX4_isPiece 15 = .ok (.if_icmp .ge 7, 3) := by decide +kernel
theorem dX4_isPiece_18 : decode cX4_isPiece 18 = .ok (.iconst 1, 1) := by decide +kernel
theorem dX4_isPiece_19 : decode cX4_isPiece 19 = .ok (.goto 4, 3) := by decide +kernel
theorem dX4_isPiece_22 : decode cX4_isPiece 22 = .ok (.iconst 0, 1) := by decide +kernel
theorem dX4_isPiece_23 : decode cX4_isPiece 23 = .ok (.ireturn, 1) := by decide +kernel
set_option maxRecDepth 20000 in
theorem ggX4_raise_X2_size : GoodIn wsX4_raise wsX2_size := goodIn_r _ [9, 10, 57, 58] (by decide +kernel) (by decide +kernel)
set_option maxRecDepth 20000 in
theorem gX4_raise_X2_size : GoodIn wsX4_raise (wsV RX4 56 RX2 yX2_size wsX2_size) := goodIn_app (goodIn_of _ (by decide +kernel)) ggX4_raise_X2_size
set_option maxRecDepth 20000 in
theorem ggX4_raise_X4_lay : GoodIn wsX4_raise wsX4_lay := goodIn_r _ [15, 2, 16, 17, 18, 3, 19, 20, 21, 22, 23, 24, 25, 26, 27, 28, 29, 30, 31, 32, 33, 34, 35, 36, 14, 37, 38, 39, 40, 41, 42, 43, 44, 45, 8, 46, 10, 47, 48, 49, 50, 51, 52, 53, 54, 55, 56, 59, 60, 61, 62, 63, 57, 58] (by decide +kernel) (by decide +kernel)
set_option maxRecDepth 20000 in
theorem gX4_raise_X4_lay : GoodIn wsX4_raise (wsV RX4 85 RX4 yX4_lay wsX4_lay) := goodIn_app (goodIn_of _ (by decide +kernel)) ggX4_raise_X4_lay
set_option maxRecDepth 20000 in
theorem ggX4_raise_X0_lastOf : GoodIn wsX4_raise wsX0_lastOf := goodIn_r _ [41, 42, 27, 28, 24, 29, 59, 60, 61, 62, 63] (by decide +kernel) (by decide +kernel)
set_option maxRecDepth 20000 in
theorem gX4_raise_X0_lastOf : GoodIn wsX4_raise (wsV RX4 88 RX0 yX0_lastOf wsX0_lastOf) := goodIn_app (goodIn_of _ (by decide +kernel)) ggX4_raise_X0_lastOf
theorem dX4_raise_0 : decode cX4_raise 0 = .ok (.iload_n 1, 1) := by decide +kernel
theorem dX4_raise_1 : decode cX4_raise 1 = .ok (.ifCond .lt 9, 3) := by decide +kernel
theorem dX4_raise_4 : decode cX4_raise 4 = .ok (.iload_n 1, 1) := by decide +kernel
theorem dX4_raise_5 : decode cX4_raise 5 = .ok (.bipush 10, 2) := by decide +kernel
theorem dX4_raise_7 : decode cX4_raise 7 = .ok (.if_icmp .lt 4, 3) := by decide +kernel
theorem dX4_raise_10 : decode cX4_raise 10 = .ok (.return_, 1) := by decide +kernel
theorem dX4_raise_11 : decode cX4_raise 11 = .ok (.aload_n 0, 1) := by decide +kernel
theorem dX4_raise_12 : decode cX4_raise 12 = .ok (.getfield 18, 3) := by decide +kernel
theorem dX4_raise_15 : decode cX4_raise 15 = .ok (.iload_n 1, 1) := by decide +kernel
theorem dX4_raise_16 : decode cX4_raise 16 = .ok (.aload_n 0, 1) := by decide +kernel
theorem dX4_raise_17 : decode cX4_raise 17 = .ok (.getfield 49, 3) := by decide +kernel
theorem dX4_raise_20 : decode cX4_raise 20 = .ok (.iastore, 1) := by decide +kernel
theorem dX4_raise_21 : decode cX4_raise 21 = .ok (.iconst 0, 1) := by decide +kernel
theorem dX4_raise_22 : decode cX4_raise 22 = .ok (.istore_n 3, 1) := by decide +kernel
theorem dX4_raise_23 : decode cX4_raise 23 = .ok (.iconst 0, 1) := by decide +kernel
theorem dX4_raise_24 : decode cX4_raise 24 = .ok (.istore 4, 2) := by decide +kernel
theorem dX4_raise_26 : decode cX4_raise 26 = .ok (.iload 4, 2) := by decide +kernel
theorem dX4_raise_28 : decode cX4_raise 28 = .ok (.bipush 60, 2) := by decide +kernel
theorem dX4_raise_30 : decode cX4_raise 30 = .ok (.if_icmp .ge 34, 3) := by decide +kernel
theorem dX4_raise_33 : decode cX4_raise 33 = .ok (.iload_n 3, 1) := by decide +kernel
theorem dX4_raise_34 : decode cX4_raise 34 = .ok (.aload_n 0, 1) := by decide +kernel
theorem dX4_raise_35 : decode cX4_raise 35 = .ok (.getfield 12, 3) := by decide +kernel
theorem dX4_raise_38 : decode cX4_raise 38 = .ok (.invokevirtual 56, 3) := by decide +kernel
theorem dX4_raise_41 : decode cX4_raise 41 = .ok (.if_icmp .ge 23, 3) := by decide +kernel
theorem dX4_raise_44 : decode cX4_raise 44 = .ok (.aload_n 0, 1) := by decide +kernel
theorem dX4_raise_45 : decode cX4_raise 45 = .ok (.iload_n 3, 1) := by decide +kernel
theorem dX4_raise_46 : decode cX4_raise 46 = .ok (.aload_n 2, 1) := by decide +kernel
theorem dX4_raise_47 : decode cX4_raise 47 = .ok (.invokevirtual 85, 3) := by decide +kernel
theorem dX4_raise_50 : decode cX4_raise 50 = .ok (.aload_n 2, 1) := by decide +kernel
theorem dX4_raise_51 : decode cX4_raise 51 = .ok (.iload_n 3, 1) := by decide +kernel
theorem dX4_raise_52 : decode cX4_raise 52 = .ok (.invokevirtual 88, 3) := by decide +kernel
theorem dX4_raise_55 : decode cX4_raise 55 = .ok (.iconst 1, 1) := by decide +kernel
theorem dX4_raise_56 : decode cX4_raise 56 = .ok (.iadd, 1) := by decide +kernel
theorem dX4_raise_57 : decode cX4_raise 57 = .ok (.istore_n 3, 1) := by decide +kernel
theorem dX4_raise_58 : decode cX4_raise 58 = .ok (.iinc 4 1, 3) := by decide +kernel
theorem dX4_raise_61 : decode cX4_raise 61 = .ok (.goto (-35), 3) := by decide +kernel
theorem dX4_raise_64 : decode cX4_raise 64 = .ok (.aload_n 0, 1) := by decide +kernel
theorem dX4_raise_65 : decode cX4_raise 65 = .ok (.getfield 18, 3) := by decide +kernel
theorem dX4_raise_68 : decode cX4_raise 68 = .ok (.iload_n 1, 1) := by decide +kernel
theorem dX4_raise_69 : decode cX4_raise 69 = .ok (.iconst 1, 1) := by decide +kernel
theorem dX4_raise_70 : decode cX4_raise 70 = .ok (.iadd, 1) := by decide +kernel
theorem dX4_raise_71 : decode cX4_raise 71 = .ok (.aload_n 0, 1) := by decide +kernel
theorem dX4_raise_72 : decode cX4_raise 72 = .ok (.getfield 49, 3) := by decide +kernel
theorem dX4_raise_75 : decode cX4_raise 75 = .ok (.iastore, 1) := by decide +kernel
theorem dX4_raise_76 : decode cX4_raise 76 = .ok (.aload_n 0, 1) := by decide +kernel
theorem dX4_raise_77 : decode cX4_raise 77 = .ok (.iload_n 1, 1) := by decide +kernel
theorem dX4_raise_78 : decode cX4_raise 78 = .ok (.iconst 1, 1) := by decide +kernel
theorem dX4_raise_79 : decode cX4_raise 79 = .ok (.iadd, 1) := by decide +kernel
theorem dX4_raise_80 : decode cX4_raise 80 = .ok (.putfield 37, 3) := by decide +kernel
theorem dX4_raise_83 : decode cX4_raise 83 = .ok (.return_, 1) := by decide +kernel
set_option maxRecDepth 20000 in
theorem ggX4_lay_X0_slopeNum : GoodIn wsX4_lay wsX0_slopeNum := goodIn_r _ [12, 13, 14, 15, 11, 16, 47, 48, 49, 50, 51] (by decide +kernel) (by decide +kernel)
set_option maxRecDepth 20000 in
theorem gX4_lay_X0_slopeNum : GoodIn wsX4_lay (wsV RX4 91 RX0 yX0_slopeNum wsX0_slopeNum) := goodIn_app (goodIn_of _ (by decide +kernel)) ggX4_lay_X0_slopeNum
set_option maxRecDepth 20000 in
theorem ggX4_lay_X0_slopeDen : GoodIn wsX4_lay wsX0_slopeDen := goodIn_r _ [20, 21, 14, 15, 11, 16, 47, 48, 49, 50, 51] (by decide +kernel) (by decide +kernel)
set_option maxRecDepth 20000 in
theorem gX4_lay_X0_slopeDen : GoodIn wsX4_lay (wsV RX4 94 RX0 yX0_slopeDen wsX0_slopeDen) := goodIn_app (goodIn_of _ (by decide +kernel)) ggX4_lay_X0_slopeDen
set_option maxRecDepth 20000 in
theorem ggX4_lay_X4_commonDivisor : GoodIn wsX4_lay wsX4_commonDivisor := goodIn_r _ [25] (by decide +kernel) (by decide +kernel)
set_option maxRecDepth 20000 in
theorem gX4_lay_X4_commonDivisor : GoodIn wsX4_lay (va_wsS RX4 97 yX4_commonDivisor wsX4_commonDivisor) := goodIn_app (goodIn_of _ (by decide +kernel)) ggX4_lay_X4_commonDivisor
set_option maxRecDepth 20000 in
theorem ggX4_lay_X0_lastOf : GoodIn wsX4_lay wsX0_lastOf := goodIn_r _ [29, 30, 14, 15, 11, 16, 47, 48, 49, 50, 51] (by decide +kernel) (by decide +kernel)
set_option maxRecDepth 20000 in
theorem gX4_lay_X0_lastOf : GoodIn wsX4_lay (wsV RX4 88 RX0 yX0_lastOf wsX0_lastOf) := goodIn_app (goodIn_of _ (by decide +kernel)) ggX4_lay_X0_lastOf
set_option maxRecDepth 20000 in
theorem ggX4_lay_X2_key : GoodIn wsX4_lay wsX2_key := goodIn_r _ [35, 36, 37, 52, 53] (by decide +kernel) (by decide +kernel)
set_option maxRecDepth 20000 in
theorem gX4_lay_X2_key : GoodIn wsX4_lay (wsV RX4 100 RX2 yX2_key wsX2_key) := goodIn_app (goodIn_of _ (by decide +kernel)) ggX4_lay_X2_key
theorem dX4_lay_0 : decode cX4_lay 0 = .ok (.aload_n 0, 1) := by decide +kernel
theorem dX4_lay_1 : decode cX4_lay 1 = .ok (.getfield 49, 3) := by decide +kernel
theorem dX4_lay_4 : decode cX4_lay 4 = .ok (.ifCond .lt 12, 3) := by decide +kernel
theorem dX4_lay_7 : decode cX4_lay 7 = .ok (.aload_n 0, 1) := by decide +kernel
theorem dX4_lay_8 : decode cX4_lay 8 = .ok (.getfield 49, 3) := by decide +kernel
theorem dX4_lay_11 : decode cX4_lay 11 = .ok (.bipush 60, 2) := by decide +kernel
theorem dX4_lay_13 : decode cX4_lay 13 = .ok (.if_icmp .lt 4, 3) := by decide +kernel
theorem dX4_lay_16 : decode cX4_lay 16 = .ok (.return_, 1) := by decide +kernel
theorem dX4_lay_17 : decode cX4_lay 17 = .ok (.aload_n 2, 1) := by decide +kernel
theorem dX4_lay_18 : decode cX4_lay 18 = .ok (.iload_n 1, 1) := by decide +kernel
theorem dX4_lay_19 : decode cX4_lay 19 = .ok (.invokevirtual 91, 3) := by decide +kernel
theorem dX4_lay_22 : decode cX4_lay 22 = .ok (.istore_n 3, 1) := by decide +kernel
theorem dX4_lay_23 : decode cX4_lay 23 = .ok (.aload_n 2, 1) := by decide +kernel
theorem dX4_lay_24 : decode cX4_lay 24 = .ok (.iload_n 1, 1) := by decide +kernel
theorem dX4_lay_25 : decode cX4_lay 25 = .ok (.invokevirtual 94, 3) := by decide +kernel
theorem dX4_lay_28 : decode cX4_lay 28 = .ok (.istore 4, 2) := by decide +kernel
theorem dX4_lay_30 : decode cX4_lay 30 = .ok (.iload_n 3, 1) := by decide +kernel
theorem dX4_lay_31 : decode cX4_lay 31 = .ok (.iload 4, 2) := by decide +kernel
theorem dX4_lay_33 : decode cX4_lay 33 = .ok (.invokestatic 97, 3) := by decide +kernel
theorem dX4_lay_36 : decode cX4_lay 36 = .ok (.istore 5, 2) := by decide +kernel
theorem dX4_lay_38 : decode cX4_lay 38 = .ok (.aload_n 0, 1) := by decide +kernel
theorem dX4_lay_39 : decode cX4_lay 39 = .ok (.getfield 22, 3) := by decide +kernel
theorem dX4_lay_42 : decode cX4_lay 42 = .ok (.aload_n 0, 1) := by decide +kernel
theorem dX4_lay_43 : decode cX4_lay 43 = .ok (.getfield 49, 3) := by decide +kernel
theorem dX4_lay_46 : decode cX4_lay 46 = .ok (.iload_n 1, 1) := by decide +kernel
theorem dX4_lay_47 : decode cX4_lay 47 = .ok (.iastore, 1) := by decide +kernel
theorem dX4_lay_48 : decode cX4_lay 48 = .ok (.aload_n 0, 1) := by decide +kernel
theorem dX4_lay_49 : decode cX4_lay 49 = .ok (.getfield 25, 3) := by decide +kernel
theorem dX4_lay_52 : decode cX4_lay 52 = .ok (.aload_n 0, 1) := by decide +kernel
theorem dX4_lay_53 : decode cX4_lay 53 = .ok (.getfield 49, 3) := by decide +kernel
theorem dX4_lay_56 : decode cX4_lay 56 = .ok (.aload_n 2, 1) := by decide +kernel
theorem dX4_lay_57 : decode cX4_lay 57 = .ok (.iload_n 1, 1) := by decide +kernel
theorem dX4_lay_58 : decode cX4_lay 58 = .ok (.invokevirtual 88, 3) := by decide +kernel
theorem dX4_lay_61 : decode cX4_lay 61 = .ok (.iastore, 1) := by decide +kernel
theorem dX4_lay_62 : decode cX4_lay 62 = .ok (.aload_n 0, 1) := by decide +kernel
theorem dX4_lay_63 : decode cX4_lay 63 = .ok (.getfield 28, 3) := by decide +kernel
theorem dX4_lay_66 : decode cX4_lay 66 = .ok (.aload_n 0, 1) := by decide +kernel
theorem dX4_lay_67 : decode cX4_lay 67 = .ok (.getfield 49, 3) := by decide +kernel
theorem dX4_lay_70 : decode cX4_lay 70 = .ok (.aload_n 0, 1) := by decide +kernel
theorem dX4_lay_71 : decode cX4_lay 71 = .ok (.getfield 12, 3) := by decide +kernel
theorem dX4_lay_74 : decode cX4_lay 74 = .ok (.iload_n 1, 1) := by decide +kernel
theorem dX4_lay_75 : decode cX4_lay 75 = .ok (.invokevirtual 100, 3) := by decide +kernel
theorem dX4_lay_78 : decode cX4_lay 78 = .ok (.iastore, 1) := by decide +kernel
theorem dX4_lay_79 : decode cX4_lay 79 = .ok (.aload_n 0, 1) := by decide +kernel
theorem dX4_lay_80 : decode cX4_lay 80 = .ok (.getfield 31, 3) := by decide +kernel
theorem dX4_lay_83 : decode cX4_lay 83 = .ok (.aload_n 0, 1) := by decide +kernel
theorem dX4_lay_84 : decode cX4_lay 84 = .ok (.getfield 49, 3) := by decide +kernel
theorem dX4_lay_87 : decode cX4_lay 87 = .ok (.iload 5, 2) := by decide +kernel
theorem dX4_lay_89 : decode cX4_lay 89 = .ok (.ifCond .le 10, 3) := by decide +kernel
theorem dX4_lay_92 : decode cX4_lay 92 = .ok (.iload_n 3, 1) := by decide +kernel
theorem dX4_lay_93 : decode cX4_lay 93 = .ok (.iload 5, 2) := by decide +kernel
theorem dX4_lay_95 : decode cX4_lay 95 = .ok (.idiv, 1) := by decide +kernel
theorem dX4_lay_96 : decode cX4_lay 96 = .ok (.goto 4, 3) := by decide +kernel
theorem dX4_lay_99 : decode cX4_lay 99 = .ok (.iload_n 3, 1) := by decide +kernel
theorem dX4_lay_100 : decode cX4_lay 100 = .ok (.iastore, 1) := by decide +kernel
theorem dX4_lay_101 : decode cX4_lay 101 = .ok (.aload_n 0, 1) := by decide +kernel
theorem dX4_lay_102 : decode cX4_lay 102 = .ok (.getfield 34, 3) := by decide +kernel
theorem dX4_lay_105 : decode cX4_lay 105 = .ok (.aload_n 0, 1) := by decide +kernel
theorem dX4_lay_106 : decode cX4_lay 106 = .ok (.getfield 49, 3) := by decide +kernel
theorem dX4_lay_109 : decode cX4_lay 109 = .ok (.iload 5, 2) := by decide +kernel
theorem dX4_lay_111 : decode cX4_lay 111 = .ok (.ifCond .le 11, 3) := by decide +kernel
theorem dX4_lay_114 : decode cX4_lay 114 = .ok (.iload 4, 2) := by decide +kernel
theorem dX4_lay_116 : decode cX4_lay 116 = .ok (.iload 5, 2) := by decide +kernel
theorem dX4_lay_118 : decode cX4_lay 118 = .ok (.idiv, 1) := by decide +kernel
theorem dX4_lay_119 : decode cX4_lay 119 = .ok (.goto 5, 3) := by decide +kernel
theorem dX4_lay_122 : decode cX4_lay 122 = .ok (.iload 4, 2) := by decide +kernel
theorem dX4_lay_124 : decode cX4_lay 124 = .ok (.iastore, 1) := by decide +kernel
theorem dX4_lay_125 : decode cX4_lay 125 = .ok (.aload_n 0, 1) := by decide +kernel
theorem dX4_lay_126 : decode cX4_lay 126 = .ok (.dup, 1) := by decide +kernel
theorem dX4_lay_127 : decode cX4_lay 127 = .ok (.getfield 49, 3) := by decide +kernel
theorem dX4_lay_130 : decode cX4_lay 130 = .ok (.iconst 1, 1) := by decide +kernel
theorem dX4_lay_131 : decode cX4_lay 131 = .ok (.iadd, 1) := by decide +kernel
theorem dX4_lay_132 : decode cX4_lay 132 = .ok (.putfield 49, 3) := by decide +kernel
theorem dX4_lay_135 : decode cX4_lay 135 = .ok (.return_, 1) := by decide +kernel
set_option maxRecDepth 20000 in
theorem ggX4_layBase_X2_clear : GoodIn wsX4_layBase wsX2_clear := goodIn_r _ [6, 7, 43, 44] (by decide +kernel) (by decide +kernel)
set_option maxRecDepth 20000 in
theorem gX4_layBase_X2_clear : GoodIn wsX4_layBase (wsV RX4 103 RX2 yX2_clear wsX2_clear) := goodIn_app (goodIn_of _ (by decide +kernel)) ggX4_layBase_X2_clear
set_option maxRecDepth 20000 in
theorem ggX4_layBase_X4_width : GoodIn wsX4_layBase wsX4_width := goodIn_r _ [12, 13, 14, 34, 35, 36, 37, 38, 39, 40, 41, 42] (by decide +kernel) (by decide +kernel)
set_option maxRecDepth 20000 in
theorem gX4_layBase_X4_width : GoodIn wsX4_layBase (wsV RX4 41 RX4 yX4_width wsX4_width) := goodIn_app (goodIn_of _ (by decide +kernel)) ggX4_layBase_X4_width
set_option maxRecDepth 20000 in
theorem ggX4_layBase_X4_tell : GoodIn wsX4_layBase wsX4_tell := goodIn_r _ [18, 14, 19, 20, 21, 22, 23, 8, 9, 10, 11, 12, 13, 24, 25, 26, 27, 28, 34, 35, 36, 37, 38, 39, 40, 41, 42] (by decide +kernel) (by decide +kernel)
set_option maxRecDepth 20000 in
theorem gX4_layBase_X4_tell : GoodIn wsX4_layBase (wsV RX4 106 RX4 yX4_tell wsX4_tell) := goodIn_app (goodIn_of _ (by decide +kernel)) ggX4_layBase_X4_tell
set_option maxRecDepth 20000 in
theorem ggX4_layBase_X2_append : GoodIn wsX4_layBase wsX2_append := goodIn_r _ [32, 7, 33, 43, 44] (by decide +kernel) (by decide +kernel)
set_option maxRecDepth 20000 in
theorem gX4_layBase_X2_append : GoodIn wsX4_layBase (wsV RX4 110 RX2 yX2_append wsX2_append) := goodIn_app (goodIn_of _ (by decide +kernel)) ggX4_layBase_X2_append
theorem dX4_layBase_0 : decode cX4_layBase 0 = .ok (.aload_n 0, 1) := by decide +kernel
theorem dX4_layBase_1 : decode cX4_layBase 1 = .ok (.getfield 12, 3) := by decide +kernel
theorem dX4_layBase_4 : decode cX4_layBase 4 = .ok (.invokevirtual 103, 3) := by decide +kernel
theorem dX4_layBase_7 : decode cX4_layBase 7 = .ok (.iconst 0, 1) := by decide +kernel
theorem dX4_layBase_8 : decode cX4_layBase 8 = .ok (.istore_n 2, 1) := by decide +kernel
theorem dX4_layBase_9 : decode cX4_layBase 9 = .ok (.iload_n 2, 1) := by decide +kernel
theorem dX4_layBase_10 : decode cX4_layBase 10 = .ok (.aload_n 0, 1) := by decide +kernel
theorem dX4_layBase_11 : decode cX4_layBase 11 = .ok (.iload_n 1, 1) := by decide +kernel
theorem dX4_layBase_12 : decode cX4_layBase 12 = .ok (.invokevirtual 41, 3) := by decide +kernel
theorem dX4_layBase_15 : decode cX4_layBase 15 = .ok (.if_icmp .ge 23, 3) := by decide +kernel
theorem dX4_layBase_18 : decode cX4_layBase 18 = .ok (.aload_n 0, 1) := by decide +kernel
theorem dX4_layBase_19 : decode cX4_layBase 19 = .ok (.getfield 12, 3) := by decide +kernel
theorem dX4_layBase_22 : decode cX4_layBase 22 = .ok (.aload_n 0, 1) := by decide +kernel
theorem dX4_layBase_23 : decode cX4_layBase 23 = .ok (.iload_n 1, 1) := by decide +kernel
theorem dX4_layBase_24 : decode cX4_layBase 24 = .ok (.iload_n 2, 1) := by decide +kernel
theorem dX4_layBase_25 : decode cX4_layBase 25 = .ok (.iconst 2, 1) := by decide +kernel
theorem dX4_layBase_26 : decode cX4_layBase 26 = .ok (.invokevirtual 106, 3) := by decide +kernel
theorem dX4_layBase_29 : decode cX4_layBase 29 = .ok (.invokevirtual 110, 3) := by decide +kernel
theorem dX4_layBase_32 : decode cX4_layBase 32 = .ok (.iinc 2 1, 3) := by decide +kernel
theorem dX4_layBase_35 : decode cX4_layBase 35 = .ok (.goto (-26), 3) := by decide +kernel
theorem dX4_layBase_38 : decode cX4_layBase 38 = .ok (.return_, 1) := by decide +kernel
theorem dX4_commonDivisor_0 : decode cX4_commonDivisor 0 = .ok (.iconst 0, 1) := by decide +kernel
theorem dX4_commonDivisor_1 : decode cX4_commonDivisor 1 = .ok (.istore_n 2, 1) := by decide +kernel
theorem dX4_commonDivisor_2 : decode cX4_commonDivisor 2 = .ok (.iload_n 2, 1) := by decide +kernel
theorem dX4_commonDivisor_3 : decode cX4_commonDivisor 3 = .ok (.bipush 64, 2) := by decide +kernel
theorem dX4_commonDivisor_5 : decode cX4_commonDivisor 5 = .ok (.if_icmp .ge 21, 3) := by decide +kernel
theorem dX4_commonDivisor_8 : decode cX4_commonDivisor 8 = .ok (.iload_n 1, 1) := by decide +kernel
theorem dX4_commonDivisor_9 : decode cX4_commonDivisor 9 = .ok (.ifCond .eq 17, 3) := by decide +kernel
theorem dX4_commonDivisor_12 : decode cX4_commonDivisor 12 = .ok (.iload_n 0, 1) := by decide +kernel
theorem dX4_commonDivisor_13 : decode cX4_commonDivisor 13 = .ok (.iload_n 1, 1) := by decide +kernel
theorem dX4_commonDivisor_14 : decode cX4_commonDivisor 14 = .ok (.irem, 1) := by decide +kernel
theorem dX4_commonDivisor_15 : decode cX4_commonDivisor 15 = .ok (.istore_n 3, 1) := by decide +kernel
theorem dX4_commonDivisor_16 : decode cX4_commonDivisor 16 = .ok (.iload_n 1, 1) := by decide +kernel
theorem dX4_commonDivisor_17 : decode cX4_commonDivisor 17 = .ok (.istore_n 0, 1) := by decide +kernel
theorem dX4_commonDivisor_18 : decode cX4_commonDivisor 18 = .ok (.iload_n 3, 1) := by decide +kernel
theorem dX4_commonDivisor_19 : decode cX4_commonDivisor 19 = .ok (.istore_n 1, 1) := by decide +kernel
theorem dX4_commonDivisor_20 : decode cX4_commonDivisor 20 = .ok (.iinc 2 1, 3) := by decide +kernel
theorem dX4_commonDivisor_23 : decode cX4_commonDivisor 23 = .ok (.goto (-21), 3) := by decide +kernel
theorem dX4_commonDivisor_26 : decode cX4_commonDivisor 26 = .ok (.iload_n 0, 1) := by decide +kernel
theorem dX4_commonDivisor_27 : decode cX4_commonDivisor 27 = .ok (.ireturn, 1) := by decide +kernel
set_option maxRecDepth 20000 in
theorem ggX5_init_X2_init : GoodIn wsX5_init wsX2_init := goodIn_r _ [29, 30, 2, 3, 31, 32, 61, 62] (by decide +kernel) (by decide +kernel)
set_option maxRecDepth 20000 in
theorem gX5_init_X2_init : GoodIn wsX5_init (wsX2_init) := ggX5_init_X2_init
set_option maxRecDepth 20000 in
theorem ggX5_init_X0_init : GoodIn wsX5_init wsX0_init := goodIn_r _ [35, 36, 2, 3, 31, 37, 38, 39, 40, 41, 74, 75, 76, 77, 78] (by decide +kernel) (by decide +kernel)
set_option maxRecDepth 20000 in
theorem gX5_init_X0_init : GoodIn wsX5_init (wsX0_init) := ggX5_init_X0_init
set_option maxRecDepth 20000 in
theorem ggX5_init_X4_init : GoodIn wsX5_init wsX4_init := goodIn_r _ [44, 45, 2, 3, 46, 5, 6, 47, 31, 48, 49, 50, 51, 52, 53, 54, 28, 29, 30, 32, 61, 62, 79, 80, 81, 82, 83, 84, 85, 86, 87] (by decide +kernel) (by decide +kernel)
set_option maxRecDepth 20000 in
theorem gX5_init_X4_init : GoodIn wsX5_init (wsX4_init) := ggX5_init_X4_init
set_option maxRecDepth 20000 in
theorem ggX5_init_X1_init : GoodIn wsX5_init wsX1_init := goodIn_r _ [56, 57, 2, 3] (by decide +kernel) (by decide +kernel)
set_option maxRecDepth 20000 in
theorem gX5_init_X1_init_n38 : GoodIn wsX5_init (wsX1_init) := ggX5_init_X1_init
set_option maxRecDepth 20000 in
theorem ggX5_init_X3_init : GoodIn wsX5_init wsX3_init := goodIn_r _ [59, 60, 2, 3] (by decide +kernel) (by decide +kernel)
set_option maxRecDepth 20000 in
theorem gX5_init_X3_init_n45 : GoodIn wsX5_init (wsX3_init) := ggX5_init_X3_init
