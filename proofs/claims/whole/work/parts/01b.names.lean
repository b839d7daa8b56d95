theorem dX0_init_0 : decode cX0_init 0 = .ok (.aload_n 0, 1) := by decide +kernel
theorem dX0_init_1 : decode cX0_init 1 = .ok (.invokespecial 3, 3) := by decide +kernel
theorem dX0_init_4 : decode cX0_init 4 = .ok (.aload_n 0, 1) := by decide +kernel
theorem dX0_init_5 : decode cX0_init 5 = .ok (.bipush 60, 2) := by decide +kernel
theorem dX0_init_7 : decode cX0_init 7 = .ok (.newarray .int, 2) := by decide +kernel
theorem dX0_init_9 : decode cX0_init 9 = .ok (.putfield 9, 3) := by decide +kernel
theorem dX0_init_12 : decode cX0_init 12 = .ok (.aload_n 0, 1) := by decide +kernel
theorem dX0_init_13 : decode cX0_init 13 = .ok (.bipush 61, 2) := by decide +kernel
theorem dX0_init_15 : decode cX0_init 15 = .ok (.newarray .int, 2) := by decide +kernel
theorem dX0_init_17 : decode cX0_init 17 = .ok (.putfield 15, 3) := by decide +kernel
theorem dX0_init_20 : decode cX0_init 20 = .ok (.aload_n 0, 1) := by decide +kernel
theorem dX0_init_21 : decode cX0_init 21 = .ok (.bipush 60, 2) := by decide +kernel
theorem dX0_init_23 : decode cX0_init 23 = .ok (.newarray .int, 2) := by decide +kernel
theorem dX0_init_25 : decode cX0_init 25 = .ok (.putfield 18, 3) := by decide +kernel
theorem dX0_init_28 : decode cX0_init 28 = .ok (.aload_n 0, 1) := by decide +kernel
theorem dX0_init_29 : decode cX0_init 29 = .ok (.bipush 60, 2) := by decide +kernel
theorem dX0_init_31 : decode cX0_init 31 = .ok (.newarray .int, 2) := by decide +kernel
theorem dX0_init_33 : decode cX0_init 33 = .ok (.putfield 21, 3) := by decide +kernel
theorem dX0_init_36 : decode cX0_init 36 = .ok (.aload_n 0, 1) := by decide +kernel
theorem dX0_init_37 : decode cX0_init 37 = .ok (.bipush 60, 2) := by decide +kernel
theorem dX0_init_39 : decode cX0_init 39 = .ok (.newarray .int, 2) := by decide +kernel
theorem dX0_init_41 : decode cX0_init 41 = .ok (.putfield 24, 3) := by decide +kernel
theorem dX0_init_44 : decode cX0_init 44 = .ok (.return_, 1) := by decide +kernel
set_option maxRecDepth 20000 in
theorem ggX0_cut_X2_size : GoodIn wsX0_cut wsX2_size := goodIn_r _ [11, 12, 31, 32] (by decide +kernel) (by decide +kernel)
set_option maxRecDepth 20000 in
theorem gX0_cut_X2_size : GoodIn wsX0_cut (wsV RX0 27 RX2 yX2_size wsX2_size) := goodIn_app (goodIn_of _ (by decide +kernel)) ggX0_cut_X2_size
set_option maxRecDepth 20000 in
theorem ggX0_cut_X2_key : GoodIn wsX0_cut wsX2_key := goodIn_r _ [16, 12, 17, 31, 32] (by decide +kernel) (by decide +kernel)
set_option maxRecDepth 20000 in
theorem gX0_cut_X2_key : GoodIn wsX0_cut (wsV RX0 39 RX2 yX2_key wsX2_key) := goodIn_app (goodIn_of _ (by decide +kernel)) ggX0_cut_X2_key
set_option maxRecDepth 20000 in
theorem ggX0_cut_X0_cutFrom : GoodIn wsX0_cut wsX0_cutFrom := goodIn_r _ [22, 6, 23, 24, 25, 5, 26, 27, 28, 29, 30] (by decide +kernel) (by decide +kernel)
set_option maxRecDepth 20000 in
theorem gX0_cut_X0_cutFrom : GoodIn wsX0_cut (wsV RX0 43 RX0 yX0_cutFrom wsX0_cutFrom) := goodIn_app (goodIn_of _ (by decide +kernel)) ggX0_cut_X0_cutFrom
theorem dX0_cut_0 : decode cX0_cut 0 = .ok (.aload_n 1, 1) := by decide +kernel
theorem dX0_cut_1 : decode cX0_cut 1 = .ok (.invokevirtual 27, 3) := by decide +kernel
theorem dX0_cut_4 : decode cX0_cut 4 = .ok (.bipush 60, 2) := by decide +kernel
theorem dX0_cut_6 : decode cX0_cut 6 = .ok (.invokestatic 33, 3) := by decide +kernel
theorem dX0_cut_9 : decode cX0_cut 9 = .ok (.istore_n 3, 1) := by decide +kernel
theorem dX0_cut_10 : decode cX0_cut 10 = .ok (.iconst 0, 1) := by decide +kernel
theorem dX0_cut_11 : decode cX0_cut 11 = .ok (.istore 4, 2) := by decide +kernel
theorem dX0_cut_13 : decode cX0_cut 13 = .ok (.iload 4, 2) := by decide +kernel
theorem dX0_cut_15 : decode cX0_cut 15 = .ok (.iload_n 3, 1) := by decide +kernel
theorem dX0_cut_16 : decode cX0_cut 16 = .ok (.if_icmp .ge 22, 3) := by decide +kernel
theorem dX0_cut_19 : decode cX0_cut 19 = .ok (.aload_n 0, 1) := by decide +kernel
theorem dX0_cut_20 : decode cX0_cut 20 = .ok (.getfield 9, 3) := by decide +kernel
theorem dX0_cut_23 : decode cX0_cut 23 = .ok (.iload 4, 2) := by decide +kernel
theorem dX0_cut_25 : decode cX0_cut 25 = .ok (.aload_n 1, 1) := by decide +kernel
theorem dX0_cut_26 : decode cX0_cut 26 = .ok (.iload 4, 2) := by decide +kernel
theorem dX0_cut_28 : decode cX0_cut 28 = .ok (.invokevirtual 39, 3) := by decide +kernel
theorem dX0_cut_31 : decode cX0_cut 31 = .ok (.iastore, 1) := by decide +kernel
theorem dX0_cut_32 : decode cX0_cut 32 = .ok (.iinc 4 1, 3) := by decide +kernel
theorem dX0_cut_35 : decode cX0_cut 35 = .ok (.goto (-22), 3) := by decide +kernel
theorem dX0_cut_38 : decode cX0_cut 38 = .ok (.aload_n 0, 1) := by decide +kernel
theorem dX0_cut_39 : decode cX0_cut 39 = .ok (.getfield 15, 3) := by decide +kernel
theorem dX0_cut_42 : decode cX0_cut 42 = .ok (.iload_n 3, 1) := by decide +kernel
theorem dX0_cut_43 : decode cX0_cut 43 = .ok (.iconst 0, 1) := by decide +kernel
theorem dX0_cut_44 : decode cX0_cut 44 = .ok (.iastore, 1) := by decide +kernel
theorem dX0_cut_45 : decode cX0_cut 45 = .ok (.iload_n 3, 1) := by decide +kernel
theorem dX0_cut_46 : decode cX0_cut 46 = .ok (.iconst 1, 1) := by decide +kernel
theorem dX0_cut_47 : decode cX0_cut 47 = .ok (.isub, 1) := by decide +kernel
theorem dX0_cut_48 : decode cX0_cut 48 = .ok (.istore 4, 2) := by decide +kernel
theorem dX0_cut_50 : decode cX0_cut 50 = .ok (.iload 4, 2) := by decide +kernel
theorem dX0_cut_52 : decode cX0_cut 52 = .ok (.ifCond .lt 17, 3) := by decide +kernel
theorem dX0_cut_55 : decode cX0_cut 55 = .ok (.aload_n 0, 1) := by decide +kernel
theorem dX0_cut_56 : decode cX0_cut 56 = .ok (.iload 4, 2) := by decide +kernel
theorem dX0_cut_58 : decode cX0_cut 58 = .ok (.iload_n 3, 1) := by decide +kernel
theorem dX0_cut_59 : decode cX0_cut 59 = .ok (.iload_n 2, 1) := by decide +kernel
theorem dX0_cut_60 : decode cX0_cut 60 = .ok (.invokevirtual 43, 3) := by decide +kernel
theorem dX0_cut_63 : decode cX0_cut 63 = .ok (.iinc 4 (-1), 3) := by decide +kernel
theorem dX0_cut_66 : decode cX0_cut 66 = .ok (.goto (-16), 3) := by decide +kernel
theorem dX0_cut_69 : decode cX0_cut 69 = .ok (.return_, 1) := by decide +kernel
set_option maxRecDepth 20000 in
theorem ggX0_fewestFrom_X0_isRank : GoodIn wsX0_fewestFrom wsX0_isRank := goodIn_r _ [5] (by decide +kernel) (by decide +kernel)
set_option maxRecDepth 20000 in
theorem gX0_fewestFrom_X0_isRank : GoodIn wsX0_fewestFrom (va_wsS RX0 47 yX0_isRank wsX0_isRank) := goodIn_app (goodIn_of _ (by decide +kernel)) ggX0_fewestFrom_X0_isRank
theorem dX0_fewestFrom_0 : decode cX0_fewestFrom 0 = .ok (.iload_n 1, 1) := by decide +kernel
theorem dX0_fewestFrom_1 : decode cX0_fewestFrom 1 = .ok (.invokestatic 47, 3) := by decide +kernel
theorem dX0_fewestFrom_4 : decode cX0_fewestFrom 4 = .ok (.ifCond .eq 12, 3) := by decide +kernel
theorem dX0_fewestFrom_7 : decode cX0_fewestFrom 7 = .ok (.aload_n 0, 1) := by decide +kernel
theorem dX0_fewestFrom_8 : decode cX0_fewestFrom 8 = .ok (.getfield 15, 3) := by decide +kernel
theorem dX0_fewestFrom_11 : decode cX0_fewestFrom 11 = .ok (.iload_n 1, 1) := by decide +kernel
theorem dX0_fewestFrom_12 : decode cX0_fewestFrom 12 = .ok (.iaload, 1) := by decide +kernel
theorem dX0_fewestFrom_13 : decode cX0_fewestFrom 13 = .ok (.goto 4, 3) := by decide +kernel
theorem dX0_fewestFrom_16 : decode cX0_fewestFrom 16 = .ok (.iconst 0, 1) := by decide +kernel
theorem dX0_fewestFrom_17 : decode cX0_fewestFrom 17 = .ok (.ireturn, 1) := by decide +kernel
set_option maxRecDepth 20000 in
theorem ggX0_lastOf_X0_isRank : GoodIn wsX0_lastOf wsX0_isRank := goodIn_r _ [5] (by decide +kernel) (by decide +kernel)
set_option maxRecDepth 20000 in
theorem gX0_lastOf_X0_isRank : GoodIn wsX0_lastOf (va_wsS RX0 47 yX0_isRank wsX0_isRank) := goodIn_app (goodIn_of _ (by decide +kernel)) ggX0_lastOf_X0_isRank
theorem dX0_lastOf_0 : decode cX0_lastOf 0 = .ok (.iload_n 1, 1) := by decide +kernel
theorem dX0_lastOf_1 : decode cX0_lastOf 1 = .ok (.invokestatic 47, 3) := by decide +kernel
theorem dX0_lastOf_4 : decode cX0_lastOf 4 = .ok (.ifCond .eq 12, 3) := by decide +kernel
theorem dX0_lastOf_7 : decode cX0_lastOf 7 = .ok (.aload_n 0, 1) := by decide +kernel
theorem dX0_lastOf_8 : decode cX0_lastOf 8 = .ok (.getfield 18, 3) := by decide +kernel
theorem dX0_lastOf_11 : decode cX0_lastOf 11 = .ok (.iload_n 1, 1) := by decide +kernel
theorem dX0_lastOf_12 : decode cX0_lastOf 12 = .ok (.iaload, 1) := by decide +kernel
theorem dX0_lastOf_13 : decode cX0_lastOf 13 = .ok (.goto 4, 3) := by decide +kernel
theorem dX0_lastOf_16 : decode cX0_lastOf 16 = .ok (.iload_n 1, 1) := by decide +kernel
theorem dX0_lastOf_17 : decode cX0_lastOf 17 = .ok (.ireturn, 1) := by decide +kernel
set_option maxRecDepth 20000 in
theorem ggX0_slopeNum_X0_isRank : GoodIn wsX0_slopeNum wsX0_isRank := goodIn_r _ [5] (by decide +kernel) (by decide +kernel)
set_option maxRecDepth 20000 in
theorem gX0_slopeNum_X0_isRank : GoodIn wsX0_slopeNum (va_wsS RX0 47 yX0_isRank wsX0_isRank) := goodIn_app (goodIn_of _ (by decide +kernel)) ggX0_slopeNum_X0_isRank
theorem dX0_slopeNum_0 : decode cX0_slopeNum 0 = .ok (.iload_n 1, 1) := by decide +kernel
theorem dX0_slopeNum_1 : decode cX0_slopeNum 1 = .ok (.invokestatic 47, 3) := by decide +kernel
theorem dX0_slopeNum_4 : decode cX0_slopeNum 4 = .ok (.ifCond .eq 12, 3) := by decide +kernel
theorem dX0_slopeNum_7 : decode cX0_slopeNum 7 = .ok (.aload_n 0, 1) := by decide +kernel
theorem dX0_slopeNum_8 : decode cX0_slopeNum 8 = .ok (.getfield 21, 3) := by decide +kernel
theorem dX0_slopeNum_11 : decode cX0_slopeNum 11 = .ok (.iload_n 1, 1) := by decide +kernel
theorem dX0_slopeNum_12 : decode cX0_slopeNum 12 = .ok (.iaload, 1) := by decide +kernel
theorem dX0_slopeNum_13 : decode cX0_slopeNum 13 = .ok (.goto 4, 3) := by decide +kernel
theorem dX0_slopeNum_16 : decode cX0_slopeNum 16 = .ok (.iconst 0, 1) := by decide +kernel
theorem dX0_slopeNum_17 : decode cX0_slopeNum 17 = .ok (.ireturn, 1) := by decide +kernel
set_option maxRecDepth 20000 in
theorem ggX0_slopeDen_X0_isRank : GoodIn wsX0_slopeDen wsX0_isRank := goodIn_r _ [5] (by decide +kernel) (by decide +kernel)
set_option maxRecDepth 20000 in
theorem gX0_slopeDen_X0_isRank : GoodIn wsX0_slopeDen (va_wsS RX0 47 yX0_isRank wsX0_isRank) := goodIn_app (goodIn_of _ (by decide +kernel)) ggX0_slopeDen_X0_isRank
theorem dX0_slopeDen_0 : decode cX0_slopeDen 0 = .ok (.iload_n 1, 1) := by decide +kernel
theorem dX0_slopeDen_1 : decode cX0_slopeDen 1 = .ok (.invokestatic 47, 3) := by decide +kernel
theorem dX0_slopeDen_4 : decode cX0_slopeDen 4 = .ok (.ifCond .eq 12, 3) := by decide +kernel
theorem dX0_slopeDen_7 : decode cX0_slopeDen 7 = .ok (.aload_n 0, 1) := by decide +kernel
theorem dX0_slopeDen_8 : decode cX0_slopeDen 8 = .ok (.getfield 24, 3) := by decide +kernel
theorem dX0_slopeDen_11 : decode cX0_slopeDen 11 = .ok (.iload_n 1, 1) := by decide +kernel
theorem dX0_slopeDen_12 : decode cX0_slopeDen 12 = .ok (.iaload, 1) := by decide +kernel
theorem dX0_slopeDen_13 : decode cX0_slopeDen 13 = .ok (.goto 4, 3) := by decide +kernel
theorem dX0_slopeDen_16 : decode cX0_slopeDen 16 = .ok (.iconst 1, 1) := by decide +kernel
theorem dX0_slopeDen_17 : decode cX0_slopeDen 17 = .ok (.ireturn, 1) := by decide +kernel
theorem dX0_isRank_0 : decode cX0_isRank 0 = .ok (.iload_n 0, 1) := by decide +kernel
theorem dX0_isRank_1 : decode cX0_isRank 1 = .ok (.ifCond .lt 13, 3) := by decide +kernel
theorem dX0_isRank_4 : decode cX0_isRank 4 = .ok (.iload_n 0, 1) := by decide +kernel
theorem dX0_isRank_5 : decode cX0_isRank 5 = .ok (.bipush 60, 2) := by decide +kernel
theorem dX0_isRank_7 : decode cX0_isRank 7 = .ok (.if_icmp .ge 7, 3) := by decide +kernel
theorem dX0_isRank_10 : decode cX0_isRank 10 = .ok (.iconst 1, 1) := by decide +kernel
theorem dX0_isRank_11 : decode cX0_isRank 11 = .ok (.goto 4, 3) := by decide +kernel
theorem dX0_isRank_14 : decode cX0_isRank 14 = .ok (.iconst 0, 1) := by decide +kernel
theorem dX0_isRank_15 : decode cX0_isRank 15 = .ok (.ireturn, 1) := by decide +kernel
theorem dX0_cutFrom_0 : decode cX0_cutFrom 0 = .ok (.iload_n 1, 1) := by decide +kernel
theorem dX0_cutFrom_1 : decode cX0_cutFrom 1 = .ok (.ifCond .lt 14, 3) := by decide +kernel
theorem dX0_cutFrom_4 : decode cX0_cutFrom 4 = .ok (.iload_n 1, 1) := by decide +kernel
theorem dX0_cutFrom_5 : decode cX0_cutFrom 5 = .ok (.iload_n 2, 1) := by decide +kernel
theorem dX0_cutFrom_6 : decode cX0_cutFrom 6 = .ok (.if_icmp .ge 9, 3) := by decide +kernel
theorem dX0_cutFrom_9 : decode cX0_cutFrom 9 = .ok (.iload_n 2, 1) := by decide +kernel
theorem dX0_cutFrom_10 : decode cX0_cutFrom 10 = .ok (.bipush 60, 2) := by decide +kernel
theorem dX0_cutFrom_12 : decode cX0_cutFrom 12 = .ok (.if_icmp .le 4, 3) := by decide +kernel
theorem dX0_cutFrom_15 : decode cX0_cutFrom 15 = .ok (.return_, 1) := by decide +kernel
theorem dX0_cutFrom_16 : decode cX0_cutFrom 16 = .ok (.iconst 0, 1) := by decide +kernel
theorem dX0_cutFrom_17 : decode cX0_cutFrom 17 = .ok (.istore 4, 2) := by decide +kernel
theorem dX0_cutFrom_19 : decode cX0_cutFrom 19 = .ok (.iconst 1, 1) := by decide +kernel
theorem dX0_cutFrom_20 : decode cX0_cutFrom 20 = .ok (.istore 5, 2) := by decide +kernel
theorem dX0_cutFrom_22 : decode cX0_cutFrom 22 = .ok (.iconst 1, 1) := by decide +kernel
theorem dX0_cutFrom_23 : decode cX0_cutFrom 23 = .ok (.istore 6, 2) := by decide +kernel
theorem dX0_cutFrom_25 : decode cX0_cutFrom 25 = .ok (.iconst 0, 1) := by decide +kernel
theorem dX0_cutFrom_26 : decode cX0_cutFrom 26 = .ok (.istore 7, 2) := by decide +kernel
theorem dX0_cutFrom_28 : decode cX0_cutFrom 28 = .ok (.aload_n 0, 1) := by decide +kernel
theorem dX0_cutFrom_29 : decode cX0_cutFrom 29 = .ok (.getfield 15, 3) := by decide +kernel
theorem dX0_cutFrom_32 : decode cX0_cutFrom 32 = .ok (.iload_n 1, 1) := by decide +kernel
theorem dX0_cutFrom_33 : decode cX0_cutFrom 33 = .ok (.aload_n 0, 1) := by decide +kernel
theorem dX0_cutFrom_34 : decode cX0_cutFrom 34 = .ok (.getfield 15, 3) := by decide +kernel
theorem dX0_cutFrom_37 : decode cX0_cutFrom 37 = .ok (.iload_n 1, 1) := by decide +kernel
theorem dX0_cutFrom_38 : decode cX0_cutFrom 38 = .ok (.iconst 1, 1) := by decide +kernel
theorem dX0_cutFrom_39 : decode cX0_cutFrom 39 = .ok (.iadd, 1) := by decide +kernel
theorem dX0_cutFrom_40 : decode cX0_cutFrom 40 = .ok (.iaload, 1) := by decide +kernel
theorem dX0_cutFrom_41 : decode cX0_cutFrom 41 = .ok (.iconst 1, 1) := by decide +kernel
theorem dX0_cutFrom_42 : decode cX0_cutFrom 42 = .ok (.iadd, 1) := by decide +kernel
theorem dX0_cutFrom_43 : decode cX0_cutFrom 43 = .ok (.iastore, 1) := by decide +kernel
theorem dX0_cutFrom_44 : decode cX0_cutFrom 44 = .ok (.aload_n 0, 1) := by decide +kernel
theorem dX0_cutFrom_45 : decode cX0_cutFrom 45 = .ok (.getfield 18, 3) := by decide +kernel
theorem dX0_cutFrom_48 : decode cX0_cutFrom 48 = .ok (.iload_n 1, 1) := by decide +kernel
theorem dX0_cutFrom_49 : decode cX0_cutFrom 49 = .ok (.iload_n 1, 1) := by decide +kernel
theorem dX0_cutFrom_50 : decode cX0_cutFrom 50 = .ok (.iastore, 1) := by decide +kernel
theorem dX0_cutFrom_51 : decode cX0_cutFrom 51 = .ok (.aload_n 0, 1) := by decide +kernel
theorem dX0_cutFrom_52 : decode cX0_cutFrom 52 = .ok (.getfield 21, 3) := by decide +kernel
theorem dX0_cutFrom_55 : decode cX0_cutFrom 55 = .ok (.iload_n 1, 1) := by decide +kernel
theorem dX0_cutFrom_56 : decode cX0_cutFrom 56 = .ok (.iload 4, 2) := by decide +kernel
theorem dX0_cutFrom_58 : decode cX0_cutFrom 58 = .ok (.iastore, 1) := by decide +kernel
theorem dX0_cutFrom_59 : decode cX0_cutFrom 59 = .ok (.aload_n 0, 1) := by decide +kernel
theorem dX0_cutFrom_60 : decode cX0_cutFrom 60 = .ok (.getfield 24, 3) := by decide +kernel
theorem dX0_cutFrom_63 : decode cX0_cutFrom 63 = .ok (.iload_n 1, 1) := by decide +kernel
theorem dX0_cutFrom_64 : decode cX0_cutFrom 64 = .ok (.iload 5, 2) := by decide +kernel
theorem dX0_cutFrom_66 : decode cX0_cutFrom 66 = .ok (.iastore, 1) := by decide +kernel
theorem dX0_cutFrom_67 : decode cX0_cutFrom 67 = .ok (.iload_n 1, 1) := by decide +kernel
theorem dX0_cutFrom_68 : decode cX0_cutFrom 68 = .ok (.iconst 1, 1) := by decide +kernel
theorem dX0_cutFrom_69 : decode cX0_cutFrom 69 = .ok (.iadd, 1) := by decide +kernel
theorem dX0_cutFrom_70 : decode cX0_cutFrom 70 = .ok (.istore 8, 2) := by decide +kernel
theorem dX0_cutFrom_72 : decode cX0_cutFrom 72 = .ok (.iload 8, 2) := by decide +kernel
theorem dX0_cutFrom_74 : decode cX0_cutFrom 74 = .ok (.iload_n 2, 1) := by decide +kernel
theorem dX0_cutFrom_75 : decode cX0_cutFrom 75 = .ok (.if_icmp .ge 160, 3) := by decide +kernel
theorem dX0_cutFrom_78 : decode cX0_cutFrom 78 = .ok (.aload_n 0, 1) := by decide +kernel
theorem dX0_cutFrom_79 : decode cX0_cutFrom 79 = .ok (.getfield 9, 3) := by decide +kernel
theorem dX0_cutFrom_82 : decode cX0_cutFrom 82 = .ok (.iload 8, 2) := by decide +kernel
theorem dX0_cutFrom_84 : decode cX0_cutFrom 84 = .ok (.iaload, 1) := by decide +kernel
theorem dX0_cutFrom_85 : decode cX0_cutFrom 85 = .ok (.aload_n 0, 1) := by decide +kernel
theorem dX0_cutFrom_86 : decode cX0_cutFrom 86 = .ok (.getfield 9, 3) := by decide +kernel
theorem dX0_cutFrom_89 : decode cX0_cutFrom 89 = .ok (.iload_n 1, 1) := by decide +kernel
theorem dX0_cutFrom_90 : decode cX0_cutFrom 90 = .ok (.iaload, 1) := by decide +kernel
theorem dX0_cutFrom_91 : decode cX0_cutFrom 91 = .ok (.isub, 1) := by decide +kernel
theorem dX0_cutFrom_92 : decode cX0_cutFrom 92 = .ok (.istore 9, 2) := by decide +kernel
theorem dX0_cutFrom_94 : decode cX0_cutFrom 94 = .ok (.iload 8, 2) := by decide +kernel
theorem dX0_cutFrom_96 : decode cX0_cutFrom 96 = .ok (.iload_n 1, 1) := by decide +kernel
theorem dX0_cutFrom_97 : decode cX0_cutFrom 97 = .ok (.isub, 1) := by decide +kernel
theorem dX0_cutFrom_98 : decode cX0_cutFrom 98 = .ok (.iload_n 3, 1) := by decide +kernel
theorem dX0_cutFrom_99 : decode cX0_cutFrom 99 = .ok (.isub, 1) := by decide +kernel
theorem dX0_cutFrom_100 : decode cX0_cutFrom 100 = .ok (.istore 10, 2) := by decide +kernel
theorem dX0_cutFrom_102 : decode cX0_cutFrom 102 = .ok (.iload 8, 2) := by decide +kernel
theorem dX0_cutFrom_104 : decode cX0_cutFrom 104 = .ok (.iload_n 1, 1) := by decide +kernel
theorem dX0_cutFrom_105 : decode cX0_cutFrom 105 = .ok (.isub, 1) := by decide +kernel
theorem dX0_cutFrom_106 : decode cX0_cutFrom 106 = .ok (.iload_n 3, 1) := by decide +kernel
theorem dX0_cutFrom_107 : decode cX0_cutFrom 107 = .ok (.iadd, 1) := by decide +kernel
theorem dX0_cutFrom_108 : decode cX0_cutFrom 108 = .ok (.istore 11, 2) := by decide +kernel
theorem dX0_cutFrom_110 : decode cX0_cutFrom 110 = .ok (.iload 10, 2) := by decide +kernel
theorem dX0_cutFrom_112 : decode cX0_cutFrom 112 = .ok (.iload 5, 2) := by decide +kernel
theorem dX0_cutFrom_114 : decode cX0_cutFrom 114 = .ok (.imul, 1) := by decide +kernel
theorem dX0_cutFrom_115 : decode cX0_cutFrom 115 = .ok (.iload 4, 2) := by decide +kernel
theorem dX0_cutFrom_117 : decode cX0_cutFrom 117 = .ok (.iload 9, 2) := by decide +kernel
theorem dX0_cutFrom_119 : decode cX0_cutFrom 119 = .ok (.imul, 1) := by decide +kernel
theorem dX0_cutFrom_120 : decode cX0_cutFrom 120 = .ok (.if_icmp .le 11, 3) := by decide +kernel
theorem dX0_cutFrom_123 : decode cX0_cutFrom 123 = .ok (.iload 10, 2) := by decide +kernel
theorem dX0_cutFrom_125 : decode cX0_cutFrom 125 = .ok (.istore 4, 2) := by decide +kernel
theorem dX0_cutFrom_127 : decode cX0_cutFrom 127 = .ok (.iload 9, 2) := by decide +kernel
theorem dX0_cutFrom_129 : decode cX0_cutFrom 129 = .ok (.istore 5, 2) := by decide +kernel
theorem dX0_cutFrom_131 : decode cX0_cutFrom 131 = .ok (.iload 11, 2) := by decide +kernel
theorem dX0_cutFrom_133 : decode cX0_cutFrom 133 = .ok (.iload 7, 2) := by decide +kernel
theorem dX0_cutFrom_135 : decode cX0_cutFrom 135 = .ok (.imul, 1) := by decide +kernel
theorem dX0_cutFrom_136 : decode cX0_cutFrom 136 = .ok (.iload 6, 2) := by decide +kernel
theorem dX0_cutFrom_138 : decode cX0_cutFrom 138 = .ok (.iload 9, 2) := by decide +kernel
theorem dX0_cutFrom_140 : decode cX0_cutFrom 140 = .ok (.imul, 1) := by decide +kernel
theorem dX0_cutFrom_141 : decode cX0_cutFrom 141 = .ok (.if_icmp .ge 11, 3) := by decide +kernel
theorem dX0_cutFrom_144 : decode cX0_cutFrom 144 = .ok (.iload 11, 2) := by decide +kernel
theorem dX0_cutFrom_146 : decode cX0_cutFrom 146 = .ok (.istore 6, 2) := by decide +kernel
theorem dX0_cutFrom_148 : decode cX0_cutFrom 148 = .ok (.iload 9, 2) := by decide +kernel
theorem dX0_cutFrom_150 : decode cX0_cutFrom 150 = .ok (.istore 7, 2) := by decide +kernel
theorem dX0_cutFrom_152 : decode cX0_cutFrom 152 = .ok (.iload 4, 2) := by decide +kernel
theorem dX0_cutFrom_154 : decode cX0_cutFrom 154 = .ok (.iload 7, 2) := by decide +kernel
theorem dX0_cutFrom_156 : decode cX0_cutFrom 156 = .ok (.imul, 1) := by decide +kernel
theorem dX0_cutFrom_157 : decode cX0_cutFrom 157 = .ok (.iload 6, 2) := by decide +kernel
theorem dX0_cutFrom_159 : decode cX0_cutFrom 159 = .ok (.iload 5, 2) := by decide +kernel
theorem dX0_cutFrom_161 : decode cX0_cutFrom 161 = .ok (.imul, 1) := by decide +kernel
theorem dX0_cutFrom_162 : decode cX0_cutFrom 162 = .ok (.if_icmp .le 6, 3) := by decide +kernel
theorem dX0_cutFrom_165 : decode cX0_cutFrom 165 = .ok (.goto 70, 3) := by decide +kernel
theorem dX0_cutFrom_168 : decode cX0_cutFrom 168 = .ok (.aload_n 0, 1) := by decide +kernel
theorem dX0_cutFrom_169 : decode cX0_cutFrom 169 = .ok (.getfield 15, 3) := by decide +kernel
theorem dX0_cutFrom_172 : decode cX0_cutFrom 172 = .ok (.iload 8, 2) := by decide +kernel
theorem dX0_cutFrom_174 : decode cX0_cutFrom 174 = .ok (.iconst 1, 1) := by decide +kernel
theorem dX0_cutFrom_175 : decode cX0_cutFrom 175 = .ok (.iadd, 1) := by decide +kernel
theorem dX0_cutFrom_176 : decode cX0_cutFrom 176 = .ok (.iaload, 1) := by decide +kernel
theorem dX0_cutFrom_177 : decode cX0_cutFrom 177 = .ok (.iconst 1, 1) := by decide +kernel
theorem dX0_cutFrom_178 : decode cX0_cutFrom 178 = .ok (.iadd, 1) := by decide +kernel
theorem dX0_cutFrom_179 : decode cX0_cutFrom 179 = .ok (.aload_n 0, 1) := by decide +kernel
theorem dX0_cutFrom_180 : decode cX0_cutFrom 180 = .ok (.getfield 15, 3) := by decide +kernel
theorem dX0_cutFrom_183 : decode cX0_cutFrom 183 = .ok (.iload_n 1, 1) := by decide +kernel
theorem dX0_cutFrom_184 : decode cX0_cutFrom 184 = .ok (.iaload, 1) := by decide +kernel
theorem dX0_cutFrom_185 : decode cX0_cutFrom 185 = .ok (.if_icmp .gt 44, 3) := by decide +kernel
theorem dX0_cutFrom_188 : decode cX0_cutFrom 188 = .ok (.aload_n 0, 1) := by decide +kernel
theorem dX0_cutFrom_189 : decode cX0_cutFrom 189 = .ok (.getfield 15, 3) := by decide +kernel
theorem dX0_cutFrom_192 : decode cX0_cutFrom 192 = .ok (.iload_n 1, 1) := by decide +kernel
theorem dX0_cutFrom_193 : decode cX0_cutFrom 193 = .ok (.aload_n 0, 1) := by decide +kernel
theorem dX0_cutFrom_194 : decode cX0_cutFrom 194 = .ok (.getfield 15, 3) := by decide +kernel
theorem dX0_cutFrom_197 : decode cX0_cutFrom 197 = .ok (.iload 8, 2) := by decide +kernel
theorem dX0_cutFrom_199 : decode cX0_cutFrom 199 = .ok (.iconst 1, 1) := by decide +kernel
theorem dX0_cutFrom_200 : decode cX0_cutFrom 200 = .ok (.iadd, 1) := by decide +kernel
theorem dX0_cutFrom_201 : decode cX0_cutFrom 201 = .ok (.iaload, 1) := by decide +kernel
theorem dX0_cutFrom_202 : decode cX0_cutFrom 202 = .ok (.iconst 1, 1) := by decide +kernel
theorem dX0_cutFrom_203 : decode cX0_cutFrom 203 = .ok (.iadd, 1) := by decide +kernel
theorem dX0_cutFrom_204 : decode cX0_cutFrom 204 = .ok (.iastore, 1) := by decide +kernel
theorem dX0_cutFrom_205 : decode cX0_cutFrom 205 = .ok (.aload_n 0, 1) := by decide +kernel
theorem dX0_cutFrom_206 : decode cX0_cutFrom 206 = .ok (.getfield 18, 3) := by decide +kernel
theorem dX0_cutFrom_209 : decode cX0_cutFrom 209 = .ok (.iload_n 1, 1) := by decide +kernel
theorem dX0_cutFrom_210 : decode cX0_cutFrom 210 = .ok (.iload 8, 2) := by decide +kernel
theorem dX0_cutFrom_212 : decode cX0_cutFrom 212 = .ok (.iastore, 1) := by decide +kernel
theorem dX0_cutFrom_213 : decode cX0_cutFrom 213 = .ok (.aload_n 0, 1) := by decide +kernel
theorem dX0_cutFrom_214 : decode cX0_cutFrom 214 = .ok (.getfield 21, 3) := by decide +kernel
theorem dX0_cutFrom_217 : decode cX0_cutFrom 217 = .ok (.iload_n 1, 1) := by decide +kernel
theorem dX0_cutFrom_218 : decode cX0_cutFrom 218 = .ok (.iload 4, 2) := by decide +kernel
theorem dX0_cutFrom_220 : decode cX0_cutFrom 220 = .ok (.iastore, 1) := by decide +kernel
theorem dX0_cutFrom_221 : decode cX0_cutFrom 221 = .ok (.aload_n 0, 1) := by decide +kernel
theorem dX0_cutFrom_222 : decode cX0_cutFrom 222 = .ok (.getfield 24, 3) := by decide +kernel
theorem dX0_cutFrom_225 : decode cX0_cutFrom 225 = .ok (.iload_n 1, 1) := by decide +kernel
theorem dX0_cutFrom_226 : decode cX0_cutFrom 226 = .ok (.iload 5, 2) := by decide +kernel
theorem dX0_cutFrom_228 : decode cX0_cutFrom 228 = .ok (.iastore, 1) := by decide +kernel
theorem dX0_cutFrom_229 : decode cX0_cutFrom 229 = .ok (.iinc 8 1, 3) := by decide +kernel
theorem dX0_cutFrom_232 : decode cX0_cutFrom 232 = .ok (.goto (-160), 3) := by decide +kernel
theorem dX0_cutFrom_235 : decode cX0_cutFrom 235 = .ok (.return_, 1) := by decide +kernel
theorem dX1_init_0 : decode cX1_init 0 = .ok (.aload_n 0, 1) := by decide +kernel
theorem dX1_init_1 : decode cX1_init 1 = .ok (.invokespecial 1, 3) := by decide +kernel
theorem dX1_init_4 : decode cX1_init 4 = .ok (.return_, 1) := by decide +kernel
theorem dX1_clear_0 : decode cX1_clear 0 = .ok (.aload_n 0, 1) := by decide +kernel
theorem dX1_clear_1 : decode cX1_clear 1 = .ok (.lconst 0, 1) := by decide +kernel
theorem dX1_clear_2 : decode cX1_clear 2 = .ok (.putfield 7, 3) := by decide +kernel
theorem dX1_clear_5 : decode cX1_clear 5 = .ok (.return_, 1) := by decide +kernel
set_option maxRecDepth 20000 in
theorem ggX1_add_X1_bitsOf : GoodIn wsX1_add wsX1_bitsOf := goodIn_r _ [5] (by decide +kernel) (by decide +kernel)
set_option maxRecDepth 20000 in
theorem gX1_add_X1_bitsOf : GoodIn wsX1_add (va_wsS RX1 13 yX1_bitsOf wsX1_bitsOf) := goodIn_app (goodIn_of _ (by decide +kernel)) ggX1_add_X1_bitsOf
theorem dX1_add_0 : decode cX1_add 0 = .ok (.aload_n 0, 1) := by decide +kernel
theorem dX1_add_1 : decode cX1_add 1 = .ok (.dup, 1) := by decide +kernel
theorem dX1_add_2 : decode cX1_add 2 = .ok (.getfield 7, 3) := by decide +kernel
theorem dX1_add_5 : decode cX1_add 5 = .ok (.iload_n 1, 1) := by decide +kernel
theorem dX1_add_6 : decode cX1_add 6 = .ok (.invokestatic 13, 3) := by decide +kernel
theorem dX1_add_9 : decode cX1_add 9 = .ok (.lor, 1) := by decide +kernel
theorem dX1_add_10 : decode cX1_add 10 = .ok (.putfield 7, 3) := by decide +kernel
theorem dX1_add_13 : decode cX1_add 13 = .ok (.return_, 1) := by decide +kernel
set_option maxRecDepth 20000 in
theorem ggX1_passes_X1_bitsOf : GoodIn wsX1_passes wsX1_bitsOf := goodIn_r _ [5] (by decide +kernel) (by decide +kernel)
set_option maxRecDepth 20000 in
theorem gX1_passes_X1_bitsOf : GoodIn wsX1_passes (va_wsS RX1 13 yX1_bitsOf wsX1_bitsOf) := goodIn_app (goodIn_of _ (by decide +kernel)) ggX1_passes_X1_bitsOf
theorem dX1_passes_0 : decode cX1_passes 0 = .ok (.iload_n 1, 1) := by decide +kernel
theorem dX1_passes_1 : decode cX1_passes 1 = .ok (.invokestatic 13, 3) := by decide +kernel
theorem dX1_passes_4 : decode cX1_passes 4 = .ok (.lstore_n 2, 1) := by decide +kernel
theorem dX1_passes_5 : decode cX1_passes 5 = .ok (.aload_n 0, 1) := by decide +kernel
theorem dX1_passes_6 : decode cX1_passes 6 = .ok (.getfield 7, 3) := by decide +kernel
theorem dX1_passes_9 : decode cX1_passes 9 = .ok (.lload_n 2, 1) := by decide +kernel
theorem dX1_passes_10 : decode cX1_passes 10 = .ok (.land, 1) := by decide +kernel
theorem dX1_passes_11 : decode cX1_passes 11 = .ok (.lload_n 2, 1) := by decide +kernel
theorem dX1_passes_12 : decode cX1_passes 12 = .ok (.lcmp, 1) := by decide +kernel
theorem dX1_passes_13 : decode cX1_passes 13 = .ok (.ifCond .ne 7, 3) := by decide +kernel
theorem dX1_passes_16 : decode cX1_passes 16 = .ok (.iconst 1, 1) := by decide +kernel
theorem dX1_passes_17 : decode cX1_passes 17 = .ok (.goto 4, 3) := by decide +kernel
theorem dX1_passes_20 : decode cX1_passes 20 = .ok (.iconst 0, 1) := by decide +kernel
theorem dX1_passes_21 : decode cX1_passes 21 = .ok (.ireturn, 1) := by decide +kernel
set_option maxRecDepth 20000 in
theorem ggX1_bitsSet_J13_bitCount_95d88 : GoodIn wsX1_bitsSet wsJ13_bitCount_95d88 := goodIn_r _ [5, 6, 7, 8] (by decide +kernel) (by decide +kernel)
set_option maxRecDepth 20000 in
theorem gX1_bitsSet_J13_bitCount_95d88 : GoodIn wsX1_bitsSet (va_wsS RX1 17 yJ13_bitCount_95d88 wsJ13_bitCount_95d88) := goodIn_app (goodIn_of _ (by decide +kernel)) ggX1_bitsSet_J13_bitCount_95d88
theorem dX1_bitsSet_0 : decode cX1_bitsSet 0 = .ok (.aload_n 0, 1) := by decide +kernel
theorem dX1_bitsSet_1 : decode cX1_bitsSet 1 = .ok (.getfield 7, 3) := by decide +kernel
theorem dX1_bitsSet_4 : decode cX1_bitsSet 4 = .ok (.invokestatic 17, 3) := by decide +kernel
theorem dX1_bitsSet_7 : decode cX1_bitsSet 7 = .ok (.ireturn, 1) := by decide +kernel
theorem dX1_bitsOf_0 : decode cX1_bitsOf 0 = .ok (.lconst 1, 1) := by decide +kernel
theorem dX1_bitsOf_1 : decode cX1_bitsOf 1 = .ok (.iload_n 0, 1) := by decide +kernel
theorem dX1_bitsOf_2 : decode cX1_bitsOf 2 = .ok (.bipush 61, 2) := by decide +kernel
theorem dX1_bitsOf_4 : decode cX1_bitsOf 4 = .ok (.irem, 1) := by decide +kernel
theorem dX1_bitsOf_5 : decode cX1_bitsOf 5 = .ok (.lshl, 1) := by decide +kernel
theorem dX1_bitsOf_6 : decode cX1_bitsOf 6 = .ok (.lconst 1, 1) := by decide +kernel
theorem dX1_bitsOf_7 : decode cX1_bitsOf 7 = .ok (.iload_n 0, 1) := by decide +kernel
theorem dX1_bitsOf_8 : decode cX1_bitsOf 8 = .ok (.bipush 61, 2) := by decide +kernel
theorem dX1_bitsOf_10 : decode cX1_bitsOf 10 = .ok (.idiv, 1) := by decide +kernel
theorem dX1_bitsOf_11 : decode cX1_bitsOf 11 = .ok (.bipush 64, 2) := by decide +kernel
theorem dX1_bitsOf_13 : decode cX1_bitsOf 13 = .ok (.irem, 1) := by decide +kernel
theorem dX1_bitsOf_14 : decode cX1_bitsOf 14 = .ok (.lshl, 1) := by decide +kernel
theorem dX1_bitsOf_15 : decode cX1_bitsOf 15 = .ok (.lor, 1) := by decide +kernel
theorem dX1_bitsOf_16 : decode cX1_bitsOf 16 = .ok (.lreturn, 1) := by decide +kernel
