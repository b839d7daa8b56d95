theorem dX2_init_0 : decode cX2_init 0 = .ok (.aload_n 0, 1) := by decide +kernel
theorem dX2_init_1 : decode cX2_init 1 = .ok (.invokespecial 3, 3) := by decide +kernel
theorem dX2_init_4 : decode cX2_init 4 = .ok (.aload_n 0, 1) := by decide +kernel
theorem dX2_init_5 : decode cX2_init 5 = .ok (.bipush 60, 2) := by decide +kernel
theorem dX2_init_7 : decode cX2_init 7 = .ok (.newarray .int, 2) := by decide +kernel
theorem dX2_init_9 : decode cX2_init 9 = .ok (.putfield 9, 3) := by decide +kernel
theorem dX2_init_12 : decode cX2_init 12 = .ok (.return_, 1) := by decide +kernel
theorem dX2_size_0 : decode cX2_size 0 = .ok (.aload_n 0, 1) := by decide +kernel
theorem dX2_size_1 : decode cX2_size 1 = .ok (.getfield 15, 3) := by decide +kernel
theorem dX2_size_4 : decode cX2_size 4 = .ok (.ireturn, 1) := by decide +kernel
theorem dX2_key_0 : decode cX2_key 0 = .ok (.iload_n 1, 1) := by decide +kernel
theorem dX2_key_1 : decode cX2_key 1 = .ok (.ifCond .lt 20, 3) := by decide +kernel
theorem dX2_key_4 : decode cX2_key 4 = .ok (.iload_n 1, 1) := by decide +kernel
theorem dX2_key_5 : decode cX2_key 5 = .ok (.aload_n 0, 1) := by decide +kernel
theorem dX2_key_6 : decode cX2_key 6 = .ok (.getfield 15, 3) := by decide +kernel
theorem dX2_key_9 : decode cX2_key 9 = .ok (.if_icmp .ge 12, 3) := by decide +kernel
theorem dX2_key_12 : decode cX2_key 12 = .ok (.aload_n 0, 1) := by decide +kernel
theorem dX2_key_13 : decode cX2_key 13 = .ok (.getfield 9, 3) := by decide +kernel
theorem dX2_key_16 : decode cX2_key 16 = .ok (.iload_n 1, 1) := by decide +kernel
theorem dX2_key_17 : decode cX2_key 17 = .ok (.iaload, 1) := by decide +kernel
theorem dX2_key_18 : decode cX2_key 18 = .ok (.goto 4, 3) := by decide +kernel
theorem dX2_key_21 : decode cX2_key 21 = .ok (.iconst (-1), 1) := by decide +kernel
theorem dX2_key_22 : decode cX2_key 22 = .ok (.ireturn, 1) := by decide +kernel
theorem dX2_below_0 : decode cX2_below 0 = .ok (.iconst 0, 1) := by decide +kernel
theorem dX2_below_1 : decode cX2_below 1 = .ok (.istore_n 2, 1) := by decide +kernel
theorem dX2_below_2 : decode cX2_below 2 = .ok (.iload_n 2, 1) := by decide +kernel
theorem dX2_below_3 : decode cX2_below 3 = .ok (.aload_n 0, 1) := by decide +kernel
theorem dX2_below_4 : decode cX2_below 4 = .ok (.getfield 15, 3) := by decide +kernel
theorem dX2_below_7 : decode cX2_below 7 = .ok (.if_icmp .ge 19, 3) := by decide +kernel
theorem dX2_below_10 : decode cX2_below 10 = .ok (.aload_n 0, 1) := by decide +kernel
theorem dX2_below_11 : decode cX2_below 11 = .ok (.getfield 9, 3) := by decide +kernel
theorem dX2_below_14 : decode cX2_below 14 = .ok (.iload_n 2, 1) := by decide +kernel
theorem dX2_below_15 : decode cX2_below 15 = .ok (.iaload, 1) := by decide +kernel
theorem dX2_below_16 : decode cX2_below 16 = .ok (.iload_n 1, 1) := by decide +kernel
theorem dX2_below_17 : decode cX2_below 17 = .ok (.if_icmp .ge 9, 3) := by decide +kernel
theorem dX2_below_20 : decode cX2_below 20 = .ok (.iinc 2 1, 3) := by decide +kernel
theorem dX2_below_23 : decode cX2_below 23 = .ok (.goto (-21), 3) := by decide +kernel
theorem dX2_below_26 : decode cX2_below 26 = .ok (.iload_n 2, 1) := by decide +kernel
theorem dX2_below_27 : decode cX2_below 27 = .ok (.ireturn, 1) := by decide +kernel
set_option maxRecDepth 20000 in
theorem ggX2_has_X2_below : GoodIn wsX2_has wsX2_below := goodIn_r _ [7, 1, 2, 8, 9] (by decide +kernel) (by decide +kernel)
set_option maxRecDepth 20000 in
theorem gX2_has_X2_below : GoodIn wsX2_has (wsV RX2 19 RX2 yX2_below wsX2_below) := goodIn_app (goodIn_of _ (by decide +kernel)) ggX2_has_X2_below
theorem dX2_has_0 : decode cX2_has 0 = .ok (.aload_n 0, 1) := by decide +kernel
theorem dX2_has_1 : decode cX2_has 1 = .ok (.iload_n 1, 1) := by decide +kernel
theorem dX2_has_2 : decode cX2_has 2 = .ok (.invokevirtual 19, 3) := by decide +kernel
theorem dX2_has_5 : decode cX2_has 5 = .ok (.istore_n 2, 1) := by decide +kernel
theorem dX2_has_6 : decode cX2_has 6 = .ok (.iload_n 2, 1) := by decide +kernel
theorem dX2_has_7 : decode cX2_has 7 = .ok (.aload_n 0, 1) := by decide +kernel
theorem dX2_has_8 : decode cX2_has 8 = .ok (.getfield 15, 3) := by decide +kernel
theorem dX2_has_11 : decode cX2_has 11 = .ok (.if_icmp .ge 17, 3) := by decide +kernel
theorem dX2_has_14 : decode cX2_has 14 = .ok (.aload_n 0, 1) := by decide +kernel
theorem dX2_has_15 : decode cX2_has 15 = .ok (.getfield 9, 3) := by decide +kernel
theorem dX2_has_18 : decode cX2_has 18 = .ok (.iload_n 2, 1) := by decide +kernel
theorem dX2_has_19 : decode cX2_has 19 = .ok (.iaload, 1) := by decide +kernel
theorem dX2_has_20 : decode cX2_has 20 = .ok (.iload_n 1, 1) := by decide +kernel
theorem dX2_has_21 : decode cX2_has 21 = .ok (.if_icmp .ne 7, 3) := by decide +kernel
theorem dX2_has_24 : decode cX2_has 24 = .ok (.iconst 1, 1) := by decide +kernel
theorem dX2_has_25 : decode cX2_has 25 = .ok (.goto 4, 3) := by decide +kernel
theorem dX2_has_28 : decode cX2_has 28 = .ok (.iconst 0, 1) := by decide +kernel
theorem dX2_has_29 : decode cX2_has 29 = .ok (.ireturn, 1) := by decide +kernel
set_option maxRecDepth 20000 in
theorem ggX2_within_X2_below : GoodIn wsX2_within wsX2_below := goodIn_r _ [5, 6, 7, 8, 9] (by decide +kernel) (by decide +kernel)
set_option maxRecDepth 20000 in
theorem gX2_within_X2_below : GoodIn wsX2_within (wsV RX2 19 RX2 yX2_below wsX2_below) := goodIn_app (goodIn_of _ (by decide +kernel)) ggX2_within_X2_below
theorem dX2_within_0 : decode cX2_within 0 = .ok (.aload_n 0, 1) := by decide +kernel
theorem dX2_within_1 : decode cX2_within 1 = .ok (.iload_n 2, 1) := by decide +kernel
theorem dX2_within_2 : decode cX2_within 2 = .ok (.iconst 1, 1) := by decide +kernel
theorem dX2_within_3 : decode cX2_within 3 = .ok (.iadd, 1) := by decide +kernel
theorem dX2_within_4 : decode cX2_within 4 = .ok (.invokevirtual 19, 3) := by decide +kernel
theorem dX2_within_7 : decode cX2_within 7 = .ok (.aload_n 0, 1) := by decide +kernel
theorem dX2_within_8 : decode cX2_within 8 = .ok (.iload_n 1, 1) := by decide +kernel
theorem dX2_within_9 : decode cX2_within 9 = .ok (.invokevirtual 19, 3) := by decide +kernel
theorem dX2_within_12 : decode cX2_within 12 = .ok (.isub, 1) := by decide +kernel
theorem dX2_within_13 : decode cX2_within 13 = .ok (.ireturn, 1) := by decide +kernel
set_option maxRecDepth 20000 in
theorem ggX2_total_X2_below : GoodIn wsX2_total wsX2_below := goodIn_r _ [5, 6, 7, 12, 13] (by decide +kernel) (by decide +kernel)
set_option maxRecDepth 20000 in
theorem gX2_total_X2_below : GoodIn wsX2_total (wsV RX2 19 RX2 yX2_below wsX2_below) := goodIn_app (goodIn_of _ (by decide +kernel)) ggX2_total_X2_below
set_option maxRecDepth 20000 in
theorem ggX2_total_X2_key : GoodIn wsX2_total wsX2_key := goodIn_r _ [11, 6, 7, 12, 13] (by decide +kernel) (by decide +kernel)
set_option maxRecDepth 20000 in
theorem gX2_total_X2_key : GoodIn wsX2_total (wsV RX2 23 RX2 yX2_key wsX2_key) := goodIn_app (goodIn_of _ (by decide +kernel)) ggX2_total_X2_key
theorem dX2_total_0 : decode cX2_total 0 = .ok (.lconst 0, 1) := by decide +kernel
theorem dX2_total_1 : decode cX2_total 1 = .ok (.lstore_n 3, 1) := by decide +kernel
theorem dX2_total_2 : decode cX2_total 2 = .ok (.aload_n 0, 1) := by decide +kernel
theorem dX2_total_3 : decode cX2_total 3 = .ok (.iload_n 2, 1) := by decide +kernel
theorem dX2_total_4 : decode cX2_total 4 = .ok (.iconst 1, 1) := by decide +kernel
theorem dX2_total_5 : decode cX2_total 5 = .ok (.iadd, 1) := by decide +kernel
theorem dX2_total_6 : decode cX2_total 6 = .ok (.invokevirtual 19, 3) := by decide +kernel
theorem dX2_total_9 : decode cX2_total 9 = .ok (.istore 5, 2) := by decide +kernel
theorem dX2_total_11 : decode cX2_total 11 = .ok (.aload_n 0, 1) := by decide +kernel
theorem dX2_total_12 : decode cX2_total 12 = .ok (.iload_n 1, 1) := by decide +kernel
theorem dX2_total_13 : decode cX2_total 13 = .ok (.invokevirtual 19, 3) := by decide +kernel
theorem dX2_total_16 : decode cX2_total 16 = .ok (.istore 6, 2) := by decide +kernel
theorem dX2_total_18 : decode cX2_total 18 = .ok (.iload 6, 2) := by decide +kernel
theorem dX2_total_20 : decode cX2_total 20 = .ok (.iload 5, 2) := by decide +kernel
theorem dX2_total_22 : decode cX2_total 22 = .ok (.if_icmp .ge 19, 3) := by decide +kernel
theorem dX2_total_25 : decode cX2_total 25 = .ok (.lload_n 3, 1) := by decide +kernel
theorem dX2_total_26 : decode cX2_total 26 = .ok (.aload_n 0, 1) := by decide +kernel
theorem dX2_total_27 : decode cX2_total 27 = .ok (.iload 6, 2) := by decide +kernel
theorem dX2_total_29 : decode cX2_total 29 = .ok (.invokevirtual 23, 3) := by decide +kernel
theorem dX2_total_32 : decode cX2_total 32 = .ok (.i2l, 1) := by decide +kernel
theorem dX2_total_33 : decode cX2_total 33 = .ok (.ladd, 1) := by decide +kernel
theorem dX2_total_34 : decode cX2_total 34 = .ok (.lstore_n 3, 1) := by decide +kernel
theorem dX2_total_35 : decode cX2_total 35 = .ok (.iinc 6 1, 3) := by decide +kernel
theorem dX2_total_38 : decode cX2_total 38 = .ok (.goto (-20), 3) := by decide +kernel
theorem dX2_total_41 : decode cX2_total 41 = .ok (.lload_n 3, 1) := by decide +kernel
theorem dX2_total_42 : decode cX2_total 42 = .ok (.lreturn, 1) := by decide +kernel
theorem dX2_clear_0 : decode cX2_clear 0 = .ok (.aload_n 0, 1) := by decide +kernel
theorem dX2_clear_1 : decode cX2_clear 1 = .ok (.iconst 0, 1) := by decide +kernel
theorem dX2_clear_2 : decode cX2_clear 2 = .ok (.putfield 15, 3) := by decide +kernel
theorem dX2_clear_5 : decode cX2_clear 5 = .ok (.return_, 1) := by decide +kernel
set_option maxRecDepth 20000 in
theorem ggX2_copy_X2_size : GoodIn wsX2_copy wsX2_size := goodIn_r _ [6, 1, 16, 17] (by decide +kernel) (by decide +kernel)
set_option maxRecDepth 20000 in
theorem gX2_copy_X2_size : GoodIn wsX2_copy (wsV RX2 26 RX2 yX2_size wsX2_size) := goodIn_app (goodIn_of _ (by decide +kernel)) ggX2_copy_X2_size
set_option maxRecDepth 20000 in
theorem ggX2_copy_X2_key : GoodIn wsX2_copy wsX2_key := goodIn_r _ [10, 1, 11, 16, 17] (by decide +kernel) (by decide +kernel)
set_option maxRecDepth 20000 in
theorem gX2_copy_X2_key : GoodIn wsX2_copy (wsV RX2 23 RX2 yX2_key wsX2_key) := goodIn_app (goodIn_of _ (by decide +kernel)) ggX2_copy_X2_key
set_option maxRecDepth 20000 in
theorem ggX2_copy_X2_append : GoodIn wsX2_copy wsX2_append := goodIn_r _ [15, 1, 11, 16, 17] (by decide +kernel) (by decide +kernel)
set_option maxRecDepth 20000 in
theorem gX2_copy_X2_append : GoodIn wsX2_copy (wsV RX2 29 RX2 yX2_append wsX2_append) := goodIn_app (goodIn_of _ (by decide +kernel)) ggX2_copy_X2_append
theorem dX2_copy_0 : decode cX2_copy 0 = .ok (.aload_n 0, 1) := by decide +kernel
theorem dX2_copy_1 : decode cX2_copy 1 = .ok (.iconst 0, 1) := by decide +kernel
theorem dX2_copy_2 : decode cX2_copy 2 = .ok (.putfield 15, 3) := by decide +kernel
theorem dX2_copy_5 : decode cX2_copy 5 = .ok (.iconst 0, 1) := by decide +kernel
theorem dX2_copy_6 : decode cX2_copy 6 = .ok (.istore_n 2, 1) := by decide +kernel
theorem dX2_copy_7 : decode cX2_copy 7 = .ok (.iload_n 2, 1) := by decide +kernel
theorem dX2_copy_8 : decode cX2_copy 8 = .ok (.aload_n 1, 1) := by decide +kernel
theorem dX2_copy_9 : decode cX2_copy 9 = .ok (.invokevirtual 26, 3) := by decide +kernel
theorem dX2_copy_12 : decode cX2_copy 12 = .ok (.if_icmp .ge 18, 3) := by decide +kernel
theorem dX2_copy_15 : decode cX2_copy 15 = .ok (.aload_n 0, 1) := by decide +kernel
theorem dX2_copy_16 : decode cX2_copy 16 = .ok (.aload_n 1, 1) := by decide +kernel
theorem dX2_copy_17 : decode cX2_copy 17 = .ok (.iload_n 2, 1) := by decide +kernel
theorem dX2_copy_18 : decode cX2_copy 18 = .ok (.invokevirtual 23, 3) := by decide +kernel
theorem dX2_copy_21 : decode cX2_copy 21 = .ok (.invokevirtual 29, 3) := by decide +kernel
theorem dX2_copy_24 : decode cX2_copy 24 = .ok (.iinc 2 1, 3) := by decide +kernel
theorem dX2_copy_27 : decode cX2_copy 27 = .ok (.goto (-20), 3) := by decide +kernel
theorem dX2_copy_30 : decode cX2_copy 30 = .ok (.return_, 1) := by decide +kernel
theorem dX2_append_0 : decode cX2_append 0 = .ok (.aload_n 0, 1) := by decide +kernel
theorem dX2_append_1 : decode cX2_append 1 = .ok (.getfield 15, 3) := by decide +kernel
theorem dX2_append_4 : decode cX2_append 4 = .ok (.aload_n 0, 1) := by decide +kernel
theorem dX2_append_5 : decode cX2_append 5 = .ok (.getfield 9, 3) := by decide +kernel
theorem dX2_append_8 : decode cX2_append 8 = .ok (.arraylength, 1) := by decide +kernel
theorem dX2_append_9 : decode cX2_append 9 = .ok (.if_icmp .ge 23, 3) := by decide +kernel
theorem dX2_append_12 : decode cX2_append 12 = .ok (.aload_n 0, 1) := by decide +kernel
theorem dX2_append_13 : decode cX2_append 13 = .ok (.getfield 9, 3) := by decide +kernel
theorem dX2_append_16 : decode cX2_append 16 = .ok (.aload_n 0, 1) := by decide +kernel
theorem dX2_append_17 : decode cX2_append 17 = .ok (.getfield 15, 3) := by decide +kernel
theorem dX2_append_20 : decode cX2_append 20 = .ok (.iload_n 1, 1) := by decide +kernel
theorem dX2_append_21 : decode cX2_append 21 = .ok (.iastore, 1) := by decide +kernel
theorem dX2_append_22 : decode cX2_append 22 = .ok (.aload_n 0, 1) := by decide +kernel
theorem dX2_append_23 : decode cX2_append 23 = .ok (.dup, 1) := by decide +kernel
theorem dX2_append_24 : decode cX2_append 24 = .ok (.getfield 15, 3) := by decide +kernel
theorem dX2_append_27 : decode cX2_append 27 = .ok (.iconst 1, 1) := by decide +kernel
theorem dX2_append_28 : decode cX2_append 28 = .ok (.iadd, 1) := by decide +kernel
theorem dX2_append_29 : decode cX2_append 29 = .ok (.putfield 15, 3) := by decide +kernel
theorem dX2_append_32 : decode cX2_append 32 = .ok (.return_, 1) := by decide +kernel
set_option maxRecDepth 20000 in
theorem ggX2_add_X2_has : GoodIn wsX2_add wsX2_has := goodIn_r _ [7, 1, 2, 8, 9, 10, 6, 11, 12, 13] (by decide +kernel) (by decide +kernel)
set_option maxRecDepth 20000 in
theorem gX2_add_X2_has : GoodIn wsX2_add (wsV RX2 33 RX2 yX2_has wsX2_has) := goodIn_app (goodIn_of _ (by decide +kernel)) ggX2_add_X2_has
set_option maxRecDepth 20000 in
theorem ggX2_add_X2_below : GoodIn wsX2_add wsX2_below := goodIn_r _ [11, 1, 2, 12, 13] (by decide +kernel) (by decide +kernel)
set_option maxRecDepth 20000 in
theorem gX2_add_X2_below : GoodIn wsX2_add (wsV RX2 19 RX2 yX2_below wsX2_below) := goodIn_app (goodIn_of _ (by decide +kernel)) ggX2_add_X2_below
theorem dX2_add_0 : decode cX2_add 0 = .ok (.aload_n 0, 1) := by decide +kernel
theorem dX2_add_1 : decode cX2_add 1 = .ok (.getfield 15, 3) := by decide +kernel
theorem dX2_add_4 : decode cX2_add 4 = .ok (.aload_n 0, 1) := by decide +kernel
theorem dX2_add_5 : decode cX2_add 5 = .ok (.getfield 9, 3) := by decide +kernel
theorem dX2_add_8 : decode cX2_add 8 = .ok (.arraylength, 1) := by decide +kernel
theorem dX2_add_9 : decode cX2_add 9 = .ok (.if_icmp .ge 11, 3) := by decide +kernel
theorem dX2_add_12 : decode cX2_add 12 = .ok (.aload_n 0, 1) := by decide +kernel
theorem dX2_add_13 : decode cX2_add 13 = .ok (.iload_n 1, 1) := by decide +kernel
theorem dX2_add_14 : decode cX2_add 14 = .ok (.invokevirtual 33, 3) := by decide +kernel
theorem dX2_add_17 : decode cX2_add 17 = .ok (.ifCond .eq 4, 3) := by decide +kernel
theorem dX2_add_20 : decode cX2_add 20 = .ok (.return_, 1) := by decide +kernel
theorem dX2_add_21 : decode cX2_add 21 = .ok (.aload_n 0, 1) := by decide +kernel
theorem dX2_add_22 : decode cX2_add 22 = .ok (.iload_n 1, 1) := by decide +kernel
theorem dX2_add_23 : decode cX2_add 23 = .ok (.invokevirtual 19, 3) := by decide +kernel
theorem dX2_add_26 : decode cX2_add 26 = .ok (.istore_n 2, 1) := by decide +kernel
theorem dX2_add_27 : decode cX2_add 27 = .ok (.aload_n 0, 1) := by decide +kernel
theorem dX2_add_28 : decode cX2_add 28 = .ok (.getfield 15, 3) := by decide +kernel
theorem dX2_add_31 : decode cX2_add 31 = .ok (.istore_n 3, 1) := by decide +kernel
theorem dX2_add_32 : decode cX2_add 32 = .ok (.iload_n 3, 1) := by decide +kernel
theorem dX2_add_33 : decode cX2_add 33 = .ok (.iload_n 2, 1) := by decide +kernel
theorem dX2_add_34 : decode cX2_add 34 = .ok (.if_icmp .le 23, 3) := by decide +kernel
theorem dX2_add_37 : decode cX2_add 37 = .ok (.aload_n 0, 1) := by decide +kernel
theorem dX2_add_38 : decode cX2_add 38 = .ok (.getfield 9, 3) := by decide +kernel
theorem dX2_add_41 : decode cX2_add 41 = .ok (.iload_n 3, 1) := by decide +kernel
theorem dX2_add_42 : decode cX2_add 42 = .ok (.aload_n 0, 1) := by decide +kernel
theorem dX2_add_43 : decode cX2_add 43 = .ok (.getfield 9, 3) := by decide +kernel
theorem dX2_add_46 : decode cX2_add 46 = .ok (.iload_n 3, 1) := by decide +kernel
theorem dX2_add_47 : decode cX2_add 47 = .ok (.iconst 1, 1) := by decide +kernel
theorem dX2_add_48 : decode cX2_add 48 = .ok (.isub, 1) := by decide +kernel
theorem dX2_add_49 : decode cX2_add 49 = .ok (.iaload, 1) := by decide +kernel
theorem dX2_add_50 : decode cX2_add 50 = .ok (.iastore, 1) := by decide +kernel
theorem dX2_add_51 : decode cX2_add 51 = .ok (.iinc 3 (-1), 3) := by decide +kernel
theorem dX2_add_54 : decode cX2_add 54 = .ok (.goto (-22), 3) := by decide +kernel
theorem dX2_add_57 : decode cX2_add 57 = .ok (.aload_n 0, 1) := by decide +kernel
theorem dX2_add_58 : decode cX2_add 58 = .ok (.getfield 9, 3) := by decide +kernel
theorem dX2_add_61 : decode cX2_add 61 = .ok (.iload_n 2, 1) := by decide +kernel
theorem dX2_add_62 : decode cX2_add 62 = .ok (.iload_n 1, 1) := by decide +kernel
theorem dX2_add_63 : decode cX2_add 63 = .ok (.iastore, 1) := by decide +kernel
theorem dX2_add_64 : decode cX2_add 64 = .ok (.aload_n 0, 1) := by decide +kernel
theorem dX2_add_65 : decode cX2_add 65 = .ok (.dup, 1) := by decide +kernel
theorem dX2_add_66 : decode cX2_add 66 = .ok (.getfield 15, 3) := by decide +kernel
theorem dX2_add_69 : decode cX2_add 69 = .ok (.iconst 1, 1) := by decide +kernel
theorem dX2_add_70 : decode cX2_add 70 = .ok (.iadd, 1) := by decide +kernel
theorem dX2_add_71 : decode cX2_add 71 = .ok (.putfield 15, 3) := by decide +kernel
theorem dX2_add_74 : decode cX2_add 74 = .ok (.return_, 1) := by decide +kernel
set_option maxRecDepth 20000 in
theorem ggX2_drop_X2_has : GoodIn wsX2_drop wsX2_has := goodIn_r _ [7, 1, 2, 8, 9, 10, 6, 11, 12, 13] (by decide +kernel) (by decide +kernel)
set_option maxRecDepth 20000 in
theorem gX2_drop_X2_has : GoodIn wsX2_drop (wsV RX2 33 RX2 yX2_has wsX2_has) := goodIn_app (goodIn_of _ (by decide +kernel)) ggX2_drop_X2_has
set_option maxRecDepth 20000 in
theorem ggX2_drop_X2_below : GoodIn wsX2_drop wsX2_below := goodIn_r _ [11, 1, 2, 12, 13] (by decide +kernel) (by decide +kernel)
set_option maxRecDepth 20000 in
theorem gX2_drop_X2_below : GoodIn wsX2_drop (wsV RX2 19 RX2 yX2_below wsX2_below) := goodIn_app (goodIn_of _ (by decide +kernel)) ggX2_drop_X2_below
theorem dX2_drop_0 : decode cX2_drop 0 = .ok (.aload_n 0, 1) := by decide +kernel
theorem dX2_drop_1 : decode cX2_drop 1 = .ok (.iload_n 1, 1) := by decide +kernel
theorem dX2_drop_2 : decode cX2_drop 2 = .ok (.invokevirtual 33, 3) := by decide +kernel
theorem dX2_drop_5 : decode cX2_drop 5 = .ok (.ifCond .ne 4, 3) := by decide +kernel
theorem dX2_drop_8 : decode cX2_drop 8 = .ok (.return_, 1) := by decide +kernel
theorem dX2_drop_9 : decode cX2_drop 9 = .ok (.aload_n 0, 1) := by decide +kernel
theorem dX2_drop_10 : decode cX2_drop 10 = .ok (.iload_n 1, 1) := by decide +kernel
theorem dX2_drop_11 : decode cX2_drop 11 = .ok (.invokevirtual 19, 3) := by decide +kernel
theorem dX2_drop_14 : decode cX2_drop 14 = .ok (.iconst 1, 1) := by decide +kernel
theorem dX2_drop_15 : decode cX2_drop 15 = .ok (.iadd, 1) := by decide +kernel
theorem dX2_drop_16 : decode cX2_drop 16 = .ok (.istore_n 2, 1) := by decide +kernel
theorem dX2_drop_17 : decode cX2_drop 17 = .ok (.iload_n 2, 1) := by decide +kernel
theorem dX2_drop_18 : decode cX2_drop 18 = .ok (.aload_n 0, 1) := by decide +kernel
theorem dX2_drop_19 : decode cX2_drop 19 = .ok (.getfield 15, 3) := by decide +kernel
theorem dX2_drop_22 : decode cX2_drop 22 = .ok (.if_icmp .ge 23, 3) := by decide +kernel
theorem dX2_drop_25 : decode cX2_drop 25 = .ok (.aload_n 0, 1) := by decide +kernel
theorem dX2_drop_26 : decode cX2_drop 26 = .ok (.getfield 9, 3) := by decide +kernel
theorem dX2_drop_29 : decode cX2_drop 29 = .ok (.iload_n 2, 1) := by decide +kernel
theorem dX2_drop_30 : decode cX2_drop 30 = .ok (.iconst 1, 1) := by decide +kernel
theorem dX2_drop_31 : decode cX2_drop 31 = .ok (.isub, 1) := by decide +kernel
theorem dX2_drop_32 : decode cX2_drop 32 = .ok (.aload_n 0, 1) := by decide +kernel
theorem dX2_drop_33 : decode cX2_drop 33 = .ok (.getfield 9, 3) := by decide +kernel
theorem dX2_drop_36 : decode cX2_drop 36 = .ok (.iload_n 2, 1) := by decide +kernel
theorem dX2_drop_37 : decode cX2_drop 37 = .ok (.iaload, 1) := by decide +kernel
theorem dX2_drop_38 : decode cX2_drop 38 = .ok (.iastore, 1) := by decide +kernel
theorem dX2_drop_39 : decode cX2_drop 39 = .ok (.iinc 2 1, 3) := by decide +kernel
theorem dX2_drop_42 : decode cX2_drop 42 = .ok (.goto (-25), 3) := by decide +kernel
theorem dX2_drop_45 : decode cX2_drop 45 = .ok (.aload_n 0, 1) := by decide +kernel
theorem dX2_drop_46 : decode cX2_drop 46 = .ok (.dup, 1) := by decide +kernel
theorem dX2_drop_47 : decode cX2_drop 47 = .ok (.getfield 15, 3) := by decide +kernel
theorem dX2_drop_50 : decode cX2_drop 50 = .ok (.iconst 1, 1) := by decide +kernel
theorem dX2_drop_51 : decode cX2_drop 51 = .ok (.isub, 1) := by decide +kernel
theorem dX2_drop_52 : decode cX2_drop 52 = .ok (.putfield 15, 3) := by decide +kernel
theorem dX2_drop_55 : decode cX2_drop 55 = .ok (.return_, 1) := by decide +kernel
theorem dX3_init_0 : decode cX3_init 0 = .ok (.aload_n 0, 1) := by decide +kernel
theorem dX3_init_1 : decode cX3_init 1 = .ok (.invokespecial 3, 3) := by decide +kernel
theorem dX3_init_4 : decode cX3_init 4 = .ok (.return_, 1) := by decide +kernel
theorem dX3_met_0 : decode cX3_met 0 = .ok (.aload_n 0, 1) := by decide +kernel
theorem dX3_met_1 : decode cX3_met 1 = .ok (.getfield 9, 3) := by decide +kernel
theorem dX3_met_4 : decode cX3_met 4 = .ok (.ireturn, 1) := by decide +kernel
theorem dX3_ranksSeen_0 : decode cX3_ranksSeen 0 = .ok (.aload_n 0, 1) := by decide +kernel
theorem dX3_ranksSeen_1 : decode cX3_ranksSeen 1 = .ok (.getfield 15, 3) := by decide +kernel
theorem dX3_ranksSeen_4 : decode cX3_ranksSeen 4 = .ok (.ireturn, 1) := by decide +kernel
set_option maxRecDepth 20000 in
theorem ggX3_run_X4_height : GoodIn wsX3_run wsX4_height := goodIn_r _ [7, 8, 64, 65, 66, 67, 68, 69, 70, 71, 72] (by decide +kernel) (by decide +kernel)
set_option maxRecDepth 20000 in
theorem gX3_run_X4_height : GoodIn wsX3_run (wsV RX3 18 RX4 yX4_height wsX4_height) := goodIn_app (goodIn_of _ (by decide +kernel)) ggX3_run_X4_height
set_option maxRecDepth 20000 in
theorem ggX3_run_X4_pieceFor : GoodIn wsX3_run wsX4_pieceFor := goodIn_r _ [12, 13, 14, 15, 16, 6, 17, 8, 18, 19, 20, 21, 22, 23, 64, 65, 66, 67, 68, 69, 70, 71, 72] (by decide +kernel) (by decide +kernel)
set_option maxRecDepth 20000 in
theorem gX3_run_X4_pieceFor : GoodIn wsX3_run (wsV RX3 24 RX4 yX4_pieceFor wsX4_pieceFor) := goodIn_app (goodIn_of _ (by decide +kernel)) ggX3_run_X4_pieceFor
set_option maxRecDepth 20000 in
theorem ggX3_run_X4_rankBy : GoodIn wsX3_run wsX4_rankBy := goodIn_r _ [27, 28, 29, 13, 30, 31, 32, 33, 34, 35, 36, 37, 38, 19, 20, 21, 6, 22, 23, 39, 40, 41, 42, 64, 65, 66, 67, 68, 69, 70, 71, 72] (by decide +kernel) (by decide +kernel)
set_option maxRecDepth 20000 in
theorem gX3_run_X4_rankBy : GoodIn wsX3_run (wsV RX3 28 RX4 yX4_rankBy wsX4_rankBy) := goodIn_app (goodIn_of _ (by decide +kernel)) ggX3_run_X4_rankBy
set_option maxRecDepth 20000 in
theorem ggX3_run_X3_away : GoodIn wsX3_run wsX3_away := goodIn_r _ [46] (by decide +kernel) (by decide +kernel)
set_option maxRecDepth 20000 in
theorem gX3_run_X3_away : GoodIn wsX3_run (va_wsS RX3 32 yX3_away wsX3_away) := goodIn_app (goodIn_of _ (by decide +kernel)) ggX3_run_X3_away
set_option maxRecDepth 20000 in
theorem ggX3_run_X4_fromOf : GoodIn wsX3_run wsX4_fromOf := goodIn_r _ [50, 30, 19, 20, 21, 6, 22, 23, 64, 65, 66, 67, 68, 69, 70, 71, 72] (by decide +kernel) (by decide +kernel)
set_option maxRecDepth 20000 in
theorem gX3_run_X4_fromOf : GoodIn wsX3_run (wsV RX3 35 RX4 yX4_fromOf wsX4_fromOf) := goodIn_app (goodIn_of _ (by decide +kernel)) ggX3_run_X4_fromOf
set_option maxRecDepth 20000 in
theorem ggX3_run_X4_lastOf : GoodIn wsX3_run wsX4_lastOf := goodIn_r _ [54, 31, 19, 20, 21, 6, 22, 23, 64, 65, 66, 67, 68, 69, 70, 71, 72] (by decide +kernel) (by decide +kernel)
set_option maxRecDepth 20000 in
theorem gX3_run_X4_lastOf : GoodIn wsX3_run (wsV RX3 38 RX4 yX4_lastOf wsX4_lastOf) := goodIn_app (goodIn_of _ (by decide +kernel)) ggX3_run_X4_lastOf
set_option maxRecDepth 20000 in
theorem ggX3_run_X2_key : GoodIn wsX3_run wsX2_key := goodIn_r _ [59, 60, 61, 73, 74] (by decide +kernel) (by decide +kernel)
set_option maxRecDepth 20000 in
theorem gX3_run_X2_key : GoodIn wsX3_run (wsV RX3 41 RX2 yX2_key wsX2_key) := goodIn_app (goodIn_of _ (by decide +kernel)) ggX3_run_X2_key
theorem dX3_run_0 : decode cX3_run 0 = .ok (.aload_n 0, 1) := by decide +kernel
theorem dX3_run_1 : decode cX3_run 1 = .ok (.iconst (-1), 1) := by decide +kernel
theorem dX3_run_2 : decode cX3_run 2 = .ok (.putfield 9, 3) := by decide +kernel
theorem dX3_run_5 : decode cX3_run 5 = .ok (.aload_n 0, 1) := by decide +kernel
theorem dX3_run_6 : decode cX3_run 6 = .ok (.iconst 0, 1) := by decide +kernel
theorem dX3_run_7 : decode cX3_run 7 = .ok (.putfield 15, 3) := by decide +kernel
theorem dX3_run_10 : decode cX3_run 10 = .ok (.aload_n 2, 1) := by decide +kernel
theorem dX3_run_11 : decode cX3_run 11 = .ok (.invokevirtual 18, 3) := by decide +kernel
theorem dX3_run_14 : decode cX3_run 14 = .ok (.ifCond .ne 4, 3) := by decide +kernel
theorem dX3_run_17 : decode cX3_run 17 = .ok (.return_, 1) := by decide +kernel
theorem dX3_run_18 : decode cX3_run 18 = .ok (.aload_n 2, 1) := by decide +kernel
theorem dX3_run_19 : decode cX3_run 19 = .ok (.iload_n 3, 1) := by decide +kernel
theorem dX3_run_20 : decode cX3_run 20 = .ok (.invokevirtual 24, 3) := by decide +kernel
theorem dX3_run_23 : decode cX3_run 23 = .ok (.istore 5, 2) := by decide +kernel
theorem dX3_run_25 : decode cX3_run 25 = .ok (.aload_n 2, 1) := by decide +kernel
theorem dX3_run_26 : decode cX3_run 26 = .ok (.iload 5, 2) := by decide +kernel
theorem dX3_run_28 : decode cX3_run 28 = .ok (.iload_n 3, 1) := by decide +kernel
theorem dX3_run_29 : decode cX3_run 29 = .ok (.invokevirtual 28, 3) := by decide +kernel
theorem dX3_run_32 : decode cX3_run 32 = .ok (.istore 6, 2) := by decide +kernel
theorem dX3_run_34 : decode cX3_run 34 = .ok (.iconst 0, 1) := by decide +kernel
theorem dX3_run_35 : decode cX3_run 35 = .ok (.istore 7, 2) := by decide +kernel
theorem dX3_run_37 : decode cX3_run 37 = .ok (.iload 7, 2) := by decide +kernel
theorem dX3_run_39 : decode cX3_run 39 = .ok (.iconst 2, 1) := by decide +kernel
theorem dX3_run_40 : decode cX3_run 40 = .ok (.iload 4, 2) := by decide +kernel
theorem dX3_run_42 : decode cX3_run 42 = .ok (.imul, 1) := by decide +kernel
theorem dX3_run_43 : decode cX3_run 43 = .ok (.if_icmp .gt 79, 3) := by decide +kernel
theorem dX3_run_46 : decode cX3_run 46 = .ok (.aload_n 0, 1) := by decide +kernel
theorem dX3_run_47 : decode cX3_run 47 = .ok (.getfield 9, 3) := by decide +kernel
theorem dX3_run_50 : decode cX3_run 50 = .ok (.iconst (-1), 1) := by decide +kernel
theorem dX3_run_51 : decode cX3_run 51 = .ok (.if_icmp .ne 71, 3) := by decide +kernel
theorem dX3_run_54 : decode cX3_run 54 = .ok (.iload 6, 2) := by decide +kernel
theorem dX3_run_56 : decode cX3_run 56 = .ok (.iload 7, 2) := by decide +kernel
theorem dX3_run_58 : decode cX3_run 58 = .ok (.invokestatic 32, 3) := by decide +kernel
theorem dX3_run_61 : decode cX3_run 61 = .ok (.iadd, 1) := by decide +kernel
theorem dX3_run_62 : decode cX3_run 62 = .ok (.istore 8, 2) := by decide +kernel
theorem dX3_run_64 : decode cX3_run 64 = .ok (.iload 8, 2) := by decide +kernel
theorem dX3_run_66 : decode cX3_run 66 = .ok (.aload_n 2, 1) := by decide +kernel
theorem dX3_run_67 : decode cX3_run 67 = .ok (.iload 5, 2) := by decide +kernel
theorem dX3_run_69 : decode cX3_run 69 = .ok (.invokevirtual 35, 3) := by decide +kernel
theorem dX3_run_72 : decode cX3_run 72 = .ok (.if_icmp .lt 44, 3) := by decide +kernel
theorem dX3_run_75 : decode cX3_run 75 = .ok (.iload 8, 2) := by decide +kernel
theorem dX3_run_77 : decode cX3_run 77 = .ok (.aload_n 2, 1) := by decide +kernel
theorem dX3_run_78 : decode cX3_run 78 = .ok (.iload 5, 2) := by decide +kernel
theorem dX3_run_80 : decode cX3_run 80 = .ok (.invokevirtual 38, 3) := by decide +kernel
theorem dX3_run_83 : decode cX3_run 83 = .ok (.if_icmp .gt 33, 3) := by decide +kernel
theorem dX3_run_86 : decode cX3_run 86 = .ok (.aload_n 0, 1) := by decide +kernel
theorem dX3_run_87 : decode cX3_run 87 = .ok (.dup, 1) := by decide +kernel
theorem dX3_run_88 : decode cX3_run 88 = .ok (.getfield 15, 3) := by decide +kernel
theorem dX3_run_91 : decode cX3_run 91 = .ok (.iconst 1, 1) := by decide +kernel
theorem dX3_run_92 : decode cX3_run 92 = .ok (.iadd, 1) := by decide +kernel
theorem dX3_run_93 : decode cX3_run 93 = .ok (.putfield 15, 3) := by decide +kernel
theorem dX3_run_96 : decode cX3_run 96 = .ok (.aload_n 0, 1) := by decide +kernel
theorem dX3_run_97 : decode cX3_run 97 = .ok (.aload_n 1, 1) := by decide +kernel
theorem dX3_run_98 : decode cX3_run 98 = .ok (.iload 8, 2) := by decide +kernel
theorem dX3_run_100 : decode cX3_run 100 = .ok (.invokevirtual 41, 3) := by decide +kernel
theorem dX3_run_103 : decode cX3_run 103 = .ok (.iload_n 3, 1) := by decide +kernel
theorem dX3_run_104 : decode cX3_run 104 = .ok (.if_icmp .ne 8, 3) := by decide +kernel
theorem dX3_run_107 : decode cX3_run 107 = .ok (.iload 8, 2) := by decide +kernel
theorem dX3_run_109 : decode cX3_run 109 = .ok (.goto 4, 3) := by decide +kernel
theorem dX3_run_112 : decode cX3_run 112 = .ok (.iconst (-1), 1) := by decide +kernel
theorem dX3_run_113 : decode cX3_run 113 = .ok (.putfield 9, 3) := by decide +kernel
theorem dX3_run_116 : decode cX3_run 116 = .ok (.iinc 7 1, 3) := by decide +kernel
theorem dX3_run_119 : decode cX3_run 119 = .ok (.goto (-82), 3) := by decide +kernel
theorem dX3_run_122 : decode cX3_run 122 = .ok (.return_, 1) := by decide +kernel
theorem dX3_away_0 : decode cX3_away 0 = .ok (.iload_n 0, 1) := by decide +kernel
theorem dX3_away_1 : decode cX3_away 1 = .ok (.iconst 2, 1) := by decide +kernel
theorem dX3_away_2 : decode cX3_away 2 = .ok (.irem, 1) := by decide +kernel
theorem dX3_away_3 : decode cX3_away 3 = .ok (.ifCond .ne 9, 3) := by decide +kernel
theorem dX3_away_6 : decode cX3_away 6 = .ok (.iload_n 0, 1) := by decide +kernel
theorem dX3_away_7 : decode cX3_away 7 = .ok (.iconst 2, 1) := by decide +kernel
theorem dX3_away_8 : decode cX3_away 8 = .ok (.idiv, 1) := by decide +kernel
theorem dX3_away_9 : decode cX3_away 9 = .ok (.goto 9, 3) := by decide +kernel
theorem dX3_away_12 : decode cX3_away 12 = .ok (.iload_n 0, 1) := by decide +kernel
theorem dX3_away_13 : decode cX3_away 13 = .ok (.iconst 1, 1) := by decide +kernel
theorem dX3_away_14 : decode cX3_away 14 = .ok (.iadd, 1) := by decide +kernel
theorem dX3_away_15 : decode cX3_away 15 = .ok (.ineg, 1) := by decide +kernel
theorem dX3_away_16 : decode cX3_away 16 = .ok (.iconst 2, 1) := by decide +kernel
theorem dX3_away_17 : decode cX3_away 17 = .ok (.idiv, 1) := by decide +kernel
theorem dX3_away_18 : decode cX3_away 18 = .ok (.ireturn, 1) := by decide +kernel
set_option maxRecDepth 20000 in
theorem ggX4_init_X2_init : GoodIn wsX4_init wsX2_init := goodIn_r _ [17, 18, 2, 3, 8, 19, 20, 21] (by decide +kernel) (by decide +kernel)
set_option maxRecDepth 20000 in
theorem gX4_init_X2_init : GoodIn wsX4_init (wsX2_init) := ggX4_init_X2_init
