theorem dX0_init_0 : decode cX0_init 0 = .ok (.aload_n 0, 1) := by decide +kernel
theorem dX0_init_1 : decode cX0_init 1 = .ok (.invokespecial 1, 3) := by decide +kernel
theorem dX0_init_4 : decode cX0_init 4 = .ok (.aload_n 0, 1) := by decide +kernel
theorem dX0_init_5 : decode cX0_init 5 = .ok (.iload_n 1, 1) := by decide +kernel
theorem dX0_init_6 : decode cX0_init 6 = .ok (.iconst 0, 1) := by decide +kernel
theorem dX0_init_7 : decode cX0_init 7 = .ok (.invokestatic 7, 3) := by decide +kernel
theorem dX0_init_10 : decode cX0_init 10 = .ok (.newarray .int, 2) := by decide +kernel
theorem dX0_init_12 : decode cX0_init 12 = .ok (.putfield 13, 3) := by decide +kernel
theorem dX0_init_15 : decode cX0_init 15 = .ok (.aload_n 0, 1) := by decide +kernel
theorem dX0_init_16 : decode cX0_init 16 = .ok (.iconst 0, 1) := by decide +kernel
theorem dX0_init_17 : decode cX0_init 17 = .ok (.putfield 19, 3) := by decide +kernel
theorem dX0_init_20 : decode cX0_init 20 = .ok (.return_, 1) := by decide +kernel
theorem dX0_has_0 : decode cX0_has 0 = .ok (.iload_n 1, 1) := by decide +kernel
theorem dX0_has_1 : decode cX0_has 1 = .ok (.ifCond .lt 24, 3) := by decide +kernel
theorem dX0_has_4 : decode cX0_has 4 = .ok (.iload_n 1, 1) := by decide +kernel
theorem dX0_has_5 : decode cX0_has 5 = .ok (.aload_n 0, 1) := by decide +kernel
theorem dX0_has_6 : decode cX0_has 6 = .ok (.getfield 19, 3) := by decide +kernel
theorem dX0_has_9 : decode cX0_has 9 = .ok (.if_icmp .ge 16, 3) := by decide +kernel
theorem dX0_has_12 : decode cX0_has 12 = .ok (.iload_n 1, 1) := by decide +kernel
theorem dX0_has_13 : decode cX0_has 13 = .ok (.aload_n 0, 1) := by decide +kernel
theorem dX0_has_14 : decode cX0_has 14 = .ok (.getfield 13, 3) := by decide +kernel
theorem dX0_has_17 : decode cX0_has 17 = .ok (.arraylength, 1) := by decide +kernel
theorem dX0_has_18 : decode cX0_has 18 = .ok (.if_icmp .ge 7, 3) := by decide +kernel
theorem dX0_has_21 : decode cX0_has 21 = .ok (.iconst 1, 1) := by decide +kernel
theorem dX0_has_22 : decode cX0_has 22 = .ok (.goto 4, 3) := by decide +kernel
theorem dX0_has_25 : decode cX0_has 25 = .ok (.iconst 0, 1) := by decide +kernel
theorem dX0_has_26 : decode cX0_has 26 = .ok (.ireturn, 1) := by decide +kernel
set_option maxRecDepth 20000 in
theorem ggX0_at_X0_has : GoodIn wsX0_at wsX0_has := goodIn_r _ [6, 7, 1, 8, 9] (by decide +kernel) (by decide +kernel)
set_option maxRecDepth 20000 in
theorem gX0_at_X0_has : GoodIn wsX0_at (wsV RX0 23 RX0 yX0_has wsX0_has) := goodIn_app (goodIn_of _ (by decide +kernel)) ggX0_at_X0_has
theorem dX0_at_0 : decode cX0_at 0 = .ok (.aload_n 0, 1) := by decide +kernel
theorem dX0_at_1 : decode cX0_at 1 = .ok (.iload_n 1, 1) := by decide +kernel
theorem dX0_at_2 : decode cX0_at 2 = .ok (.invokevirtual 23, 3) := by decide +kernel
theorem dX0_at_5 : decode cX0_at 5 = .ok (.ifCond .eq 12, 3) := by decide +kernel
theorem dX0_at_8 : decode cX0_at 8 = .ok (.aload_n 0, 1) := by decide +kernel
theorem dX0_at_9 : decode cX0_at 9 = .ok (.getfield 13, 3) := by decide +kernel
theorem dX0_at_12 : decode cX0_at 12 = .ok (.iload_n 1, 1) := by decide +kernel
theorem dX0_at_13 : decode cX0_at 13 = .ok (.iaload, 1) := by decide +kernel
theorem dX0_at_14 : decode cX0_at 14 = .ok (.goto 4, 3) := by decide +kernel
theorem dX0_at_17 : decode cX0_at 17 = .ok (.iconst 0, 1) := by decide +kernel
theorem dX0_at_18 : decode cX0_at 18 = .ok (.ireturn, 1) := by decide +kernel
set_option maxRecDepth 20000 in
theorem ggX0_put_X0_has : GoodIn wsX0_put wsX0_has := goodIn_r _ [6, 7, 1, 8, 9] (by decide +kernel) (by decide +kernel)
set_option maxRecDepth 20000 in
theorem gX0_put_X0_has : GoodIn wsX0_put (wsV RX0 23 RX0 yX0_has wsX0_has) := goodIn_app (goodIn_of _ (by decide +kernel)) ggX0_put_X0_has
theorem dX0_put_0 : decode cX0_put 0 = .ok (.aload_n 0, 1) := by decide +kernel
theorem dX0_put_1 : decode cX0_put 1 = .ok (.iload_n 1, 1) := by decide +kernel
theorem dX0_put_2 : decode cX0_put 2 = .ok (.invokevirtual 23, 3) := by decide +kernel
theorem dX0_put_5 : decode cX0_put 5 = .ok (.ifCond .eq 10, 3) := by decide +kernel
theorem dX0_put_8 : decode cX0_put 8 = .ok (.aload_n 0, 1) := by decide +kernel
theorem dX0_put_9 : decode cX0_put 9 = .ok (.getfield 13, 3) := by decide +kernel
theorem dX0_put_12 : decode cX0_put 12 = .ok (.iload_n 1, 1) := by decide +kernel
theorem dX0_put_13 : decode cX0_put 13 = .ok (.iload_n 2, 1) := by decide +kernel
theorem dX0_put_14 : decode cX0_put 14 = .ok (.iastore, 1) := by decide +kernel
theorem dX0_put_15 : decode cX0_put 15 = .ok (.return_, 1) := by decide +kernel
theorem dX0_append_0 : decode cX0_append 0 = .ok (.aload_n 0, 1) := by decide +kernel
theorem dX0_append_1 : decode cX0_append 1 = .ok (.getfield 19, 3) := by decide +kernel
theorem dX0_append_4 : decode cX0_append 4 = .ok (.ifCond .lt 35, 3) := by decide +kernel
theorem dX0_append_7 : decode cX0_append 7 = .ok (.aload_n 0, 1) := by decide +kernel
theorem dX0_append_8 : decode cX0_append 8 = .ok (.getfield 19, 3) := by decide +kernel
theorem dX0_append_11 : decode cX0_append 11 = .ok (.aload_n 0, 1) := by decide +kernel
theorem dX0_append_12 : decode cX0_append 12 = .ok (.getfield 13, 3) := by decide +kernel
theorem dX0_append_15 : decode cX0_append 15 = .ok (.arraylength, 1) := by decide +kernel
theorem dX0_append_16 : decode cX0_append 16 = .ok (.if_icmp .ge 23, 3) := by decide +kernel
theorem dX0_append_19 : decode cX0_append 19 = .ok (.aload_n 0, 1) := by decide +kernel
theorem dX0_append_20 : decode cX0_append 20 = .ok (.getfield 13, 3) := by decide +kernel
theorem dX0_append_23 : decode cX0_append 23 = .ok (.aload_n 0, 1) := by decide +kernel
theorem dX0_append_24 : decode cX0_append 24 = .ok (.getfield 19, 3) := by decide +kernel
theorem dX0_append_27 : decode cX0_append 27 = .ok (.iload_n 1, 1) := by decide +kernel
theorem dX0_append_28 : decode cX0_append 28 = .ok (.iastore, 1) := by decide +kernel
theorem dX0_append_29 : decode cX0_append 29 = .ok (.aload_n 0, 1) := by decide +kernel
theorem dX0_append_30 : decode cX0_append 30 = .ok (.dup, 1) := by decide +kernel
theorem dX0_append_31 : decode cX0_append 31 = .ok (.getfield 19, 3) := by decide +kernel
theorem dX0_append_34 : decode cX0_append 34 = .ok (.iconst 1, 1) := by decide +kernel
theorem dX0_append_35 : decode cX0_append 35 = .ok (.iadd, 1) := by decide +kernel
theorem dX0_append_36 : decode cX0_append 36 = .ok (.putfield 19, 3) := by decide +kernel
theorem dX0_append_39 : decode cX0_append 39 = .ok (.return_, 1) := by decide +kernel
theorem dX0_clear_0 : decode cX0_clear 0 = .ok (.aload_n 0, 1) := by decide +kernel
theorem dX0_clear_1 : decode cX0_clear 1 = .ok (.iconst 0, 1) := by decide +kernel
theorem dX0_clear_2 : decode cX0_clear 2 = .ok (.putfield 19, 3) := by decide +kernel
theorem dX0_clear_5 : decode cX0_clear 5 = .ok (.return_, 1) := by decide +kernel
set_option maxRecDepth 20000 in
theorem ggX1_init_X1_open : GoodIn wsX1_init wsX1_open := goodIn_r _ [8, 9, 10, 11, 12, 13, 14, 15, 16, 17] (by decide +kernel) (by decide +kernel)
set_option maxRecDepth 20000 in
theorem gX1_init_X1_open : GoodIn wsX1_init (wsV RX1 9 RX1 yX1_open wsX1_open) := goodIn_app (goodIn_of _ (by decide +kernel)) ggX1_init_X1_open
theorem dX1_init_0 : decode cX1_init 0 = .ok (.aload_n 0, 1) := by decide +kernel
theorem dX1_init_1 : decode cX1_init 1 = .ok (.invokespecial 3, 3) := by decide +kernel
theorem dX1_init_4 : decode cX1_init 4 = .ok (.aload_n 0, 1) := by decide +kernel
theorem dX1_init_5 : decode cX1_init 5 = .ok (.invokevirtual 9, 3) := by decide +kernel
theorem dX1_init_8 : decode cX1_init 8 = .ok (.return_, 1) := by decide +kernel
theorem dX1_open_0 : decode cX1_open 0 = .ok (.aload_n 0, 1) := by decide +kernel
theorem dX1_open_1 : decode cX1_open 1 = .ok (.lconst 0, 1) := by decide +kernel
theorem dX1_open_2 : decode cX1_open 2 = .ok (.putfield 14, 3) := by decide +kernel
theorem dX1_open_5 : decode cX1_open 5 = .ok (.aload_n 0, 1) := by decide +kernel
theorem dX1_open_6 : decode cX1_open 6 = .ok (.ldc2_w 18, 3) := by decide +kernel
theorem dX1_open_9 : decode cX1_open 9 = .ok (.putfield 20, 3) := by decide +kernel
theorem dX1_open_12 : decode cX1_open 12 = .ok (.aload_n 0, 1) := by decide +kernel
theorem dX1_open_13 : decode cX1_open 13 = .ok (.lconst 0, 1) := by decide +kernel
theorem dX1_open_14 : decode cX1_open 14 = .ok (.putfield 23, 3) := by decide +kernel
theorem dX1_open_17 : decode cX1_open 17 = .ok (.aload_n 0, 1) := by decide +kernel
theorem dX1_open_18 : decode cX1_open 18 = .ok (.iconst 0, 1) := by decide +kernel
theorem dX1_open_19 : decode cX1_open 19 = .ok (.putfield 26, 3) := by decide +kernel
theorem dX1_open_22 : decode cX1_open 22 = .ok (.return_, 1) := by decide +kernel
set_option maxRecDepth 20000 in
theorem ggX1_load_X1_pull : GoodIn wsX1_load wsX1_pull := goodIn_r _ [5, 6, 7, 8, 9, 10, 11, 12, 13, 14, 15, 16, 17, 18, 19, 20, 21, 22, 23, 24, 25] (by decide +kernel) (by decide +kernel)
set_option maxRecDepth 20000 in
theorem gX1_load_X1_pull : GoodIn wsX1_load (wsV RX1 30 RX1 yX1_pull wsX1_pull) := goodIn_app (goodIn_of _ (by decide +kernel)) ggX1_load_X1_pull
theorem dX1_load_0 : decode cX1_load 0 = .ok (.iconst 0, 1) := by decide +kernel
theorem dX1_load_1 : decode cX1_load 1 = .ok (.istore_n 2, 1) := by decide +kernel
theorem dX1_load_2 : decode cX1_load 2 = .ok (.iload_n 2, 1) := by decide +kernel
theorem dX1_load_3 : decode cX1_load 3 = .ok (.iconst 4, 1) := by decide +kernel
theorem dX1_load_4 : decode cX1_load 4 = .ok (.if_icmp .ge 14, 3) := by decide +kernel
theorem dX1_load_7 : decode cX1_load 7 = .ok (.aload_n 0, 1) := by decide +kernel
theorem dX1_load_8 : decode cX1_load 8 = .ok (.aload_n 1, 1) := by decide +kernel
theorem dX1_load_9 : decode cX1_load 9 = .ok (.invokevirtual 30, 3) := by decide +kernel
theorem dX1_load_12 : decode cX1_load 12 = .ok (.iinc 2 1, 3) := by decide +kernel
theorem dX1_load_15 : decode cX1_load 15 = .ok (.goto (-13), 3) := by decide +kernel
theorem dX1_load_18 : decode cX1_load 18 = .ok (.return_, 1) := by decide +kernel
set_option maxRecDepth 20000 in
theorem ggX1_pull_X0_at : GoodIn wsX1_pull wsX0_at := goodIn_r _ [8, 9, 10, 11, 12, 7, 13, 14, 19, 20] (by decide +kernel) (by decide +kernel)
set_option maxRecDepth 20000 in
theorem gX1_pull_X0_at : GoodIn wsX1_pull (wsV RX1 34 RX0 yX0_at wsX0_at) := goodIn_app (goodIn_of _ (by decide +kernel)) ggX1_pull_X0_at
theorem dX1_pull_0 : decode cX1_pull 0 = .ok (.aload_n 0, 1) := by decide +kernel
theorem dX1_pull_1 : decode cX1_pull 1 = .ok (.aload_n 0, 1) := by decide +kernel
theorem dX1_pull_2 : decode cX1_pull 2 = .ok (.getfield 23, 3) := by decide +kernel
theorem dX1_pull_5 : decode cX1_pull 5 = .ok (.bipush 8, 2) := by decide +kernel
theorem dX1_pull_7 : decode cX1_pull 7 = .ok (.lshl, 1) := by decide +kernel
theorem dX1_pull_8 : decode cX1_pull 8 = .ok (.ldc2_w 18, 3) := by decide +kernel
theorem dX1_pull_11 : decode cX1_pull 11 = .ok (.land, 1) := by decide +kernel
theorem dX1_pull_12 : decode cX1_pull 12 = .ok (.aload_n 1, 1) := by decide +kernel
theorem dX1_pull_13 : decode cX1_pull 13 = .ok (.aload_n 0, 1) := by decide +kernel
theorem dX1_pull_14 : decode cX1_pull 14 = .ok (.getfield 26, 3) := by decide +kernel
theorem dX1_pull_17 : decode cX1_pull 17 = .ok (.invokevirtual 34, 3) := by decide +kernel
theorem dX1_pull_20 : decode cX1_pull 20 = .ok (.i2l, 1) := by decide +kernel
theorem dX1_pull_21 : decode cX1_pull 21 = .ok (.ladd, 1) := by decide +kernel
theorem dX1_pull_22 : decode cX1_pull 22 = .ok (.putfield 23, 3) := by decide +kernel
theorem dX1_pull_25 : decode cX1_pull 25 = .ok (.aload_n 0, 1) := by decide +kernel
theorem dX1_pull_26 : decode cX1_pull 26 = .ok (.dup, 1) := by decide +kernel
theorem dX1_pull_27 : decode cX1_pull 27 = .ok (.getfield 26, 3) := by decide +kernel
theorem dX1_pull_30 : decode cX1_pull 30 = .ok (.iconst 1, 1) := by decide +kernel
theorem dX1_pull_31 : decode cX1_pull 31 = .ok (.iadd, 1) := by decide +kernel
theorem dX1_pull_32 : decode cX1_pull 32 = .ok (.putfield 26, 3) := by decide +kernel
theorem dX1_pull_35 : decode cX1_pull 35 = .ok (.return_, 1) := by decide +kernel
theorem dX1_middle_0 : decode cX1_middle 0 = .ok (.aload_n 0, 1) := by decide +kernel
theorem dX1_middle_1 : decode cX1_middle 1 = .ok (.getfield 14, 3) := by decide +kernel
theorem dX1_middle_4 : decode cX1_middle 4 = .ok (.aload_n 0, 1) := by decide +kernel
theorem dX1_middle_5 : decode cX1_middle 5 = .ok (.getfield 20, 3) := by decide +kernel
theorem dX1_middle_8 : decode cX1_middle 8 = .ok (.aload_n 0, 1) := by decide +kernel
theorem dX1_middle_9 : decode cX1_middle 9 = .ok (.getfield 14, 3) := by decide +kernel
theorem dX1_middle_12 : decode cX1_middle 12 = .ok (.lsub, 1) := by decide +kernel
theorem dX1_middle_13 : decode cX1_middle 13 = .ok (.ldc2_w 40, 3) := by decide +kernel
theorem dX1_middle_16 : decode cX1_middle 16 = .ok (.ldiv, 1) := by decide +kernel
theorem dX1_middle_17 : decode cX1_middle 17 = .ok (.iload_n 1, 1) := by decide +kernel
theorem dX1_middle_18 : decode cX1_middle 18 = .ok (.i2l, 1) := by decide +kernel
theorem dX1_middle_19 : decode cX1_middle 19 = .ok (.lmul, 1) := by decide +kernel
theorem dX1_middle_20 : decode cX1_middle 20 = .ok (.ladd, 1) := by decide +kernel
theorem dX1_middle_21 : decode cX1_middle 21 = .ok (.lreturn, 1) := by decide +kernel
theorem dX1_narrow_0 : decode cX1_narrow 0 = .ok (.iload_n 1, 1) := by decide +kernel
theorem dX1_narrow_1 : decode cX1_narrow 1 = .ok (.ifCond .eq 11, 3) := by decide +kernel
theorem dX1_narrow_4 : decode cX1_narrow 4 = .ok (.aload_n 0, 1) := by decide +kernel
theorem dX1_narrow_5 : decode cX1_narrow 5 = .ok (.lload_n 2, 1) := by decide +kernel
theorem dX1_narrow_6 : decode cX1_narrow 6 = .ok (.putfield 20, 3) := by decide +kernel
theorem dX1_narrow_9 : decode cX1_narrow 9 = .ok (.goto 10, 3) := by decide +kernel
theorem dX1_narrow_12 : decode cX1_narrow 12 = .ok (.aload_n 0, 1) := by decide +kernel
theorem dX1_narrow_13 : decode cX1_narrow 13 = .ok (.lload_n 2, 1) := by decide +kernel
theorem dX1_narrow_14 : decode cX1_narrow 14 = .ok (.lconst 1, 1) := by decide +kernel
theorem dX1_narrow_15 : decode cX1_narrow 15 = .ok (.ladd, 1) := by decide +kernel
theorem dX1_narrow_16 : decode cX1_narrow 16 = .ok (.putfield 14, 3) := by decide +kernel
theorem dX1_narrow_19 : decode cX1_narrow 19 = .ok (.return_, 1) := by decide +kernel
set_option maxRecDepth 20000 in
theorem ggX1_isSettled_X1_topByte : GoodIn wsX1_isSettled wsX1_topByte := goodIn_r _ [6] (by decide +kernel) (by decide +kernel)
set_option maxRecDepth 20000 in
theorem gX1_isSettled_X1_topByte : GoodIn wsX1_isSettled (va_wsS RX1 42 yX1_topByte wsX1_topByte) := goodIn_app (goodIn_of _ (by decide +kernel)) ggX1_isSettled_X1_topByte
theorem dX1_isSettled_0 : decode cX1_isSettled 0 = .ok (.aload_n 0, 1) := by decide +kernel
theorem dX1_isSettled_1 : decode cX1_isSettled 1 = .ok (.getfield 14, 3) := by decide +kernel
theorem dX1_isSettled_4 : decode cX1_isSettled 4 = .ok (.invokestatic 42, 3) := by decide +kernel
theorem dX1_isSettled_7 : decode cX1_isSettled 7 = .ok (.aload_n 0, 1) := by decide +kernel
theorem dX1_isSettled_8 : decode cX1_isSettled 8 = .ok (.getfield 20, 3) := by decide +kernel
theorem dX1_isSettled_11 : decode cX1_isSettled 11 = .ok (.invokestatic 42, 3) := by decide +kernel
theorem dX1_isSettled_14 : decode cX1_isSettled 14 = .ok (.if_icmp .ne 7, 3) := by decide +kernel
theorem dX1_isSettled_17 : decode cX1_isSettled 17 = .ok (.iconst 1, 1) := by decide +kernel
theorem dX1_isSettled_18 : decode cX1_isSettled 18 = .ok (.goto 4, 3) := by decide +kernel
theorem dX1_isSettled_21 : decode cX1_isSettled 21 = .ok (.iconst 0, 1) := by decide +kernel
theorem dX1_isSettled_22 : decode cX1_isSettled 22 = .ok (.ireturn, 1) := by decide +kernel
set_option maxRecDepth 20000 in
theorem ggX1_shift_X1_topByte : GoodIn wsX1_shift wsX1_topByte := goodIn_r _ [8] (by decide +kernel) (by decide +kernel)
set_option maxRecDepth 20000 in
theorem gX1_shift_X1_topByte : GoodIn wsX1_shift (va_wsS RX1 42 yX1_topByte wsX1_topByte) := goodIn_app (goodIn_of _ (by decide +kernel)) ggX1_shift_X1_topByte
theorem dX1_shift_0 : decode cX1_shift 0 = .ok (.aload_n 0, 1) := by decide +kernel
theorem dX1_shift_1 : decode cX1_shift 1 = .ok (.getfield 14, 3) := by decide +kernel
theorem dX1_shift_4 : decode cX1_shift 4 = .ok (.invokestatic 42, 3) := by decide +kernel
theorem dX1_shift_7 : decode cX1_shift 7 = .ok (.istore_n 1, 1) := by decide +kernel
theorem dX1_shift_8 : decode cX1_shift 8 = .ok (.aload_n 0, 1) := by decide +kernel
theorem dX1_shift_9 : decode cX1_shift 9 = .ok (.aload_n 0, 1) := by decide +kernel
theorem dX1_shift_10 : decode cX1_shift 10 = .ok (.getfield 14, 3) := by decide +kernel
theorem dX1_shift_13 : decode cX1_shift 13 = .ok (.bipush 8, 2) := by decide +kernel
theorem dX1_shift_15 : decode cX1_shift 15 = .ok (.lshl, 1) := by decide +kernel
theorem dX1_shift_16 : decode cX1_shift 16 = .ok (.ldc2_w 18, 3) := by decide +kernel
theorem dX1_shift_19 : decode cX1_shift 19 = .ok (.land, 1) := by decide +kernel
theorem dX1_shift_20 : decode cX1_shift 20 = .ok (.putfield 14, 3) := by decide +kernel
theorem dX1_shift_23 : decode cX1_shift 23 = .ok (.aload_n 0, 1) := by decide +kernel
theorem dX1_shift_24 : decode cX1_shift 24 = .ok (.aload_n 0, 1) := by decide +kernel
theorem dX1_shift_25 : decode cX1_shift 25 = .ok (.getfield 20, 3) := by decide +kernel
theorem dX1_shift_28 : decode cX1_shift 28 = .ok (.bipush 8, 2) := by decide +kernel
theorem dX1_shift_30 : decode cX1_shift 30 = .ok (.lshl, 1) := by decide +kernel
theorem dX1_shift_31 : decode cX1_shift 31 = .ok (.ldc2_w 18, 3) := by decide +kernel
theorem dX1_shift_34 : decode cX1_shift 34 = .ok (.land, 1) := by decide +kernel
theorem dX1_shift_35 : decode cX1_shift 35 = .ok (.ldc2_w 46, 3) := by decide +kernel
theorem dX1_shift_38 : decode cX1_shift 38 = .ok (.ladd, 1) := by decide +kernel
theorem dX1_shift_39 : decode cX1_shift 39 = .ok (.putfield 20, 3) := by decide +kernel
theorem dX1_shift_42 : decode cX1_shift 42 = .ok (.iload_n 1, 1) := by decide +kernel
theorem dX1_shift_43 : decode cX1_shift 43 = .ok (.ireturn, 1) := by decide +kernel
theorem dX1_topByte_0 : decode cX1_topByte 0 = .ok (.lload_n 0, 1) := by decide +kernel
theorem dX1_topByte_1 : decode cX1_topByte 1 = .ok (.bipush 24, 2) := by decide +kernel
theorem dX1_topByte_3 : decode cX1_topByte 3 = .ok (.lushr, 1) := by decide +kernel
theorem dX1_topByte_4 : decode cX1_topByte 4 = .ok (.l2i, 1) := by decide +kernel
theorem dX1_topByte_5 : decode cX1_topByte 5 = .ok (.ireturn, 1) := by decide +kernel
theorem dX2_init_0 : decode cX2_init 0 = .ok (.aload_n 0, 1) := by decide +kernel
theorem dX2_init_1 : decode cX2_init 1 = .ok (.invokespecial 3, 3) := by decide +kernel
theorem dX2_init_4 : decode cX2_init 4 = .ok (.aload_n 0, 1) := by decide +kernel
theorem dX2_init_5 : decode cX2_init 5 = .ok (.sipush 512, 3) := by decide +kernel
theorem dX2_init_8 : decode cX2_init 8 = .ok (.newarray .int, 2) := by decide +kernel
theorem dX2_init_10 : decode cX2_init 10 = .ok (.putfield 9, 3) := by decide +kernel
theorem dX2_init_13 : decode cX2_init 13 = .ok (.aload_n 0, 1) := by decide +kernel
theorem dX2_init_14 : decode cX2_init 14 = .ok (.sipush 512, 3) := by decide +kernel
theorem dX2_init_17 : decode cX2_init 17 = .ok (.newarray .long, 2) := by decide +kernel
theorem dX2_init_19 : decode cX2_init 19 = .ok (.putfield 15, 3) := by decide +kernel
theorem dX2_init_22 : decode cX2_init 22 = .ok (.aload_n 0, 1) := by decide +kernel
theorem dX2_init_23 : decode cX2_init 23 = .ok (.bipush 8, 2) := by decide +kernel
theorem dX2_init_25 : decode cX2_init 25 = .ok (.newarray .int, 2) := by decide +kernel
theorem dX2_init_27 : decode cX2_init 27 = .ok (.putfield 19, 3) := by decide +kernel
theorem dX2_init_30 : decode cX2_init 30 = .ok (.return_, 1) := by decide +kernel
theorem dX2_shape_0 : decode cX2_shape 0 = .ok (.aload_n 0, 1) := by decide +kernel
theorem dX2_shape_1 : decode cX2_shape 1 = .ok (.iload_n 1, 1) := by decide +kernel
theorem dX2_shape_2 : decode cX2_shape 2 = .ok (.putfield 22, 3) := by decide +kernel
theorem dX2_shape_5 : decode cX2_shape 5 = .ok (.aload_n 0, 1) := by decide +kernel
theorem dX2_shape_6 : decode cX2_shape 6 = .ok (.iload_n 2, 1) := by decide +kernel
theorem dX2_shape_7 : decode cX2_shape 7 = .ok (.putfield 26, 3) := by decide +kernel
theorem dX2_shape_10 : decode cX2_shape 10 = .ok (.aload_n 0, 1) := by decide +kernel
theorem dX2_shape_11 : decode cX2_shape 11 = .ok (.iload_n 3, 1) := by decide +kernel
theorem dX2_shape_12 : decode cX2_shape 12 = .ok (.putfield 29, 3) := by decide +kernel
theorem dX2_shape_15 : decode cX2_shape 15 = .ok (.return_, 1) := by decide +kernel
theorem dX2_tableSize_0 : decode cX2_tableSize 0 = .ok (.iconst 1, 1) := by decide +kernel
theorem dX2_tableSize_1 : decode cX2_tableSize 1 = .ok (.aload_n 0, 1) := by decide +kernel
theorem dX2_tableSize_2 : decode cX2_tableSize 2 = .ok (.getfield 29, 3) := by decide +kernel
theorem dX2_tableSize_5 : decode cX2_tableSize 5 = .ok (.ishl, 1) := by decide +kernel
theorem dX2_tableSize_6 : decode cX2_tableSize 6 = .ok (.sipush 512, 3) := by decide +kernel
theorem dX2_tableSize_9 : decode cX2_tableSize 9 = .ok (.invokestatic 32, 3) := by decide +kernel
theorem dX2_tableSize_12 : decode cX2_tableSize 12 = .ok (.ireturn, 1) := by decide +kernel
set_option maxRecDepth 20000 in
theorem ggX2_forget_J7_fill_53178 : GoodIn wsX2_forget wsJ7_fill_53178 := goodIn_r _ [8] (by decide +kernel) (by decide +kernel)
set_option maxRecDepth 20000 in
theorem gX2_forget_J7_fill_53178 : GoodIn wsX2_forget (va_wsS RX2 38 yJ7_fill_53178 wsJ7_fill_53178) := goodIn_app (goodIn_of _ (by decide +kernel)) ggX2_forget_J7_fill_53178
set_option maxRecDepth 20000 in
theorem ggX2_forget_J7_fill_d0a16 : GoodIn wsX2_forget wsJ7_fill_d0a16 := goodIn_r _ [11] (by decide +kernel) (by decide +kernel)
set_option maxRecDepth 20000 in
theorem gX2_forget_J7_fill_d0a16 : GoodIn wsX2_forget (va_wsS RX2 44 yJ7_fill_d0a16 wsJ7_fill_d0a16) := goodIn_app (goodIn_of _ (by decide +kernel)) ggX2_forget_J7_fill_d0a16
theorem dX2_forget_0 : decode cX2_forget 0 = .ok (.aload_n 0, 1) := by decide +kernel
theorem dX2_forget_1 : decode cX2_forget 1 = .ok (.getfield 9, 3) := by decide +kernel
theorem dX2_forget_4 : decode cX2_forget 4 = .ok (.sipush 2048, 3) := by decide +kernel
theorem dX2_forget_7 : decode cX2_forget 7 = .ok (.invokestatic 38, 3) := by decide +kernel
theorem dX2_forget_10 : decode cX2_forget 10 = .ok (.aload_n 0, 1) := by decide +kernel
theorem dX2_forget_11 : decode cX2_forget 11 = .ok (.getfield 15, 3) := by decide +kernel
theorem dX2_forget_14 : decode cX2_forget 14 = .ok (.lconst 0, 1) := by decide +kernel
theorem dX2_forget_15 : decode cX2_forget 15 = .ok (.invokestatic 44, 3) := by decide +kernel
theorem dX2_forget_18 : decode cX2_forget 18 = .ok (.aload_n 0, 1) := by decide +kernel
theorem dX2_forget_19 : decode cX2_forget 19 = .ok (.getfield 19, 3) := by decide +kernel
theorem dX2_forget_22 : decode cX2_forget 22 = .ok (.sipush 256, 3) := by decide +kernel
theorem dX2_forget_25 : decode cX2_forget 25 = .ok (.invokestatic 38, 3) := by decide +kernel
theorem dX2_forget_28 : decode cX2_forget 28 = .ok (.aload_n 0, 1) := by decide +kernel
theorem dX2_forget_29 : decode cX2_forget 29 = .ok (.iconst 0, 1) := by decide +kernel
theorem dX2_forget_30 : decode cX2_forget 30 = .ok (.putfield 47, 3) := by decide +kernel
theorem dX2_forget_33 : decode cX2_forget 33 = .ok (.return_, 1) := by decide +kernel
theorem dX2_readContext_0 : decode cX2_readContext 0 = .ok (.iconst 0, 1) := by decide +kernel
theorem dX2_readContext_1 : decode cX2_readContext 1 = .ok (.istore_n 2, 1) := by decide +kernel
theorem dX2_readContext_2 : decode cX2_readContext 2 = .ok (.iconst 0, 1) := by decide +kernel
theorem dX2_readContext_3 : decode cX2_readContext 3 = .ok (.istore_n 3, 1) := by decide +kernel
theorem dX2_readContext_4 : decode cX2_readContext 4 = .ok (.iload_n 3, 1) := by decide +kernel
theorem dX2_readContext_5 : decode cX2_readContext 5 = .ok (.aload_n 0, 1) := by decide +kernel
theorem dX2_readContext_6 : decode cX2_readContext 6 = .ok (.getfield 22, 3) := by decide +kernel
theorem dX2_readContext_9 : decode cX2_readContext 9 = .ok (.if_icmp .ge 27, 3) := by decide +kernel
theorem dX2_readContext_12 : decode cX2_readContext 12 = .ok (.iload_n 3, 1) := by decide +kernel
theorem dX2_readContext_13 : decode cX2_readContext 13 = .ok (.aload_n 1, 1) := by decide +kernel
theorem dX2_readContext_14 : decode cX2_readContext 14 = .ok (.arraylength, 1) := by decide +kernel
theorem dX2_readContext_15 : decode cX2_readContext 15 = .ok (.if_icmp .ge 21, 3) := by decide +kernel
theorem dX2_readContext_18 : decode cX2_readContext 18 = .ok (.sipush 257, 3) := by decide +kernel
theorem dX2_readContext_21 : decode cX2_readContext 21 = .ok (.iload_n 2, 1) := by decide +kernel
theorem dX2_readContext_22 : decode cX2_readContext 22 = .ok (.imul, 1) := by decide +kernel
theorem dX2_readContext_23 : decode cX2_readContext 23 = .ok (.iconst 1, 1) := by decide +kernel
theorem dX2_readContext_24 : decode cX2_readContext 24 = .ok (.iadd, 1) := by decide +kernel
theorem dX2_readContext_25 : decode cX2_readContext 25 = .ok (.aload_n 1, 1) := by decide +kernel
theorem dX2_readContext_26 : decode cX2_readContext 26 = .ok (.iload_n 3, 1) := by decide +kernel
theorem dX2_readContext_27 : decode cX2_readContext 27 = .ok (.iaload, 1) := by decide +kernel
theorem dX2_readContext_28 : decode cX2_readContext 28 = .ok (.iadd, 1) := by decide +kernel
theorem dX2_readContext_29 : decode cX2_readContext 29 = .ok (.istore_n 2, 1) := by decide +kernel
theorem dX2_readContext_30 : decode cX2_readContext 30 = .ok (.iinc 3 1, 3) := by decide +kernel
theorem dX2_readContext_33 : decode cX2_readContext 33 = .ok (.goto (-29), 3) := by decide +kernel
theorem dX2_readContext_36 : decode cX2_readContext 36 = .ok (.aload_n 0, 1) := by decide +kernel
theorem dX2_readContext_37 : decode cX2_readContext 37 = .ok (.iload_n 2, 1) := by decide +kernel
theorem dX2_readContext_38 : decode cX2_readContext 38 = .ok (.putfield 50, 3) := by decide +kernel
theorem dX2_readContext_41 : decode cX2_readContext 41 = .ok (.return_, 1) := by decide +kernel
set_option maxRecDepth 20000 in
theorem ggX2_aim_X2_tableSize : GoodIn wsX2_aim wsX2_tableSize := goodIn_r _ [9, 10, 11, 12, 13, 14, 15, 16, 17, 18, 19, 20, 21, 22, 23, 24] (by decide +kernel) (by decide +kernel)
set_option maxRecDepth 20000 in
theorem gX2_aim_X2_tableSize : GoodIn wsX2_aim (wsV RX2 59 RX2 yX2_tableSize wsX2_tableSize) := goodIn_app (goodIn_of _ (by decide +kernel)) ggX2_aim_X2_tableSize
theorem dX2_aim_0 : decode cX2_aim 0 = .ok (.aload_n 0, 1) := by decide +kernel
theorem dX2_aim_1 : decode cX2_aim 1 = .ok (.ldc2_w 53, 3) := by decide +kernel
theorem dX2_aim_4 : decode cX2_aim 4 = .ok (.aload_n 0, 1) := by decide +kernel
theorem dX2_aim_5 : decode cX2_aim 5 = .ok (.getfield 50, 3) := by decide +kernel
theorem dX2_aim_8 : decode cX2_aim 8 = .ok (.i2l, 1) := by decide +kernel
theorem dX2_aim_9 : decode cX2_aim 9 = .ok (.lmul, 1) := by decide +kernel
theorem dX2_aim_10 : decode cX2_aim 10 = .ok (.iload_n 1, 1) := by decide +kernel
theorem dX2_aim_11 : decode cX2_aim 11 = .ok (.i2l, 1) := by decide +kernel
theorem dX2_aim_12 : decode cX2_aim 12 = .ok (.ladd, 1) := by decide +kernel
theorem dX2_aim_13 : decode cX2_aim 13 = .ok (.putfield 55, 3) := by decide +kernel
theorem dX2_aim_16 : decode cX2_aim 16 = .ok (.aload_n 0, 1) := by decide +kernel
theorem dX2_aim_17 : decode cX2_aim 17 = .ok (.bipush 73, 2) := by decide +kernel
theorem dX2_aim_19 : decode cX2_aim 19 = .ok (.aload_n 0, 1) := by decide +kernel
theorem dX2_aim_20 : decode cX2_aim 20 = .ok (.getfield 50, 3) := by decide +kernel
theorem dX2_aim_23 : decode cX2_aim 23 = .ok (.imul, 1) := by decide +kernel
theorem dX2_aim_24 : decode cX2_aim 24 = .ok (.iload_n 1, 1) := by decide +kernel
theorem dX2_aim_25 : decode cX2_aim 25 = .ok (.iadd, 1) := by decide +kernel
theorem dX2_aim_26 : decode cX2_aim 26 = .ok (.aload_n 0, 1) := by decide +kernel
theorem dX2_aim_27 : decode cX2_aim 27 = .ok (.invokevirtual 59, 3) := by decide +kernel
theorem dX2_aim_30 : decode cX2_aim 30 = .ok (.iconst 1, 1) := by decide +kernel
theorem dX2_aim_31 : decode cX2_aim 31 = .ok (.isub, 1) := by decide +kernel
theorem dX2_aim_32 : decode cX2_aim 32 = .ok (.iand, 1) := by decide +kernel
theorem dX2_aim_33 : decode cX2_aim 33 = .ok (.putfield 63, 3) := by decide +kernel
theorem dX2_aim_36 : decode cX2_aim 36 = .ok (.return_, 1) := by decide +kernel
theorem dX2_guess_0 : decode cX2_guess 0 = .ok (.aload_n 0, 1) := by decide +kernel
theorem dX2_guess_1 : decode cX2_guess 1 = .ok (.getfield 9, 3) := by decide +kernel
theorem dX2_guess_4 : decode cX2_guess 4 = .ok (.aload_n 0, 1) := by decide +kernel
theorem dX2_guess_5 : decode cX2_guess 5 = .ok (.getfield 63, 3) := by decide +kernel
theorem dX2_guess_8 : decode cX2_guess 8 = .ok (.iaload, 1) := by decide +kernel
theorem dX2_guess_9 : decode cX2_guess 9 = .ok (.ireturn, 1) := by decide +kernel
set_option maxRecDepth 20000 in
theorem ggX2_adjustWeight_X2_guess : GoodIn wsX2_adjustWeight wsX2_guess := goodIn_r _ [14, 15, 16, 20, 21, 22, 23, 24, 25, 26, 27, 28, 29] (by decide +kernel) (by decide +kernel)
set_option maxRecDepth 20000 in
theorem gX2_adjustWeight_X2_guess : GoodIn wsX2_adjustWeight (wsV RX2 66 RX2 yX2_guess wsX2_guess) := goodIn_app (goodIn_of _ (by decide +kernel)) ggX2_adjustWeight_X2_guess
set_option maxRecDepth 20000 in
theorem ggX2_adjustWeight_X4_quality : GoodIn wsX2_adjustWeight wsX4_quality := goodIn_r _ [19] (by decide +kernel) (by decide +kernel)
set_option maxRecDepth 20000 in
theorem gX2_adjustWeight_X4_quality_n69 : GoodIn wsX2_adjustWeight (wsX4_quality) := ggX2_adjustWeight_X4_quality
theorem dX2_adjustWeight_0 : decode cX2_adjustWeight 0 = .ok (.aload_n 0, 1) := by decide +kernel
theorem dX2_adjustWeight_1 : decode cX2_adjustWeight 1 = .ok (.invokevirtual 66, 3) := by decide +kernel
theorem dX2_adjustWeight_4 : decode cX2_adjustWeight 4 = .ok (.iload_n 2, 1) := by decide +kernel
theorem dX2_adjustWeight_5 : decode cX2_adjustWeight 5 = .ok (.invokestatic 69, 3) := by decide +kernel
theorem dX2_adjustWeight_8 : decode cX2_adjustWeight 8 = .ok (.istore 4, 2) := by decide +kernel
theorem dX2_adjustWeight_10 : decode cX2_adjustWeight 10 = .ok (.aload_n 0, 1) := by decide +kernel
theorem dX2_adjustWeight_11 : decode cX2_adjustWeight 11 = .ok (.getfield 19, 3) := by decide +kernel
theorem dX2_adjustWeight_14 : decode cX2_adjustWeight 14 = .ok (.iload_n 1, 1) := by decide +kernel
theorem dX2_adjustWeight_15 : decode cX2_adjustWeight 15 = .ok (.iaload, 1) := by decide +kernel
theorem dX2_adjustWeight_16 : decode cX2_adjustWeight 16 = .ok (.istore 5, 2) := by decide +kernel
theorem dX2_adjustWeight_18 : decode cX2_adjustWeight 18 = .ok (.iload 4, 2) := by decide +kernel
theorem dX2_adjustWeight_20 : decode cX2_adjustWeight 20 = .ok (.iload_n 3, 1) := by decide +kernel
theorem dX2_adjustWeight_21 : decode cX2_adjustWeight 21 = .ok (.if_icmp .le 27, 3) := by decide +kernel
theorem dX2_adjustWeight_24 : decode cX2_adjustWeight 24 = .ok (.aload_n 0, 1) := by decide +kernel
theorem dX2_adjustWeight_25 : decode cX2_adjustWeight 25 = .ok (.getfield 19, 3) := by decide +kernel
theorem dX2_adjustWeight_28 : decode cX2_adjustWeight 28 = .ok (.iload_n 1, 1) := by decide +kernel
theorem dX2_adjustWeight_29 : decode cX2_adjustWeight 29 = .ok (.iload 5, 2) := by decide +kernel
theorem dX2_adjustWeight_31 : decode cX2_adjustWeight 31 = .ok (.iload 5, 2) := by decide +kernel
theorem dX2_adjustWeight_33 : decode cX2_adjustWeight 33 = .ok (.bipush 16, 2) := by decide +kernel
theorem dX2_adjustWeight_35 : decode cX2_adjustWeight 35 = .ok (.idiv, 1) := by decide +kernel
theorem dX2_adjustWeight_36 : decode cX2_adjustWeight 36 = .ok (.iadd, 1) := by decide +kernel
theorem dX2_adjustWeight_37 : decode cX2_adjustWeight 37 = .ok (.iconst 1, 1) := by decide +kernel
theorem dX2_adjustWeight_38 : decode cX2_adjustWeight 38 = .ok (.iadd, 1) := by decide +kernel
theorem dX2_adjustWeight_39 : decode cX2_adjustWeight 39 = .ok (.ldc 73, 2) := by decide +kernel
theorem dX2_adjustWeight_41 : decode cX2_adjustWeight 41 = .ok (.invokestatic 32, 3) := by decide +kernel
theorem dX2_adjustWeight_44 : decode cX2_adjustWeight 44 = .ok (.iastore, 1) := by decide +kernel
theorem dX2_adjustWeight_45 : decode cX2_adjustWeight 45 = .ok (.goto 29, 3) := by decide +kernel
theorem dX2_adjustWeight_48 : decode cX2_adjustWeight 48 = .ok (.iload 4, 2) := by decide +kernel
theorem dX2_adjustWeight_50 : decode cX2_adjustWeight 50 = .ok (.iload_n 3, 1) := by decide +kernel
theorem dX2_adjustWeight_51 : decode cX2_adjustWeight 51 = .ok (.if_icmp .ge 23, 3) := by decide +kernel
theorem dX2_adjustWeight_54 : decode cX2_adjustWeight 54 = .ok (.aload_n 0, 1) := by decide +kernel
theorem dX2_adjustWeight_55 : decode cX2_adjustWeight 55 = .ok (.getfield 19, 3) := by decide +kernel
theorem dX2_adjustWeight_58 : decode cX2_adjustWeight 58 = .ok (.iload_n 1, 1) := by decide +kernel
theorem dX2_adjustWeight_59 : decode cX2_adjustWeight 59 = .ok (.iload 5, 2) := by decide +kernel
theorem dX2_adjustWeight_61 : decode cX2_adjustWeight 61 = .ok (.iload 5, 2) := by decide +kernel
theorem dX2_adjustWeight_63 : decode cX2_adjustWeight 63 = .ok (.bipush 16, 2) := by decide +kernel
theorem dX2_adjustWeight_65 : decode cX2_adjustWeight 65 = .ok (.idiv, 1) := by decide +kernel
theorem dX2_adjustWeight_66 : decode cX2_adjustWeight 66 = .ok (.isub, 1) := by decide +kernel
theorem dX2_adjustWeight_67 : decode cX2_adjustWeight 67 = .ok (.iconst 1, 1) := by decide +kernel
theorem dX2_adjustWeight_68 : decode cX2_adjustWeight 68 = .ok (.isub, 1) := by decide +kernel
theorem dX2_adjustWeight_69 : decode cX2_adjustWeight 69 = .ok (.iconst 1, 1) := by decide +kernel
theorem dX2_adjustWeight_70 : decode cX2_adjustWeight 70 = .ok (.invokestatic 74, 3) := by decide +kernel
theorem dX2_adjustWeight_73 : decode cX2_adjustWeight 73 = .ok (.iastore, 1) := by decide +kernel
theorem dX2_adjustWeight_74 : decode cX2_adjustWeight 74 = .ok (.return_, 1) := by decide +kernel
theorem dX2_adjustCounter_0 : decode cX2_adjustCounter 0 = .ok (.aload_n 0, 1) := by decide +kernel
theorem dX2_adjustCounter_1 : decode cX2_adjustCounter 1 = .ok (.getfield 9, 3) := by decide +kernel
theorem dX2_adjustCounter_4 : decode cX2_adjustCounter 4 = .ok (.aload_n 0, 1) := by decide +kernel
theorem dX2_adjustCounter_5 : decode cX2_adjustCounter 5 = .ok (.getfield 63, 3) := by decide +kernel
theorem dX2_adjustCounter_8 : decode cX2_adjustCounter 8 = .ok (.iaload, 1) := by decide +kernel
theorem dX2_adjustCounter_9 : decode cX2_adjustCounter 9 = .ok (.istore_n 2, 1) := by decide +kernel
theorem dX2_adjustCounter_10 : decode cX2_adjustCounter 10 = .ok (.aload_n 0, 1) := by decide +kernel
theorem dX2_adjustCounter_11 : decode cX2_adjustCounter 11 = .ok (.getfield 9, 3) := by decide +kernel
theorem dX2_adjustCounter_14 : decode cX2_adjustCounter 14 = .ok (.aload_n 0, 1) := by decide +kernel
theorem dX2_adjustCounter_15 : decode cX2_adjustCounter 15 = .ok (.getfield 63, 3) := by decide +kernel
theorem dX2_adjustCounter_18 : decode cX2_adjustCounter 18 = .ok (.iload_n 1, 1) := by decide +kernel
theorem dX2_adjustCounter_19 : decode cX2_adjustCounter 19 = .ok (.ifCond .eq 18, 3) := by decide +kernel
theorem dX2_adjustCounter_22 : decode cX2_adjustCounter 22 = .ok (.iload_n 2, 1) := by decide +kernel
theorem dX2_adjustCounter_23 : decode cX2_adjustCounter 23 = .ok (.sipush 4096, 3) := by decide +kernel
theorem dX2_adjustCounter_26 : decode cX2_adjustCounter 26 = .ok (.iload_n 2, 1) := by decide +kernel
theorem dX2_adjustCounter_27 : decode cX2_adjustCounter 27 = .ok (.isub, 1) := by decide +kernel
theorem dX2_adjustCounter_28 : decode cX2_adjustCounter 28 = .ok (.aload_n 0, 1) := by decide +kernel
theorem dX2_adjustCounter_29 : decode cX2_adjustCounter 29 = .ok (.getfield 26, 3) := by decide +kernel
theorem dX2_adjustCounter_32 : decode cX2_adjustCounter 32 = .ok (.ishr, 1) := by decide +kernel
theorem dX2_adjustCounter_33 : decode cX2_adjustCounter 33 = .ok (.iadd, 1) := by decide +kernel
theorem dX2_adjustCounter_34 : decode cX2_adjustCounter 34 = .ok (.goto 11, 3) := by decide +kernel
theorem dX2_adjustCounter_37 : decode cX2_adjustCounter 37 = .ok (.iload_n 2, 1) := by decide +kernel
theorem dX2_adjustCounter_38 : decode cX2_adjustCounter 38 = .ok (.iload_n 2, 1) := by decide +kernel
theorem dX2_adjustCounter_39 : decode cX2_adjustCounter 39 = .ok (.aload_n 0, 1) := by decide +kernel
theorem dX2_adjustCounter_40 : decode cX2_adjustCounter 40 = .ok (.getfield 26, 3) := by decide +kernel
theorem dX2_adjustCounter_43 : decode cX2_adjustCounter 43 = .ok (.ishr, 1) := by decide +kernel
theorem dX2_adjustCounter_44 : decode cX2_adjustCounter 44 = .ok (.isub, 1) := by decide +kernel
theorem dX2_adjustCounter_45 : decode cX2_adjustCounter 45 = .ok (.iastore, 1) := by decide +kernel
theorem dX2_adjustCounter_46 : decode cX2_adjustCounter 46 = .ok (.aload_n 0, 1) := by decide +kernel
theorem dX2_adjustCounter_47 : decode cX2_adjustCounter 47 = .ok (.getfield 15, 3) := by decide +kernel
theorem dX2_adjustCounter_50 : decode cX2_adjustCounter 50 = .ok (.aload_n 0, 1) := by decide +kernel
theorem dX2_adjustCounter_51 : decode cX2_adjustCounter 51 = .ok (.getfield 63, 3) := by decide +kernel
theorem dX2_adjustCounter_54 : decode cX2_adjustCounter 54 = .ok (.laload, 1) := by decide +kernel
theorem dX2_adjustCounter_55 : decode cX2_adjustCounter 55 = .ok (.lconst 0, 1) := by decide +kernel
theorem dX2_adjustCounter_56 : decode cX2_adjustCounter 56 = .ok (.lcmp, 1) := by decide +kernel
theorem dX2_adjustCounter_57 : decode cX2_adjustCounter 57 = .ok (.ifCond .eq 30, 3) := by decide +kernel
theorem dX2_adjustCounter_60 : decode cX2_adjustCounter 60 = .ok (.aload_n 0, 1) := by decide +kernel
theorem dX2_adjustCounter_61 : decode cX2_adjustCounter 61 = .ok (.getfield 15, 3) := by decide +kernel
theorem dX2_adjustCounter_64 : decode cX2_adjustCounter 64 = .ok (.aload_n 0, 1) := by decide +kernel
theorem dX2_adjustCounter_65 : decode cX2_adjustCounter 65 = .ok (.getfield 63, 3) := by decide +kernel
theorem dX2_adjustCounter_68 : decode cX2_adjustCounter 68 = .ok (.laload, 1) := by decide +kernel
theorem dX2_adjustCounter_69 : decode cX2_adjustCounter 69 = .ok (.aload_n 0, 1) := by decide +kernel
theorem dX2_adjustCounter_70 : decode cX2_adjustCounter 70 = .ok (.getfield 55, 3) := by decide +kernel
theorem dX2_adjustCounter_73 : decode cX2_adjustCounter 73 = .ok (.lcmp, 1) := by decide +kernel
theorem dX2_adjustCounter_74 : decode cX2_adjustCounter 74 = .ok (.ifCond .eq 13, 3) := by decide +kernel
theorem dX2_adjustCounter_77 : decode cX2_adjustCounter 77 = .ok (.aload_n 0, 1) := by decide +kernel
theorem dX2_adjustCounter_78 : decode cX2_adjustCounter 78 = .ok (.dup, 1) := by decide +kernel
theorem dX2_adjustCounter_79 : decode cX2_adjustCounter 79 = .ok (.getfield 47, 3) := by decide +kernel
theorem dX2_adjustCounter_82 : decode cX2_adjustCounter 82 = .ok (.iconst 1, 1) := by decide +kernel
theorem dX2_adjustCounter_83 : decode cX2_adjustCounter 83 = .ok (.iadd, 1) := by decide +kernel
theorem dX2_adjustCounter_84 : decode cX2_adjustCounter 84 = .ok (.putfield 47, 3) := by decide +kernel
theorem dX2_adjustCounter_87 : decode cX2_adjustCounter 87 = .ok (.aload_n 0, 1) := by decide +kernel
theorem dX2_adjustCounter_88 : decode cX2_adjustCounter 88 = .ok (.getfield 15, 3) := by decide +kernel
theorem dX2_adjustCounter_91 : decode cX2_adjustCounter 91 = .ok (.aload_n 0, 1) := by decide +kernel
theorem dX2_adjustCounter_92 : decode cX2_adjustCounter 92 = .ok (.getfield 63, 3) := by decide +kernel
theorem dX2_adjustCounter_95 : decode cX2_adjustCounter 95 = .ok (.aload_n 0, 1) := by decide +kernel
theorem dX2_adjustCounter_96 : decode cX2_adjustCounter 96 = .ok (.getfield 55, 3) := by decide +kernel
theorem dX2_adjustCounter_99 : decode cX2_adjustCounter 99 = .ok (.lastore, 1) := by decide +kernel
theorem dX2_adjustCounter_100 : decode cX2_adjustCounter 100 = .ok (.return_, 1) := by decide +kernel
set_option maxRecDepth 20000 in
theorem ggX3_init_X2_init : GoodIn wsX3_init wsX2_init := goodIn_r _ [13, 14, 2, 3, 9, 15, 16, 17, 18, 78, 79, 80, 81, 82, 83, 84, 85, 86, 87] (by decide +kernel) (by decide +kernel)
set_option maxRecDepth 20000 in
theorem gX3_init_X2_init : GoodIn wsX3_init (wsX2_init) := ggX3_init_X2_init
set_option maxRecDepth 20000 in
theorem ggX3_init_X3_restart : GoodIn wsX3_init wsX3_restart := goodIn_r _ [23, 8, 5, 10, 24, 25, 26, 27, 28, 29, 30, 7, 31, 15, 17, 18, 32, 33, 34, 35, 36, 37, 38, 39, 40, 41, 42, 43, 22, 44, 45, 46, 47, 48, 49, 50, 51, 52, 53, 54, 55, 56, 57, 58, 59, 60, 61, 62, 63, 64, 65, 66, 67, 68, 69, 70, 71, 72, 73, 74, 75, 76, 77, 78, 79, 80, 81, 82, 83, 84, 85, 86, 87] (by decide +kernel) (by decide +kernel)
set_option maxRecDepth 20000 in
theorem gX3_init_X3_restart : GoodIn wsX3_init (wsV RX3 26 RX3 yX3_restart wsX3_restart) := goodIn_app (goodIn_of _ (by decide +kernel)) ggX3_init_X3_restart
theorem dX3_init_0 : decode cX3_init 0 = .ok (.aload_n 0, 1) := by decide +kernel
theorem dX3_init_1 : decode cX3_init 1 = .ok (.invokespecial 3, 3) := by decide +kernel
theorem dX3_init_4 : decode cX3_init 4 = .ok (.aload_n 0, 1) := by decide +kernel
theorem dX3_init_5 : decode cX3_init 5 = .ok (.bipush 6, 2) := by decide +kernel
theorem dX3_init_7 : decode cX3_init 7 = .ok (.anewarray 9, 3) := by decide +kernel
theorem dX3_init_10 : decode cX3_init 10 = .ok (.putfield 11, 3) := by decide +kernel
theorem dX3_init_13 : decode cX3_init 13 = .ok (.iconst 0, 1) := by decide +kernel
theorem dX3_init_14 : decode cX3_init 14 = .ok (.istore_n 1, 1) := by decide +kernel
theorem dX3_init_15 : decode cX3_init 15 = .ok (.iload_n 1, 1) := by decide +kernel
theorem dX3_init_16 : decode cX3_init 16 = .ok (.bipush 6, 2) := by decide +kernel
theorem dX3_init_18 : decode cX3_init 18 = .ok (.if_icmp .ge 22, 3) := by decide +kernel
theorem dX3_init_21 : decode cX3_init 21 = .ok (.aload_n 0, 1) := by decide +kernel
theorem dX3_init_22 : decode cX3_init 22 = .ok (.getfield 11, 3) := by decide +kernel
theorem dX3_init_25 : decode cX3_init 25 = .ok (.iload_n 1, 1) := by decide +kernel
theorem dX3_init_26 : decode cX3_init 26 = .ok (.new 9, 3) := by decide +kernel
theorem dX3_init_29 : decode cX3_init 29 = .ok (.dup, 1) := by decide +kernel
theorem dX3_init_30 : decode cX3_init 30 = .ok (.invokespecial 17, 3) := by decide +kernel
theorem dX3_init_33 : decode cX3_init 33 = .ok (.aastore, 1) := by decide +kernel
theorem dX3_init_34 : decode cX3_init 34 = .ok (.iinc 1 1, 3) := by decide +kernel
theorem dX3_init_37 : decode cX3_init 37 = .ok (.goto (-22), 3) := by decide +kernel
theorem dX3_init_40 : decode cX3_init 40 = .ok (.aload_n 0, 1) := by decide +kernel
theorem dX3_init_41 : decode cX3_init 41 = .ok (.iconst 0, 1) := by decide +kernel
theorem dX3_init_42 : decode cX3_init 42 = .ok (.putfield 18, 3) := by decide +kernel
theorem dX3_init_45 : decode cX3_init 45 = .ok (.aload_n 0, 1) := by decide +kernel
theorem dX3_init_46 : decode cX3_init 46 = .ok (.iconst 3, 1) := by decide +kernel
theorem dX3_init_47 : decode cX3_init 47 = .ok (.newarray .int, 2) := by decide +kernel
theorem dX3_init_49 : decode cX3_init 49 = .ok (.putfield 22, 3) := by decide +kernel
theorem dX3_init_52 : decode cX3_init 52 = .ok (.aload_n 0, 1) := by decide +kernel
theorem dX3_init_53 : decode cX3_init 53 = .ok (.invokevirtual 26, 3) := by decide +kernel
theorem dX3_init_56 : decode cX3_init 56 = .ok (.return_, 1) := by decide +kernel
set_option maxRecDepth 20000 in
theorem ggX3_takeModel_X2_shape : GoodIn wsX3_takeModel wsX2_shape := goodIn_r _ [7, 8, 9, 10, 72, 73, 74, 75, 76, 77, 78, 79, 80, 81] (by decide +kernel) (by decide +kernel)
set_option maxRecDepth 20000 in
theorem gX3_takeModel_X2_shape : GoodIn wsX3_takeModel (wsV RX3 29 RX2 yX2_shape wsX2_shape) := goodIn_app (goodIn_of _ (by decide +kernel)) ggX3_takeModel_X2_shape
set_option maxRecDepth 20000 in
theorem ggX3_takeModel_X3_restart : GoodIn wsX3_takeModel wsX3_restart := goodIn_r _ [15, 1, 2, 16, 17, 18, 19, 20, 21, 22, 23, 6, 24, 25, 26, 27, 28, 29, 30, 31, 32, 33, 34, 35, 36, 37, 38, 39, 14, 40, 41, 42, 43, 44, 8, 45, 46, 47, 48, 49, 50, 51, 52, 53, 54, 55, 56, 57, 58, 59, 60, 10, 61, 62, 63, 64, 65, 66, 67, 68, 69, 70, 71, 72, 73, 74, 75, 76, 77, 78, 79, 80, 81] (by decide +kernel) (by decide +kernel)
set_option maxRecDepth 20000 in
theorem gX3_takeModel_X3_restart : GoodIn wsX3_takeModel (wsV RX3 26 RX3 yX3_restart wsX3_restart) := goodIn_app (goodIn_of _ (by decide +kernel)) ggX3_takeModel_X3_restart
theorem dX3_takeModel_0 : decode cX3_takeModel 0 = .ok (.aload_n 0, 1) := by decide +kernel
theorem dX3_takeModel_1 : decode cX3_takeModel 1 = .ok (.getfield 18, 3) := by decide +kernel
theorem dX3_takeModel_4 : decode cX3_takeModel 4 = .ok (.ifCond .lt 41, 3) := by decide +kernel
theorem dX3_takeModel_7 : decode cX3_takeModel 7 = .ok (.aload_n 0, 1) := by decide +kernel
theorem dX3_takeModel_8 : decode cX3_takeModel 8 = .ok (.getfield 18, 3) := by decide +kernel
theorem dX3_takeModel_11 : decode cX3_takeModel 11 = .ok (.bipush 6, 2) := by decide +kernel
theorem dX3_takeModel_13 : decode cX3_takeModel 13 = .ok (.if_icmp .ge 32, 3) := by decide +kernel
theorem dX3_takeModel_16 : decode cX3_takeModel 16 = .ok (.aload_n 0, 1) := by decide +kernel
theorem dX3_takeModel_17 : decode cX3_takeModel 17 = .ok (.getfield 11, 3) := by decide +kernel
theorem dX3_takeModel_20 : decode cX3_takeModel 20 = .ok (.aload_n 0, 1) := by decide +kernel
theorem dX3_takeModel_21 : decode cX3_takeModel 21 = .ok (.getfield 18, 3) := by decide +kernel
theorem dX3_takeModel_24 : decode cX3_takeModel 24 = .ok (.aaload, 1) := by decide +kernel
theorem dX3_takeModel_25 : decode cX3_takeModel 25 = .ok (.iload_n 1, 1) := by decide +kernel
theorem dX3_takeModel_26 : decode cX3_takeModel 26 = .ok (.iload_n 2, 1) := by decide +kernel
theorem dX3_takeModel_27 : decode cX3_takeModel 27 = .ok (.iload_n 3, 1) := by decide +kernel
theorem dX3_takeModel_28 : decode cX3_takeModel 28 = .ok (.invokevirtual 29, 3) := by decide +kernel
theorem dX3_takeModel_31 : decode cX3_takeModel 31 = .ok (.aload_n 0, 1) := by decide +kernel
theorem dX3_takeModel_32 : decode cX3_takeModel 32 = .ok (.dup, 1) := by decide +kernel
theorem dX3_takeModel_33 : decode cX3_takeModel 33 = .ok (.getfield 18, 3) := by decide +kernel
theorem dX3_takeModel_36 : decode cX3_takeModel 36 = .ok (.iconst 1, 1) := by decide +kernel
theorem dX3_takeModel_37 : decode cX3_takeModel 37 = .ok (.iadd, 1) := by decide +kernel
theorem dX3_takeModel_38 : decode cX3_takeModel 38 = .ok (.putfield 18, 3) := by decide +kernel
theorem dX3_takeModel_41 : decode cX3_takeModel 41 = .ok (.aload_n 0, 1) := by decide +kernel
theorem dX3_takeModel_42 : decode cX3_takeModel 42 = .ok (.invokevirtual 26, 3) := by decide +kernel
theorem dX3_takeModel_45 : decode cX3_takeModel 45 = .ok (.return_, 1) := by decide +kernel
set_option maxRecDepth 20000 in
theorem ggX3_dropModel_X3_restart : GoodIn wsX3_dropModel wsX3_restart := goodIn_r _ [6, 1, 7, 8, 9, 10, 11, 12, 13, 14, 15, 16, 17, 18, 19, 20, 21, 22, 23, 24, 25, 26, 27, 28, 29, 30, 31, 32, 5, 33, 34, 35, 36, 37, 38, 39, 40, 41, 42, 43, 44, 45, 46, 47, 48, 49, 50, 51, 52, 53, 54, 55, 56, 57, 58, 59, 60, 61, 62, 63, 64, 65, 66, 67, 68, 69, 70, 71, 72, 73, 74, 75, 76] (by decide +kernel) (by decide +kernel)
set_option maxRecDepth 20000 in
theorem gX3_dropModel_X3_restart : GoodIn wsX3_dropModel (wsV RX3 26 RX3 yX3_restart wsX3_restart) := goodIn_app (goodIn_of _ (by decide +kernel)) ggX3_dropModel_X3_restart
theorem dX3_dropModel_0 : decode cX3_dropModel 0 = .ok (.aload_n 0, 1) := by decide +kernel
theorem dX3_dropModel_1 : decode cX3_dropModel 1 = .ok (.getfield 18, 3) := by decide +kernel
theorem dX3_dropModel_4 : decode cX3_dropModel 4 = .ok (.ifCond .le 17, 3) := by decide +kernel
theorem dX3_dropModel_7 : decode cX3_dropModel 7 = .ok (.aload_n 0, 1) := by decide +kernel
theorem dX3_dropModel_8 : decode cX3_dropModel 8 = .ok (.dup, 1) := by decide +kernel
theorem dX3_dropModel_9 : decode cX3_dropModel 9 = .ok (.getfield 18, 3) := by decide +kernel
theorem dX3_dropModel_12 : decode cX3_dropModel 12 = .ok (.iconst 1, 1) := by decide +kernel
theorem dX3_dropModel_13 : decode cX3_dropModel 13 = .ok (.isub, 1) := by decide +kernel
theorem dX3_dropModel_14 : decode cX3_dropModel 14 = .ok (.putfield 18, 3) := by decide +kernel
theorem dX3_dropModel_17 : decode cX3_dropModel 17 = .ok (.aload_n 0, 1) := by decide +kernel
theorem dX3_dropModel_18 : decode cX3_dropModel 18 = .ok (.invokevirtual 26, 3) := by decide +kernel
theorem dX3_dropModel_21 : decode cX3_dropModel 21 = .ok (.return_, 1) := by decide +kernel
set_option maxRecDepth 20000 in
theorem ggX3_restart_X2_forget : GoodIn wsX3_restart wsX2_forget := goodIn_r _ [12, 13, 14, 15, 16, 17, 18, 19, 20, 21, 22, 23, 63, 64, 65, 66, 67, 68, 69, 70, 71, 72] (by decide +kernel) (by decide +kernel)
set_option maxRecDepth 20000 in
theorem gX3_restart_X2_forget : GoodIn wsX3_restart (wsV RX3 33 RX2 yX2_forget wsX2_forget) := goodIn_app (goodIn_of _ (by decide +kernel)) ggX3_restart_X2_forget
set_option maxRecDepth 20000 in
theorem ggX3_restart_J7_fill_53178 : GoodIn wsX3_restart wsJ7_fill_53178 := goodIn_r _ [20] (by decide +kernel) (by decide +kernel)
set_option maxRecDepth 20000 in
theorem gX3_restart_J7_fill_53178 : GoodIn wsX3_restart (va_wsS RX3 36 yJ7_fill_53178 wsJ7_fill_53178) := goodIn_app (goodIn_of _ (by decide +kernel)) ggX3_restart_J7_fill_53178
set_option maxRecDepth 20000 in
theorem ggX3_restart_X3_readContexts : GoodIn wsX3_restart wsX3_readContexts := goodIn_r _ [29, 1, 2, 3, 30, 31, 32, 11, 33, 34, 35, 56, 57, 58, 59, 60, 61, 62, 63, 64, 65, 66, 67, 68, 69, 70, 71, 72] (by decide +kernel) (by decide +kernel)
set_option maxRecDepth 20000 in
theorem gX3_restart_X3_readContexts : GoodIn wsX3_restart (wsV RX3 55 RX3 yX3_readContexts wsX3_readContexts) := goodIn_app (goodIn_of _ (by decide +kernel)) ggX3_restart_X3_readContexts
set_option maxRecDepth 20000 in
theorem ggX3_restart_X3_aimModels : GoodIn wsX3_restart wsX3_aimModels := goodIn_r _ [39, 1, 2, 4, 40, 41, 42, 11, 43, 44, 35, 45, 46, 47, 48, 49, 50, 51, 52, 53, 54, 55, 56, 57, 58, 59, 60, 61, 62, 63, 64, 65, 66, 67, 68, 69, 70, 71, 72] (by decide +kernel) (by decide +kernel)
set_option maxRecDepth 20000 in
theorem gX3_restart_X3_aimModels : GoodIn wsX3_restart (wsV RX3 58 RX3 yX3_aimModels wsX3_aimModels) := goodIn_app (goodIn_of _ (by decide +kernel)) ggX3_restart_X3_aimModels
theorem dX3_restart_0 : decode cX3_restart 0 = .ok (.iconst 0, 1) := by decide +kernel
theorem dX3_restart_1 : decode cX3_restart 1 = .ok (.istore_n 1, 1) := by decide +kernel
theorem dX3_restart_2 : decode cX3_restart 2 = .ok (.iload_n 1, 1) := by decide +kernel
theorem dX3_restart_3 : decode cX3_restart 3 = .ok (.aload_n 0, 1) := by decide +kernel
theorem dX3_restart_4 : decode cX3_restart 4 = .ok (.getfield 18, 3) := by decide +kernel
theorem dX3_restart_7 : decode cX3_restart 7 = .ok (.if_icmp .ge 18, 3) := by decide +kernel
theorem dX3_restart_10 : decode cX3_restart 10 = .ok (.aload_n 0, 1) := by decide +kernel
theorem dX3_restart_11 : decode cX3_restart 11 = .ok (.getfield 11, 3) := by decide +kernel
theorem dX3_restart_14 : decode cX3_restart 14 = .ok (.iload_n 1, 1) := by decide +kernel
theorem dX3_restart_15 : decode cX3_restart 15 = .ok (.aaload, 1) := by decide +kernel
theorem dX3_restart_16 : decode cX3_restart 16 = .ok (.invokevirtual 33, 3) := by decide +kernel
theorem dX3_restart_19 : decode cX3_restart 19 = .ok (.iinc 1 1, 3) := by decide +kernel
theorem dX3_restart_22 : decode cX3_restart 22 = .ok (.goto (-20), 3) := by decide +kernel
theorem dX3_restart_25 : decode cX3_restart 25 = .ok (.aload_n 0, 1) := by decide +kernel
theorem dX3_restart_26 : decode cX3_restart 26 = .ok (.getfield 22, 3) := by decide +kernel
theorem dX3_restart_29 : decode cX3_restart 29 = .ok (.iconst 0, 1) := by decide +kernel
theorem dX3_restart_30 : decode cX3_restart 30 = .ok (.invokestatic 36, 3) := by decide +kernel
theorem dX3_restart_33 : decode cX3_restart 33 = .ok (.aload_n 0, 1) := by decide +kernel
theorem dX3_restart_34 : decode cX3_restart 34 = .ok (.iconst 1, 1) := by decide +kernel
theorem dX3_restart_35 : decode cX3_restart 35 = .ok (.putfield 42, 3) := by decide +kernel
theorem dX3_restart_38 : decode cX3_restart 38 = .ok (.aload_n 0, 1) := by decide +kernel
theorem dX3_restart_39 : decode cX3_restart 39 = .ok (.iconst 0, 1) := by decide +kernel
theorem dX3_restart_40 : decode cX3_restart 40 = .ok (.putfield 45, 3) := by decide +kernel
theorem dX3_restart_43 : decode cX3_restart 43 = .ok (.aload_n 0, 1) := by decide +kernel
theorem dX3_restart_44 : decode cX3_restart 44 = .ok (.iconst 0, 1) := by decide +kernel
theorem dX3_restart_45 : decode cX3_restart 45 = .ok (.putfield 48, 3) := by decide +kernel
theorem dX3_restart_48 : decode cX3_restart 48 = .ok (.aload_n 0, 1) := by decide +kernel
theorem dX3_restart_49 : decode cX3_restart 49 = .ok (.lconst 0, 1) := by decide +kernel
theorem dX3_restart_50 : decode cX3_restart 50 = .ok (.putfield 51, 3) := by decide +kernel
theorem dX3_restart_53 : decode cX3_restart 53 = .ok (.aload_n 0, 1) := by decide +kernel
theorem dX3_restart_54 : decode cX3_restart 54 = .ok (.invokevirtual 55, 3) := by decide +kernel
theorem dX3_restart_57 : decode cX3_restart 57 = .ok (.aload_n 0, 1) := by decide +kernel
theorem dX3_restart_58 : decode cX3_restart 58 = .ok (.invokevirtual 58, 3) := by decide +kernel
theorem dX3_restart_61 : decode cX3_restart 61 = .ok (.return_, 1) := by decide +kernel
set_option maxRecDepth 20000 in
theorem ggX3_readContexts_X2_readContext : GoodIn wsX3_readContexts wsX2_readContext := goodIn_r _ [8, 9, 10, 18, 19, 20, 21, 22, 23, 24, 25, 26, 27] (by decide +kernel) (by decide +kernel)
set_option maxRecDepth 20000 in
theorem gX3_readContexts_X2_readContext : GoodIn wsX3_readContexts (wsV RX3 61 RX2 yX2_readContext wsX2_readContext) := goodIn_app (goodIn_of _ (by decide +kernel)) ggX3_readContexts_X2_readContext
theorem dX3_readContexts_0 : decode cX3_readContexts 0 = .ok (.iconst 0, 1) := by decide +kernel
theorem dX3_readContexts_1 : decode cX3_readContexts 1 = .ok (.istore_n 1, 1) := by decide +kernel
theorem dX3_readContexts_2 : decode cX3_readContexts 2 = .ok (.iload_n 1, 1) := by decide +kernel
theorem dX3_readContexts_3 : decode cX3_readContexts 3 = .ok (.aload_n 0, 1) := by decide +kernel
theorem dX3_readContexts_4 : decode cX3_readContexts 4 = .ok (.getfield 18, 3) := by decide +kernel
theorem dX3_readContexts_7 : decode cX3_readContexts 7 = .ok (.if_icmp .ge 22, 3) := by decide +kernel
theorem dX3_readContexts_10 : decode cX3_readContexts 10 = .ok (.aload_n 0, 1) := by decide +kernel
theorem dX3_readContexts_11 : decode cX3_readContexts 11 = .ok (.getfield 11, 3) := by decide +kernel
theorem dX3_readContexts_14 : decode cX3_readContexts 14 = .ok (.iload_n 1, 1) := by decide +kernel
theorem dX3_readContexts_15 : decode cX3_readContexts 15 = .ok (.aaload, 1) := by decide +kernel
theorem dX3_readContexts_16 : decode cX3_readContexts 16 = .ok (.aload_n 0, 1) := by decide +kernel
theorem dX3_readContexts_17 : decode cX3_readContexts 17 = .ok (.getfield 22, 3) := by decide +kernel
theorem dX3_readContexts_20 : decode cX3_readContexts 20 = .ok (.invokevirtual 61, 3) := by decide +kernel
theorem dX3_readContexts_23 : decode cX3_readContexts 23 = .ok (.iinc 1 1, 3) := by decide +kernel
theorem dX3_readContexts_26 : decode cX3_readContexts 26 = .ok (.goto (-24), 3) := by decide +kernel
theorem dX3_readContexts_29 : decode cX3_readContexts 29 = .ok (.return_, 1) := by decide +kernel
set_option maxRecDepth 20000 in
theorem ggX3_aimModels_X2_aim : GoodIn wsX3_aimModels wsX2_aim := goodIn_r _ [8, 9, 10, 11, 12, 13, 14, 15, 7, 16, 17, 18, 19, 20, 21, 29, 30, 31, 32, 33, 34, 35, 36, 37, 38] (by decide +kernel) (by decide +kernel)
set_option maxRecDepth 20000 in
theorem gX3_aimModels_X2_aim : GoodIn wsX3_aimModels (wsV RX3 65 RX2 yX2_aim wsX2_aim) := goodIn_app (goodIn_of _ (by decide +kernel)) ggX3_aimModels_X2_aim
theorem dX3_aimModels_0 : decode cX3_aimModels 0 = .ok (.iconst 0, 1) := by decide +kernel
theorem dX3_aimModels_1 : decode cX3_aimModels 1 = .ok (.istore_n 1, 1) := by decide +kernel
theorem dX3_aimModels_2 : decode cX3_aimModels 2 = .ok (.iload_n 1, 1) := by decide +kernel
theorem dX3_aimModels_3 : decode cX3_aimModels 3 = .ok (.aload_n 0, 1) := by decide +kernel
theorem dX3_aimModels_4 : decode cX3_aimModels 4 = .ok (.getfield 18, 3) := by decide +kernel
theorem dX3_aimModels_7 : decode cX3_aimModels 7 = .ok (.if_icmp .ge 22, 3) := by decide +kernel
theorem dX3_aimModels_10 : decode cX3_aimModels 10 = .ok (.aload_n 0, 1) := by decide +kernel
theorem dX3_aimModels_11 : decode cX3_aimModels 11 = .ok (.getfield 11, 3) := by decide +kernel
theorem dX3_aimModels_14 : decode cX3_aimModels 14 = .ok (.iload_n 1, 1) := by decide +kernel
theorem dX3_aimModels_15 : decode cX3_aimModels 15 = .ok (.aaload, 1) := by decide +kernel
theorem dX3_aimModels_16 : decode cX3_aimModels 16 = .ok (.aload_n 0, 1) := by decide +kernel
theorem dX3_aimModels_17 : decode cX3_aimModels 17 = .ok (.getfield 42, 3) := by decide +kernel
theorem dX3_aimModels_20 : decode cX3_aimModels 20 = .ok (.invokevirtual 65, 3) := by decide +kernel
theorem dX3_aimModels_23 : decode cX3_aimModels 23 = .ok (.iinc 1 1, 3) := by decide +kernel
theorem dX3_aimModels_26 : decode cX3_aimModels 26 = .ok (.goto (-24), 3) := by decide +kernel
theorem dX3_aimModels_29 : decode cX3_aimModels 29 = .ok (.return_, 1) := by decide +kernel
set_option maxRecDepth 20000 in
theorem ggX3_mixture_X2_guess : GoodIn wsX3_mixture wsX2_guess := goodIn_r _ [16, 17, 18, 26, 27, 28, 29, 30, 31, 32, 33, 34, 35] (by decide +kernel) (by decide +kernel)
set_option maxRecDepth 20000 in
theorem gX3_mixture_X2_guess : GoodIn wsX3_mixture (wsV RX3 72 RX2 yX2_guess wsX2_guess) := goodIn_app (goodIn_of _ (by decide +kernel)) ggX3_mixture_X2_guess
theorem dX3_mixture_0 : decode cX3_mixture 0 = .ok (.iconst 0, 1) := by decide +kernel
theorem dX3_mixture_1 : decode cX3_mixture 1 = .ok (.istore_n 1, 1) := by decide +kernel
theorem dX3_mixture_2 : decode cX3_mixture 2 = .ok (.iconst 0, 1) := by decide +kernel
theorem dX3_mixture_3 : decode cX3_mixture 3 = .ok (.istore_n 2, 1) := by decide +kernel
theorem dX3_mixture_4 : decode cX3_mixture 4 = .ok (.iconst 0, 1) := by decide +kernel
theorem dX3_mixture_5 : decode cX3_mixture 5 = .ok (.istore_n 3, 1) := by decide +kernel
theorem dX3_mixture_6 : decode cX3_mixture 6 = .ok (.iload_n 3, 1) := by decide +kernel
theorem dX3_mixture_7 : decode cX3_mixture 7 = .ok (.aload_n 0, 1) := by decide +kernel
theorem dX3_mixture_8 : decode cX3_mixture 8 = .ok (.getfield 18, 3) := by decide +kernel
theorem dX3_mixture_11 : decode cX3_mixture 11 = .ok (.if_icmp .ge 45, 3) := by decide +kernel
theorem dX3_mixture_14 : decode cX3_mixture 14 = .ok (.aload_n 0, 1) := by decide +kernel
theorem dX3_mixture_15 : decode cX3_mixture 15 = .ok (.getfield 11, 3) := by decide +kernel
theorem dX3_mixture_18 : decode cX3_mixture 18 = .ok (.iload_n 3, 1) := by decide +kernel
theorem dX3_mixture_19 : decode cX3_mixture 19 = .ok (.aaload, 1) := by decide +kernel
theorem dX3_mixture_20 : decode cX3_mixture 20 = .ok (.getfield 69, 3) := by decide +kernel
theorem dX3_mixture_23 : decode cX3_mixture 23 = .ok (.aload_n 0, 1) := by decide +kernel
theorem dX3_mixture_24 : decode cX3_mixture 24 = .ok (.getfield 45, 3) := by decide +kernel
theorem dX3_mixture_27 : decode cX3_mixture 27 = .ok (.iaload, 1) := by decide +kernel
theorem dX3_mixture_28 : decode cX3_mixture 28 = .ok (.istore 4, 2) := by decide +kernel
theorem dX3_mixture_30 : decode cX3_mixture 30 = .ok (.iload_n 1, 1) := by decide +kernel
theorem dX3_mixture_31 : decode cX3_mixture 31 = .ok (.iload 4, 2) := by decide +kernel
theorem dX3_mixture_33 : decode cX3_mixture 33 = .ok (.aload_n 0, 1) := by decide +kernel
theorem dX3_mixture_34 : decode cX3_mixture 34 = .ok (.getfield 11, 3) := by decide +kernel
theorem dX3_mixture_37 : decode cX3_mixture 37 = .ok (.iload_n 3, 1) := by decide +kernel
theorem dX3_mixture_38 : decode cX3_mixture 38 = .ok (.aaload, 1) := by decide +kernel
theorem dX3_mixture_39 : decode cX3_mixture 39 = .ok (.invokevirtual 72, 3) := by decide +kernel
theorem dX3_mixture_42 : decode cX3_mixture 42 = .ok (.imul, 1) := by decide +kernel
theorem dX3_mixture_43 : decode cX3_mixture 43 = .ok (.iadd, 1) := by decide +kernel
theorem dX3_mixture_44 : decode cX3_mixture 44 = .ok (.istore_n 1, 1) := by decide +kernel
theorem dX3_mixture_45 : decode cX3_mixture 45 = .ok (.iload_n 2, 1) := by decide +kernel
theorem dX3_mixture_46 : decode cX3_mixture 46 = .ok (.iload 4, 2) := by decide +kernel
theorem dX3_mixture_48 : decode cX3_mixture 48 = .ok (.iadd, 1) := by decide +kernel
theorem dX3_mixture_49 : decode cX3_mixture 49 = .ok (.istore_n 2, 1) := by decide +kernel
theorem dX3_mixture_50 : decode cX3_mixture 50 = .ok (.iinc 3 1, 3) := by decide +kernel
theorem dX3_mixture_53 : decode cX3_mixture 53 = .ok (.goto (-47), 3) := by decide +kernel
theorem dX3_mixture_56 : decode cX3_mixture 56 = .ok (.iload_n 2, 1) := by decide +kernel
theorem dX3_mixture_57 : decode cX3_mixture 57 = .ok (.ifCond .gt 7, 3) := by decide +kernel
theorem dX3_mixture_60 : decode cX3_mixture 60 = .ok (.sipush 2048, 3) := by decide +kernel
theorem dX3_mixture_63 : decode cX3_mixture 63 = .ok (.ireturn, 1) := by decide +kernel
theorem dX3_mixture_64 : decode cX3_mixture 64 = .ok (.iconst 1, 1) := by decide +kernel
theorem dX3_mixture_65 : decode cX3_mixture 65 = .ok (.iload_n 1, 1) := by decide +kernel
theorem dX3_mixture_66 : decode cX3_mixture 66 = .ok (.iload_n 2, 1) := by decide +kernel
theorem dX3_mixture_67 : decode cX3_mixture 67 = .ok (.idiv, 1) := by decide +kernel
theorem dX3_mixture_68 : decode cX3_mixture 68 = .ok (.sipush 4095, 3) := by decide +kernel
theorem dX3_mixture_71 : decode cX3_mixture 71 = .ok (.invokestatic 76, 3) := by decide +kernel
theorem dX3_mixture_74 : decode cX3_mixture 74 = .ok (.invokestatic 82, 3) := by decide +kernel
theorem dX3_mixture_77 : decode cX3_mixture 77 = .ok (.ireturn, 1) := by decide +kernel
set_option maxRecDepth 20000 in
theorem ggX3_learn_X4_quality : GoodIn wsX3_learn wsX4_quality := goodIn_r _ [8] (by decide +kernel) (by decide +kernel)
set_option maxRecDepth 20000 in
theorem gX3_learn_X4_quality_n85 : GoodIn wsX3_learn (wsX4_quality) := ggX3_learn_X4_quality
set_option maxRecDepth 20000 in
theorem ggX3_learn_X2_adjustWeight : GoodIn wsX3_learn wsX2_adjustWeight := goodIn_r _ [13, 14, 15, 16, 17, 18, 19, 20, 21, 22, 23, 24, 25, 12, 26, 27, 28, 6, 7, 8, 75, 76, 77, 78, 79, 80, 81, 82, 83, 84] (by decide +kernel) (by decide +kernel)
set_option maxRecDepth 20000 in
theorem gX3_learn_X2_adjustWeight : GoodIn wsX3_learn (wsV RX3 89 RX2 yX2_adjustWeight wsX2_adjustWeight) := goodIn_app (goodIn_of _ (by decide +kernel)) ggX3_learn_X2_adjustWeight
set_option maxRecDepth 20000 in
theorem ggX3_learn_X2_adjustCounter : GoodIn wsX3_learn wsX2_adjustCounter := goodIn_r _ [32, 27, 28, 33, 34, 35, 36, 75, 76, 77, 78, 79, 80, 81, 82, 83, 84] (by decide +kernel) (by decide +kernel)
set_option maxRecDepth 20000 in
theorem gX3_learn_X2_adjustCounter : GoodIn wsX3_learn (wsV RX3 93 RX2 yX2_adjustCounter wsX2_adjustCounter) := goodIn_app (goodIn_of _ (by decide +kernel)) ggX3_learn_X2_adjustCounter
set_option maxRecDepth 20000 in
theorem ggX3_learn_X3_step : GoodIn wsX3_learn wsX3_step := goodIn_r _ [41, 42, 4, 43, 44, 45, 46, 40, 47, 2, 3, 48, 49, 50, 12, 51, 52, 53, 68, 69, 70, 71, 72, 73, 74, 75, 76, 77, 78, 79, 80, 81, 82, 83, 84] (by decide +kernel) (by decide +kernel)
set_option maxRecDepth 20000 in
theorem gX3_learn_X3_step : GoodIn wsX3_learn (wsV RX3 97 RX3 yX3_step wsX3_step) := goodIn_app (goodIn_of _ (by decide +kernel)) ggX3_learn_X3_step
set_option maxRecDepth 20000 in
theorem ggX3_learn_X3_aimModels : GoodIn wsX3_learn wsX3_aimModels := goodIn_r _ [57, 2, 3, 42, 58, 59, 60, 12, 61, 62, 53, 35, 28, 63, 64, 65, 66, 67, 16, 17, 18, 19, 68, 69, 70, 71, 72, 73, 74, 75, 76, 77, 78, 79, 80, 81, 82, 83, 84] (by decide +kernel) (by decide +kernel)
set_option maxRecDepth 20000 in
theorem gX3_learn_X3_aimModels : GoodIn wsX3_learn (wsV RX3 58 RX3 yX3_aimModels wsX3_aimModels) := goodIn_app (goodIn_of _ (by decide +kernel)) ggX3_learn_X3_aimModels
theorem dX3_learn_0 : decode cX3_learn 0 = .ok (.iload_n 2, 1) := by decide +kernel
theorem dX3_learn_1 : decode cX3_learn 1 = .ok (.iload_n 1, 1) := by decide +kernel
theorem dX3_learn_2 : decode cX3_learn 2 = .ok (.invokestatic 85, 3) := by decide +kernel
theorem dX3_learn_5 : decode cX3_learn 5 = .ok (.istore_n 3, 1) := by decide +kernel
theorem dX3_learn_6 : decode cX3_learn 6 = .ok (.aload_n 0, 1) := by decide +kernel
theorem dX3_learn_7 : decode cX3_learn 7 = .ok (.dup, 1) := by decide +kernel
theorem dX3_learn_8 : decode cX3_learn 8 = .ok (.getfield 51, 3) := by decide +kernel
theorem dX3_learn_11 : decode cX3_learn 11 = .ok (.sipush 4096, 3) := by decide +kernel
theorem dX3_learn_14 : decode cX3_learn 14 = .ok (.iload_n 3, 1) := by decide +kernel
theorem dX3_learn_15 : decode cX3_learn 15 = .ok (.isub, 1) := by decide +kernel
theorem dX3_learn_16 : decode cX3_learn 16 = .ok (.i2l, 1) := by decide +kernel
theorem dX3_learn_17 : decode cX3_learn 17 = .ok (.ladd, 1) := by decide +kernel
theorem dX3_learn_18 : decode cX3_learn 18 = .ok (.putfield 51, 3) := by decide +kernel
theorem dX3_learn_21 : decode cX3_learn 21 = .ok (.iconst 0, 1) := by decide +kernel
theorem dX3_learn_22 : decode cX3_learn 22 = .ok (.istore 4, 2) := by decide +kernel
theorem dX3_learn_24 : decode cX3_learn 24 = .ok (.iload 4, 2) := by decide +kernel
theorem dX3_learn_26 : decode cX3_learn 26 = .ok (.aload_n 0, 1) := by decide +kernel
theorem dX3_learn_27 : decode cX3_learn 27 = .ok (.getfield 18, 3) := by decide +kernel
theorem dX3_learn_30 : decode cX3_learn 30 = .ok (.if_icmp .ge 36, 3) := by decide +kernel
theorem dX3_learn_33 : decode cX3_learn 33 = .ok (.aload_n 0, 1) := by decide +kernel
theorem dX3_learn_34 : decode cX3_learn 34 = .ok (.getfield 11, 3) := by decide +kernel
theorem dX3_learn_37 : decode cX3_learn 37 = .ok (.iload 4, 2) := by decide +kernel
theorem dX3_learn_39 : decode cX3_learn 39 = .ok (.aaload, 1) := by decide +kernel
theorem dX3_learn_40 : decode cX3_learn 40 = .ok (.aload_n 0, 1) := by decide +kernel
theorem dX3_learn_41 : decode cX3_learn 41 = .ok (.getfield 45, 3) := by decide +kernel
theorem dX3_learn_44 : decode cX3_learn 44 = .ok (.iload_n 1, 1) := by decide +kernel
theorem dX3_learn_45 : decode cX3_learn 45 = .ok (.iload_n 3, 1) := by decide +kernel
theorem dX3_learn_46 : decode cX3_learn 46 = .ok (.invokevirtual 89, 3) := by decide +kernel
theorem dX3_learn_49 : decode cX3_learn 49 = .ok (.aload_n 0, 1) := by decide +kernel
theorem dX3_learn_50 : decode cX3_learn 50 = .ok (.getfield 11, 3) := by decide +kernel
theorem dX3_learn_53 : decode cX3_learn 53 = .ok (.iload 4, 2) := by decide +kernel
theorem dX3_learn_55 : decode cX3_learn 55 = .ok (.aaload, 1) := by decide +kernel
theorem dX3_learn_56 : decode cX3_learn 56 = .ok (.iload_n 1, 1) := by decide +kernel
theorem dX3_learn_57 : decode cX3_learn 57 = .ok (.invokevirtual 93, 3) := by decide +kernel
theorem dX3_learn_60 : decode cX3_learn 60 = .ok (.iinc 4 1, 3) := by decide +kernel
theorem dX3_learn_63 : decode cX3_learn 63 = .ok (.goto (-39), 3) := by decide +kernel
theorem dX3_learn_66 : decode cX3_learn 66 = .ok (.aload_n 0, 1) := by decide +kernel
theorem dX3_learn_67 : decode cX3_learn 67 = .ok (.dup, 1) := by decide +kernel
theorem dX3_learn_68 : decode cX3_learn 68 = .ok (.getfield 48, 3) := by decide +kernel
theorem dX3_learn_71 : decode cX3_learn 71 = .ok (.iconst 1, 1) := by decide +kernel
theorem dX3_learn_72 : decode cX3_learn 72 = .ok (.iadd, 1) := by decide +kernel
theorem dX3_learn_73 : decode cX3_learn 73 = .ok (.putfield 48, 3) := by decide +kernel
theorem dX3_learn_76 : decode cX3_learn 76 = .ok (.aload_n 0, 1) := by decide +kernel
theorem dX3_learn_77 : decode cX3_learn 77 = .ok (.iload_n 1, 1) := by decide +kernel
theorem dX3_learn_78 : decode cX3_learn 78 = .ok (.invokevirtual 97, 3) := by decide +kernel
theorem dX3_learn_81 : decode cX3_learn 81 = .ok (.aload_n 0, 1) := by decide +kernel
theorem dX3_learn_82 : decode cX3_learn 82 = .ok (.invokevirtual 58, 3) := by decide +kernel
theorem dX3_learn_85 : decode cX3_learn 85 = .ok (.return_, 1) := by decide +kernel
set_option maxRecDepth 20000 in
theorem ggX3_step_X3_readContexts : GoodIn wsX3_step wsX3_readContexts := goodIn_r _ [8, 9, 10, 3, 11, 12, 13, 14, 15, 16, 17, 18, 19, 20, 21, 22, 23, 24, 25, 26, 27, 28, 29, 30, 31, 32, 33, 34] (by decide +kernel) (by decide +kernel)
set_option maxRecDepth 20000 in
theorem gX3_step_X3_readContexts : GoodIn wsX3_step (wsV RX3 55 RX3 yX3_readContexts wsX3_readContexts) := goodIn_app (goodIn_of _ (by decide +kernel)) ggX3_step_X3_readContexts
theorem dX3_step_0 : decode cX3_step 0 = .ok (.aload_n 0, 1) := by decide +kernel
theorem dX3_step_1 : decode cX3_step 1 = .ok (.iconst 2, 1) := by decide +kernel
theorem dX3_step_2 : decode cX3_step 2 = .ok (.aload_n 0, 1) := by decide +kernel
theorem dX3_step_3 : decode cX3_step 3 = .ok (.getfield 42, 3) := by decide +kernel
theorem dX3_step_6 : decode cX3_step 6 = .ok (.imul, 1) := by decide +kernel
theorem dX3_step_7 : decode cX3_step 7 = .ok (.iload_n 1, 1) := by decide +kernel
theorem dX3_step_8 : decode cX3_step 8 = .ok (.ifCond .eq 7, 3) := by decide +kernel
theorem dX3_step_11 : decode cX3_step 11 = .ok (.iconst 1, 1) := by decide +kernel
theorem dX3_step_12 : decode cX3_step 12 = .ok (.goto 4, 3) := by decide +kernel
theorem dX3_step_15 : decode cX3_step 15 = .ok (.iconst 0, 1) := by decide +kernel
theorem dX3_step_16 : decode cX3_step 16 = .ok (.iadd, 1) := by decide +kernel
theorem dX3_step_17 : decode cX3_step 17 = .ok (.putfield 42, 3) := by decide +kernel
theorem dX3_step_20 : decode cX3_step 20 = .ok (.aload_n 0, 1) := by decide +kernel
theorem dX3_step_21 : decode cX3_step 21 = .ok (.aload_n 0, 1) := by decide +kernel
theorem dX3_step_22 : decode cX3_step 22 = .ok (.getfield 45, 3) := by decide +kernel
theorem dX3_step_25 : decode cX3_step 25 = .ok (.iconst 1, 1) := by decide +kernel
theorem dX3_step_26 : decode cX3_step 26 = .ok (.iadd, 1) := by decide +kernel
theorem dX3_step_27 : decode cX3_step 27 = .ok (.bipush 8, 2) := by decide +kernel
theorem dX3_step_29 : decode cX3_step 29 = .ok (.irem, 1) := by decide +kernel
theorem dX3_step_30 : decode cX3_step 30 = .ok (.putfield 45, 3) := by decide +kernel
theorem dX3_step_33 : decode cX3_step 33 = .ok (.aload_n 0, 1) := by decide +kernel
theorem dX3_step_34 : decode cX3_step 34 = .ok (.getfield 42, 3) := by decide +kernel
theorem dX3_step_37 : decode cX3_step 37 = .ok (.sipush 256, 3) := by decide +kernel
theorem dX3_step_40 : decode cX3_step 40 = .ok (.if_icmp .lt 52, 3) := by decide +kernel
theorem dX3_step_43 : decode cX3_step 43 = .ok (.iconst 2, 1) := by decide +kernel
theorem dX3_step_44 : decode cX3_step 44 = .ok (.istore_n 2, 1) := by decide +kernel
theorem dX3_step_45 : decode cX3_step 45 = .ok (.iload_n 2, 1) := by decide +kernel
theorem dX3_step_46 : decode cX3_step 46 = .ok (.ifCond .le 23, 3) := by decide +kernel
theorem dX3_step_49 : decode cX3_step 49 = .ok (.aload_n 0, 1) := by decide +kernel
theorem dX3_step_50 : decode cX3_step 50 = .ok (.getfield 22, 3) := by decide +kernel
theorem dX3_step_53 : decode cX3_step 53 = .ok (.iload_n 2, 1) := by decide +kernel
theorem dX3_step_54 : decode cX3_step 54 = .ok (.aload_n 0, 1) := by decide +kernel
theorem dX3_step_55 : decode cX3_step 55 = .ok (.getfield 22, 3) := by decide +kernel
theorem dX3_step_58 : decode cX3_step 58 = .ok (.iload_n 2, 1) := by decide +kernel
theorem dX3_step_59 : decode cX3_step 59 = .ok (.iconst 1, 1) := by decide +kernel
theorem dX3_step_60 : decode cX3_step 60 = .ok (.isub, 1) := by decide +kernel
theorem dX3_step_61 : decode cX3_step 61 = .ok (.iaload, 1) := by decide +kernel
theorem dX3_step_62 : decode cX3_step 62 = .ok (.iastore, 1) := by decide +kernel
theorem dX3_step_63 : decode cX3_step 63 = .ok (.iinc 2 (-1), 3) := by decide +kernel
theorem dX3_step_66 : decode cX3_step 66 = .ok (.goto (-21), 3) := by decide +kernel
theorem dX3_step_69 : decode cX3_step 69 = .ok (.aload_n 0, 1) := by decide +kernel
theorem dX3_step_70 : decode cX3_step 70 = .ok (.getfield 22, 3) := by decide +kernel
theorem dX3_step_73 : decode cX3_step 73 = .ok (.iconst 0, 1) := by decide +kernel
theorem dX3_step_74 : decode cX3_step 74 = .ok (.aload_n 0, 1) := by decide +kernel
theorem dX3_step_75 : decode cX3_step 75 = .ok (.getfield 42, 3) := by decide +kernel
theorem dX3_step_78 : decode cX3_step 78 = .ok (.sipush 256, 3) := by decide +kernel
theorem dX3_step_81 : decode cX3_step 81 = .ok (.isub, 1) := by decide +kernel
theorem dX3_step_82 : decode cX3_step 82 = .ok (.iastore, 1) := by decide +kernel
theorem dX3_step_83 : decode cX3_step 83 = .ok (.aload_n 0, 1) := by decide +kernel
theorem dX3_step_84 : decode cX3_step 84 = .ok (.iconst 1, 1) := by decide +kernel
theorem dX3_step_85 : decode cX3_step 85 = .ok (.putfield 42, 3) := by decide +kernel
theorem dX3_step_88 : decode cX3_step 88 = .ok (.aload_n 0, 1) := by decide +kernel
theorem dX3_step_89 : decode cX3_step 89 = .ok (.invokevirtual 55, 3) := by decide +kernel
theorem dX3_step_92 : decode cX3_step 92 = .ok (.return_, 1) := by decide +kernel
theorem dX3_heaviest_0 : decode cX3_heaviest 0 = .ok (.iconst (-1), 1) := by decide +kernel
theorem dX3_heaviest_1 : decode cX3_heaviest 1 = .ok (.istore_n 1, 1) := by decide +kernel
theorem dX3_heaviest_2 : decode cX3_heaviest 2 = .ok (.iconst 0, 1) := by decide +kernel
theorem dX3_heaviest_3 : decode cX3_heaviest 3 = .ok (.istore_n 2, 1) := by decide +kernel
theorem dX3_heaviest_4 : decode cX3_heaviest 4 = .ok (.iconst 0, 1) := by decide +kernel
theorem dX3_heaviest_5 : decode cX3_heaviest 5 = .ok (.istore_n 3, 1) := by decide +kernel
theorem dX3_heaviest_6 : decode cX3_heaviest 6 = .ok (.iload_n 3, 1) := by decide +kernel
theorem dX3_heaviest_7 : decode cX3_heaviest 7 = .ok (.aload_n 0, 1) := by decide +kernel
theorem dX3_heaviest_8 : decode cX3_heaviest 8 = .ok (.getfield 18, 3) := by decide +kernel
theorem dX3_heaviest_11 : decode cX3_heaviest 11 = .ok (.if_icmp .ge 44, 3) := by decide +kernel
theorem dX3_heaviest_14 : decode cX3_heaviest 14 = .ok (.aload_n 0, 1) := by decide +kernel
theorem dX3_heaviest_15 : decode cX3_heaviest 15 = .ok (.getfield 11, 3) := by decide +kernel
theorem dX3_heaviest_18 : decode cX3_heaviest 18 = .ok (.iload_n 3, 1) := by decide +kernel
theorem dX3_heaviest_19 : decode cX3_heaviest 19 = .ok (.aaload, 1) := by decide +kernel
theorem dX3_heaviest_20 : decode cX3_heaviest 20 = .ok (.getfield 69, 3) := by decide +kernel
theorem dX3_heaviest_23 : decode cX3_heaviest 23 = .ok (.aload_n 0, 1) := by decide +kernel
theorem dX3_heaviest_24 : decode cX3_heaviest 24 = .ok (.getfield 45, 3) := by decide +kernel
theorem dX3_heaviest_27 : decode cX3_heaviest 27 = .ok (.iaload, 1) := by decide +kernel
theorem dX3_heaviest_28 : decode cX3_heaviest 28 = .ok (.iload_n 2, 1) := by decide +kernel
theorem dX3_heaviest_29 : decode cX3_heaviest 29 = .ok (.if_icmp .le 20, 3) := by decide +kernel
theorem dX3_heaviest_32 : decode cX3_heaviest 32 = .ok (.iload_n 3, 1) := by decide +kernel
theorem dX3_heaviest_33 : decode cX3_heaviest 33 = .ok (.istore_n 1, 1) := by decide +kernel
theorem dX3_heaviest_34 : decode cX3_heaviest 34 = .ok (.aload_n 0, 1) := by decide +kernel
theorem dX3_heaviest_35 : decode cX3_heaviest 35 = .ok (.getfield 11, 3) := by decide +kernel
theorem dX3_heaviest_38 : decode cX3_heaviest 38 = .ok (.iload_n 3, 1) := by decide +kernel
theorem dX3_heaviest_39 : decode cX3_heaviest 39 = .ok (.aaload, 1) := by decide +kernel
theorem dX3_heaviest_40 : decode cX3_heaviest 40 = .ok (.getfield 69, 3) := by decide +kernel
theorem dX3_heaviest_43 : decode cX3_heaviest 43 = .ok (.aload_n 0, 1) := by decide +kernel
theorem dX3_heaviest_44 : decode cX3_heaviest 44 = .ok (.getfield 45, 3) := by decide +kernel
theorem dX3_heaviest_47 : decode cX3_heaviest 47 = .ok (.iaload, 1) := by decide +kernel
theorem dX3_heaviest_48 : decode cX3_heaviest 48 = .ok (.istore_n 2, 1) := by decide +kernel
theorem dX3_heaviest_49 : decode cX3_heaviest 49 = .ok (.iinc 3 1, 3) := by decide +kernel
theorem dX3_heaviest_52 : decode cX3_heaviest 52 = .ok (.goto (-46), 3) := by decide +kernel
theorem dX3_heaviest_55 : decode cX3_heaviest 55 = .ok (.iload_n 1, 1) := by decide +kernel
theorem dX3_heaviest_56 : decode cX3_heaviest 56 = .ok (.ireturn, 1) := by decide +kernel
set_option maxRecDepth 20000 in
theorem ggX4_init_X0_init : GoodIn wsX4_init wsX0_init := goodIn_r _ [20, 21, 2, 3, 22, 23, 24, 25, 26, 27, 28, 110, 111] (by decide +kernel) (by decide +kernel)
set_option maxRecDepth 20000 in
theorem gX4_init_X0_init : GoodIn wsX4_init (wsX0_init) := ggX4_init_X0_init
set_option maxRecDepth 20000 in
theorem ggX4_init_X3_init : GoodIn wsX4_init wsX3_init := goodIn_r _ [31, 32, 2, 3, 33, 34, 35, 36, 37, 26, 38, 39, 40, 41, 42, 43, 44, 45, 46, 47, 48, 49, 12, 50, 51, 52, 53, 54, 55, 56, 57, 58, 59, 60, 61, 62, 63, 64, 65, 66, 67, 68, 69, 70, 71, 72, 73, 74, 75, 76, 77, 78, 79, 80, 81, 82, 83, 84, 85, 86, 87, 88, 89, 90, 91, 92, 93, 94, 95, 24, 96, 117, 118, 119, 120, 121, 122, 123, 128, 129, 130, 131, 132, 133, 134, 135, 136, 137] (by decide +kernel) (by decide +kernel)
set_option maxRecDepth 20000 in
theorem gX4_init_X3_init : GoodIn wsX4_init (wsX3_init) := ggX4_init_X3_init
set_option maxRecDepth 20000 in
theorem ggX4_init_X1_init : GoodIn wsX4_init wsX1_init := goodIn_r _ [99, 100, 2, 3, 101, 102, 103, 16, 104, 105, 106, 107, 108, 109, 124, 125, 126, 127] (by decide +kernel) (by decide +kernel)
set_option maxRecDepth 20000 in
theorem gX4_init_X1_init : GoodIn wsX4_init (wsX1_init) := ggX4_init_X1_init
theorem dX4_init_0 : decode cX4_init 0 = .ok (.aload_n 0, 1) := by decide +kernel
theorem dX4_init_1 : decode cX4_init 1 = .ok (.invokespecial 3, 3) := by decide +kernel
theorem dX4_init_4 : decode cX4_init 4 = .ok (.aload_n 0, 1) := by decide +kernel
theorem dX4_init_5 : decode cX4_init 5 = .ok (.new 9, 3) := by decide +kernel
theorem dX4_init_8 : decode cX4_init 8 = .ok (.dup, 1) := by decide +kernel
theorem dX4_init_9 : decode cX4_init 9 = .ok (.bipush 80, 2) := by decide +kernel
theorem dX4_init_11 : decode cX4_init 11 = .ok (.invokespecial 11, 3) := by decide +kernel
theorem dX4_init_14 : decode cX4_init 14 = .ok (.putfield 14, 3) := by decide +kernel
theorem dX4_init_17 : decode cX4_init 17 = .ok (.aload_n 0, 1) := by decide +kernel
theorem dX4_init_18 : decode cX4_init 18 = .ok (.new 9, 3) := by decide +kernel
theorem dX4_init_21 : decode cX4_init 21 = .ok (.dup, 1) := by decide +kernel
theorem dX4_init_22 : decode cX4_init 22 = .ok (.sipush 2564, 3) := by decide +kernel
theorem dX4_init_25 : decode cX4_init 25 = .ok (.invokespecial 11, 3) := by decide +kernel
theorem dX4_init_28 : decode cX4_init 28 = .ok (.putfield 18, 3) := by decide +kernel
theorem dX4_init_31 : decode cX4_init 31 = .ok (.aload_n 0, 1) := by decide +kernel
theorem dX4_init_32 : decode cX4_init 32 = .ok (.new 9, 3) := by decide +kernel
theorem dX4_init_35 : decode cX4_init 35 = .ok (.dup, 1) := by decide +kernel
theorem dX4_init_36 : decode cX4_init 36 = .ok (.bipush 80, 2) := by decide +kernel
theorem dX4_init_38 : decode cX4_init 38 = .ok (.invokespecial 11, 3) := by decide +kernel
theorem dX4_init_41 : decode cX4_init 41 = .ok (.putfield 21, 3) := by decide +kernel
theorem dX4_init_44 : decode cX4_init 44 = .ok (.aload_n 0, 1) := by decide +kernel
theorem dX4_init_45 : decode cX4_init 45 = .ok (.new 24, 3) := by decide +kernel
theorem dX4_init_48 : decode cX4_init 48 = .ok (.dup, 1) := by decide +kernel
theorem dX4_init_49 : decode cX4_init 49 = .ok (.invokespecial 26, 3) := by decide +kernel
theorem dX4_init_52 : decode cX4_init 52 = .ok (.putfield 27, 3) := by decide +kernel
theorem dX4_init_55 : decode cX4_init 55 = .ok (.aload_n 0, 1) := by decide +kernel
theorem dX4_init_56 : decode cX4_init 56 = .ok (.new 31, 3) := by decide +kernel
theorem dX4_init_59 : decode cX4_init 59 = .ok (.dup, 1) := by decide +kernel
theorem dX4_init_60 : decode cX4_init 60 = .ok (.invokespecial 33, 3) := by decide +kernel
theorem dX4_init_63 : decode cX4_init 63 = .ok (.putfield 34, 3) := by decide +kernel
theorem dX4_init_66 : decode cX4_init 66 = .ok (.return_, 1) := by decide +kernel
set_option maxRecDepth 20000 in
theorem ggX4_addModel_X4_requireRate : GoodIn wsX4_addModel wsX4_requireRate := goodIn_ca (goodIn_r _ [10, 1, 2] (by decide +kernel) (by decide +kernel)) (goodIn_sub (fun _ h => List.mem_cons_of_mem _ (List.mem_append_left _ (List.mem_append_right _ h))) (by decide +kernel))
set_option maxRecDepth 20000 in
theorem gX4_addModel_X4_requireRate : GoodIn wsX4_addModel (va_wsS RX4 45 yX4_requireRate wsX4_requireRate) := goodIn_app (goodIn_of _ (by decide +kernel)) ggX4_addModel_X4_requireRate
set_option maxRecDepth 20000 in
theorem ggX4_addModel_X3_takeModel : GoodIn wsX4_addModel wsX3_takeModel := goodIn_r _ [15, 16, 17, 18, 19, 20, 21, 22, 23, 24, 25, 26, 27, 28, 14, 29, 30, 31, 32, 33, 34, 35, 36, 37, 38, 39, 40, 41, 42, 43, 44, 45, 46, 47, 48, 49, 50, 51, 52, 53, 54, 55, 56, 57, 58, 59, 60, 61, 62, 63, 64, 65, 66, 67, 68, 69, 70, 71, 72, 73, 74, 75, 76, 77, 78, 84, 85, 86, 87, 88, 89, 90, 91, 92, 93, 94, 95, 96, 97, 98, 99, 100] (by decide +kernel) (by decide +kernel)
set_option maxRecDepth 20000 in
theorem gX4_addModel_X3_takeModel : GoodIn wsX4_addModel (wsV RX4 59 RX3 yX3_takeModel wsX3_takeModel) := goodIn_app (goodIn_of _ (by decide +kernel)) ggX4_addModel_X3_takeModel
theorem dX4_addModel_0 : decode cX4_addModel 0 = .ok (.iload_n 1, 1) := by decide +kernel
theorem dX4_addModel_1 : decode cX4_addModel 1 = .ok (.ifCond .lt 8, 3) := by decide +kernel
theorem dX4_addModel_4 : decode cX4_addModel 4 = .ok (.iload_n 1, 1) := by decide +kernel
theorem dX4_addModel_5 : decode cX4_addModel 5 = .ok (.iconst 3, 1) := by decide +kernel
theorem dX4_addModel_6 : decode cX4_addModel 6 = .ok (.if_icmp .le 13, 3) := by decide +kernel
theorem dX4_addModel_9 : decode cX4_addModel 9 = .ok (.new 38, 3) := by decide +kernel
theorem dX4_addModel_12 : decode cX4_addModel 12 = .ok (.dup, 1) := by decide +kernel
theorem dX4_addModel_13 : decode cX4_addModel 13 = .ok (.ldc 40, 2) := by decide +kernel
theorem dX4_addModel_15 : decode cX4_addModel 15 = .ok (.invokespecial 42, 3) := by decide +kernel
theorem dX4_addModel_18 : decode cX4_addModel 18 = .ok (.athrow, 1) := by decide +kernel
theorem dX4_addModel_19 : decode cX4_addModel 19 = .ok (.iload_n 2, 1) := by decide +kernel
theorem dX4_addModel_20 : decode cX4_addModel 20 = .ok (.invokestatic 45, 3) := by decide +kernel
theorem dX4_addModel_23 : decode cX4_addModel 23 = .ok (.iload_n 3, 1) := by decide +kernel
theorem dX4_addModel_24 : decode cX4_addModel 24 = .ok (.iconst 4, 1) := by decide +kernel
theorem dX4_addModel_25 : decode cX4_addModel 25 = .ok (.if_icmp .lt 9, 3) := by decide +kernel
theorem dX4_addModel_28 : decode cX4_addModel 28 = .ok (.iload_n 3, 1) := by decide +kernel
theorem dX4_addModel_29 : decode cX4_addModel 29 = .ok (.bipush 9, 2) := by decide +kernel
theorem dX4_addModel_31 : decode cX4_addModel 31 = .ok (.if_icmp .le 13, 3) := by decide +kernel
theorem dX4_addModel_34 : decode cX4_addModel 34 = .ok (.new 38, 3) := by decide +kernel
theorem dX4_addModel_37 : decode cX4_addModel 37 = .ok (.dup, 1) := by decide +kernel
theorem dX4_addModel_38 : decode cX4_addModel 38 = .ok (.ldc 48, 2) := by decide +kernel
theorem dX4_addModel_40 : decode cX4_addModel 40 = .ok (.invokespecial 42, 3) := by decide +kernel
theorem dX4_addModel_43 : decode cX4_addModel 43 = .ok (.athrow, 1) := by decide +kernel
theorem dX4_addModel_44 : decode cX4_addModel 44 = .ok (.aload_n 0, 1) := by decide +kernel
theorem dX4_addModel_45 : decode cX4_addModel 45 = .ok (.getfield 27, 3) := by decide +kernel
theorem dX4_addModel_48 : decode cX4_addModel 48 = .ok (.getfield 50, 3) := by decide +kernel
theorem dX4_addModel_51 : decode cX4_addModel 51 = .ok (.bipush 6, 2) := by decide +kernel
theorem dX4_addModel_53 : decode cX4_addModel 53 = .ok (.if_icmp .lt 13, 3) := by decide +kernel
theorem dX4_addModel_56 : decode cX4_addModel 56 = .ok (.new 54, 3) := by decide +kernel
theorem dX4_addModel_59 : decode cX4_addModel 59 = .ok (.dup, 1) := by decide +kernel
theorem dX4_addModel_60 : decode cX4_addModel 60 = .ok (.ldc 56, 2) := by decide +kernel
theorem dX4_addModel_62 : decode cX4_addModel 62 = .ok (.invokespecial 58, 3) := by decide +kernel
theorem dX4_addModel_65 : decode cX4_addModel 65 = .ok (.athrow, 1) := by decide +kernel
theorem dX4_addModel_66 : decode cX4_addModel 66 = .ok (.aload_n 0, 1) := by decide +kernel
theorem dX4_addModel_67 : decode cX4_addModel 67 = .ok (.getfield 27, 3) := by decide +kernel
theorem dX4_addModel_70 : decode cX4_addModel 70 = .ok (.iload_n 1, 1) := by decide +kernel
theorem dX4_addModel_71 : decode cX4_addModel 71 = .ok (.iload_n 2, 1) := by decide +kernel
theorem dX4_addModel_72 : decode cX4_addModel 72 = .ok (.iload_n 3, 1) := by decide +kernel
theorem dX4_addModel_73 : decode cX4_addModel 73 = .ok (.invokevirtual 59, 3) := by decide +kernel
theorem dX4_addModel_76 : decode cX4_addModel 76 = .ok (.aload_n 0, 1) := by decide +kernel
theorem dX4_addModel_77 : decode cX4_addModel 77 = .ok (.getfield 27, 3) := by decide +kernel
theorem dX4_addModel_80 : decode cX4_addModel 80 = .ok (.getfield 50, 3) := by decide +kernel
theorem dX4_addModel_83 : decode cX4_addModel 83 = .ok (.iconst 1, 1) := by decide +kernel
theorem dX4_addModel_84 : decode cX4_addModel 84 = .ok (.isub, 1) := by decide +kernel
theorem dX4_addModel_85 : decode cX4_addModel 85 = .ok (.ireturn, 1) := by decide +kernel
set_option maxRecDepth 20000 in
theorem ggX4_removeModel_X3_dropModel : GoodIn wsX4_removeModel wsX3_dropModel := goodIn_r _ [9, 10, 11, 12, 13, 8, 14, 15, 16, 17, 18, 19, 20, 21, 22, 23, 24, 25, 26, 27, 28, 29, 30, 31, 32, 33, 34, 35, 36, 37, 38, 39, 40, 41, 42, 43, 44, 45, 46, 47, 48, 49, 50, 51, 52, 53, 54, 55, 56, 57, 58, 59, 60, 61, 62, 63, 64, 65, 66, 67, 73, 74, 75, 76, 77, 78, 79, 80, 81, 82, 83, 84, 85, 86, 87, 88, 89] (by decide +kernel) (by decide +kernel)
set_option maxRecDepth 20000 in
theorem gX4_removeModel_X3_dropModel : GoodIn wsX4_removeModel (wsV RX4 65 RX3 yX3_dropModel wsX3_dropModel) := goodIn_app (goodIn_of _ (by decide +kernel)) ggX4_removeModel_X3_dropModel
theorem dX4_removeModel_0 : decode cX4_removeModel 0 = .ok (.aload_n 0, 1) := by decide +kernel
theorem dX4_removeModel_1 : decode cX4_removeModel 1 = .ok (.getfield 27, 3) := by decide +kernel
theorem dX4_removeModel_4 : decode cX4_removeModel 4 = .ok (.getfield 50, 3) := by decide +kernel
theorem dX4_removeModel_7 : decode cX4_removeModel 7 = .ok (.ifCond .gt 13, 3) := by decide +kernel
theorem dX4_removeModel_10 : decode cX4_removeModel 10 = .ok (.new 54, 3) := by decide +kernel
theorem dX4_removeModel_13 : decode cX4_removeModel 13 = .ok (.dup, 1) := by decide +kernel
theorem dX4_removeModel_14 : decode cX4_removeModel 14 = .ok (.ldc 63, 2) := by decide +kernel
theorem dX4_removeModel_16 : decode cX4_removeModel 16 = .ok (.invokespecial 58, 3) := by decide +kernel
theorem dX4_removeModel_19 : decode cX4_removeModel 19 = .ok (.athrow, 1) := by decide +kernel
theorem dX4_removeModel_20 : decode cX4_removeModel 20 = .ok (.aload_n 0, 1) := by decide +kernel
theorem dX4_removeModel_21 : decode cX4_removeModel 21 = .ok (.getfield 27, 3) := by decide +kernel
theorem dX4_removeModel_24 : decode cX4_removeModel 24 = .ok (.invokevirtual 65, 3) := by decide +kernel
theorem dX4_removeModel_27 : decode cX4_removeModel 27 = .ok (.aload_n 0, 1) := by decide +kernel
theorem dX4_removeModel_28 : decode cX4_removeModel 28 = .ok (.getfield 27, 3) := by decide +kernel
theorem dX4_removeModel_31 : decode cX4_removeModel 31 = .ok (.getfield 50, 3) := by decide +kernel
theorem dX4_removeModel_34 : decode cX4_removeModel 34 = .ok (.ireturn, 1) := by decide +kernel
set_option maxRecDepth 20000 in
theorem ggX4_setRate_X4_requireModel : GoodIn wsX4_setRate wsX4_requireModel := goodIn_ca (goodIn_r _ [7, 8, 9, 2, 10, 11, 86, 87, 88, 89, 90, 91, 92, 93, 94, 95, 96, 97] (by decide +kernel) (by decide +kernel)) (goodIn_sub (fun _ h => List.mem_cons_of_mem _ (List.mem_append_left _ (List.mem_append_right _ h))) (by decide +kernel))
set_option maxRecDepth 20000 in
theorem gX4_setRate_X4_requireModel : GoodIn wsX4_setRate (wsV RX4 68 RX4 yX4_requireModel wsX4_requireModel) := goodIn_app (goodIn_of _ (by decide +kernel)) ggX4_setRate_X4_requireModel
set_option maxRecDepth 20000 in
theorem ggX4_setRate_X4_requireRate : GoodIn wsX4_setRate wsX4_requireRate := goodIn_ca (goodIn_r _ [14, 15, 16] (by decide +kernel) (by decide +kernel)) (goodIn_sub (fun _ h => List.mem_cons_of_mem _ (List.mem_append_right _ h)) (by decide +kernel))
set_option maxRecDepth 20000 in
theorem gX4_setRate_X4_requireRate : GoodIn wsX4_setRate (va_wsS RX4 45 yX4_requireRate wsX4_requireRate) := goodIn_app (goodIn_of _ (by decide +kernel)) ggX4_setRate_X4_requireRate
set_option maxRecDepth 20000 in
theorem ggX4_setRate_X3_restart : GoodIn wsX4_setRate wsX3_restart := goodIn_r _ [21, 22, 23, 24, 25, 26, 27, 28, 29, 30, 31, 32, 33, 34, 35, 36, 37, 38, 39, 40, 41, 42, 43, 44, 45, 46, 47, 48, 20, 49, 50, 51, 52, 53, 54, 55, 56, 57, 58, 59, 60, 61, 62, 63, 64, 65, 66, 67, 68, 69, 70, 71, 72, 73, 74, 75, 91, 92, 93, 94, 95, 96, 97, 76, 77, 78, 79, 80, 81, 82, 83, 84, 85] (by decide +kernel) (by decide +kernel)
set_option maxRecDepth 20000 in
theorem gX4_setRate_X3_restart : GoodIn wsX4_setRate (wsV RX4 77 RX3 yX3_restart wsX3_restart) := goodIn_app (goodIn_of _ (by decide +kernel)) ggX4_setRate_X3_restart
theorem dX4_setRate_0 : decode cX4_setRate 0 = .ok (.aload_n 0, 1) := by decide +kernel
theorem dX4_setRate_1 : decode cX4_setRate 1 = .ok (.iload_n 1, 1) := by decide +kernel
theorem dX4_setRate_2 : decode cX4_setRate 2 = .ok (.invokevirtual 68, 3) := by decide +kernel
theorem dX4_setRate_5 : decode cX4_setRate 5 = .ok (.astore_n 3, 1) := by decide +kernel
theorem dX4_setRate_6 : decode cX4_setRate 6 = .ok (.iload_n 2, 1) := by decide +kernel
theorem dX4_setRate_7 : decode cX4_setRate 7 = .ok (.invokestatic 45, 3) := by decide +kernel
theorem dX4_setRate_10 : decode cX4_setRate 10 = .ok (.aload_n 3, 1) := by decide +kernel
theorem dX4_setRate_11 : decode cX4_setRate 11 = .ok (.getfield 72, 3) := by decide +kernel
theorem dX4_setRate_14 : decode cX4_setRate 14 = .ok (.istore 4, 2) := by decide +kernel
theorem dX4_setRate_16 : decode cX4_setRate 16 = .ok (.aload_n 3, 1) := by decide +kernel
theorem dX4_setRate_17 : decode cX4_setRate 17 = .ok (.iload_n 2, 1) := by decide +kernel
theorem dX4_setRate_18 : decode cX4_setRate 18 = .ok (.putfield 72, 3) := by decide +kernel
theorem dX4_setRate_21 : decode cX4_setRate 21 = .ok (.aload_n 0, 1) := by decide +kernel
theorem dX4_setRate_22 : decode cX4_setRate 22 = .ok (.getfield 27, 3) := by decide +kernel
theorem dX4_setRate_25 : decode cX4_setRate 25 = .ok (.invokevirtual 77, 3) := by decide +kernel
theorem dX4_setRate_28 : decode cX4_setRate 28 = .ok (.iload 4, 2) := by decide +kernel
theorem dX4_setRate_30 : decode cX4_setRate 30 = .ok (.ireturn, 1) := by decide +kernel
theorem dX4_modelCount_0 : decode cX4_modelCount 0 = .ok (.aload_n 0, 1) := by decide +kernel
theorem dX4_modelCount_1 : decode cX4_modelCount 1 = .ok (.getfield 27, 3) := by decide +kernel
theorem dX4_modelCount_4 : decode cX4_modelCount 4 = .ok (.getfield 50, 3) := by decide +kernel
theorem dX4_modelCount_7 : decode cX4_modelCount 7 = .ok (.ireturn, 1) := by decide +kernel
set_option maxRecDepth 20000 in
theorem ggX4_feed_X4_requireRoom : GoodIn wsX4_feed wsX4_requireRoom := goodIn_ca (goodIn_r _ [9, 10, 11, 3, 4, 19, 20, 21, 22, 23, 24, 25] (by decide +kernel) (by decide +kernel)) (goodIn_sub (fun _ h => List.mem_cons_of_mem _ (List.mem_append_right _ h)) (by decide +kernel))
set_option maxRecDepth 20000 in
theorem gX4_feed_X4_requireRoom : GoodIn wsX4_feed (wsV RX4 82 RX4 yX4_requireRoom wsX4_requireRoom) := goodIn_app (goodIn_of _ (by decide +kernel)) ggX4_feed_X4_requireRoom
set_option maxRecDepth 20000 in
theorem ggX4_feed_X0_append : GoodIn wsX4_feed wsX0_append := goodIn_r _ [16, 17, 18, 24, 25] (by decide +kernel) (by decide +kernel)
set_option maxRecDepth 20000 in
theorem gX4_feed_X0_append : GoodIn wsX4_feed (wsV RX4 85 RX0 yX0_append wsX0_append) := goodIn_app (goodIn_of _ (by decide +kernel)) ggX4_feed_X0_append
theorem dX4_feed_0 : decode cX4_feed 0 = .ok (.iload_n 3, 1) := by decide +kernel
theorem dX4_feed_1 : decode cX4_feed 1 = .ok (.iconst 1, 1) := by decide +kernel
theorem dX4_feed_2 : decode cX4_feed 2 = .ok (.if_icmp .lt 9, 3) := by decide +kernel
theorem dX4_feed_5 : decode cX4_feed 5 = .ok (.iload_n 3, 1) := by decide +kernel
theorem dX4_feed_6 : decode cX4_feed 6 = .ok (.bipush 8, 2) := by decide +kernel
theorem dX4_feed_8 : decode cX4_feed 8 = .ok (.if_icmp .le 13, 3) := by decide +kernel
theorem dX4_feed_11 : decode cX4_feed 11 = .ok (.new 38, 3) := by decide +kernel
theorem dX4_feed_14 : decode cX4_feed 14 = .ok (.dup, 1) := by decide +kernel
theorem dX4_feed_15 : decode cX4_feed 15 = .ok (.ldc 80, 2) := by decide +kernel
theorem dX4_feed_17 : decode cX4_feed 17 = .ok (.invokespecial 42, 3) := by decide +kernel
theorem dX4_feed_20 : decode cX4_feed 20 = .ok (.athrow, 1) := by decide +kernel
theorem dX4_feed_21 : decode cX4_feed 21 = .ok (.aload_n 0, 1) := by decide +kernel
theorem dX4_feed_22 : decode cX4_feed 22 = .ok (.iload_n 3, 1) := by decide +kernel
theorem dX4_feed_23 : decode cX4_feed 23 = .ok (.invokevirtual 82, 3) := by decide +kernel
theorem dX4_feed_26 : decode cX4_feed 26 = .ok (.iload_n 3, 1) := by decide +kernel
theorem dX4_feed_27 : decode cX4_feed 27 = .ok (.iconst 1, 1) := by decide +kernel
theorem dX4_feed_28 : decode cX4_feed 28 = .ok (.isub, 1) := by decide +kernel
theorem dX4_feed_29 : decode cX4_feed 29 = .ok (.istore 4, 2) := by decide +kernel
theorem dX4_feed_31 : decode cX4_feed 31 = .ok (.iload 4, 2) := by decide +kernel
theorem dX4_feed_33 : decode cX4_feed 33 = .ok (.ifCond .lt 28, 3) := by decide +kernel
theorem dX4_feed_36 : decode cX4_feed 36 = .ok (.aload_n 0, 1) := by decide +kernel
theorem dX4_feed_37 : decode cX4_feed 37 = .ok (.getfield 14, 3) := by decide +kernel
theorem dX4_feed_40 : decode cX4_feed 40 = .ok (.lload_n 1, 1) := by decide +kernel
theorem dX4_feed_41 : decode cX4_feed 41 = .ok (.bipush 8, 2) := by decide +kernel
theorem dX4_feed_43 : decode cX4_feed 43 = .ok (.iload 4, 2) := by decide +kernel
theorem dX4_feed_45 : decode cX4_feed 45 = .ok (.imul, 1) := by decide +kernel
theorem dX4_feed_46 : decode cX4_feed 46 = .ok (.lushr, 1) := by decide +kernel
theorem dX4_feed_47 : decode cX4_feed 47 = .ok (.l2i, 1) := by decide +kernel
theorem dX4_feed_48 : decode cX4_feed 48 = .ok (.sipush 255, 3) := by decide +kernel
theorem dX4_feed_51 : decode cX4_feed 51 = .ok (.iand, 1) := by decide +kernel
theorem dX4_feed_52 : decode cX4_feed 52 = .ok (.invokevirtual 85, 3) := by decide +kernel
theorem dX4_feed_55 : decode cX4_feed 55 = .ok (.iinc 4 (-1), 3) := by decide +kernel
theorem dX4_feed_58 : decode cX4_feed 58 = .ok (.goto (-27), 3) := by decide +kernel
theorem dX4_feed_61 : decode cX4_feed 61 = .ok (.aload_n 0, 1) := by decide +kernel
theorem dX4_feed_62 : decode cX4_feed 62 = .ok (.getfield 14, 3) := by decide +kernel
theorem dX4_feed_65 : decode cX4_feed 65 = .ok (.getfield 88, 3) := by decide +kernel
theorem dX4_feed_68 : decode cX4_feed 68 = .ok (.ireturn, 1) := by decide +kernel
set_option maxRecDepth 20000 in
theorem ggX4_fill_X4_requireByte : GoodIn wsX4_fill wsX4_requireByte := goodIn_ca (goodIn_r _ [8, 1, 2] (by decide +kernel) (by decide +kernel)) (goodIn_sub (fun _ h => List.mem_cons_of_mem _ (List.mem_append_left _ (List.mem_append_right _ h))) (by decide +kernel))
set_option maxRecDepth 20000 in
theorem gX4_fill_X4_requireByte : GoodIn wsX4_fill (va_wsS RX4 91 yX4_requireByte wsX4_requireByte) := goodIn_app (goodIn_of _ (by decide +kernel)) ggX4_fill_X4_requireByte
set_option maxRecDepth 20000 in
theorem ggX4_fill_X4_requireRoom : GoodIn wsX4_fill wsX4_requireRoom := goodIn_ca (goodIn_r _ [12, 13, 14, 3, 4, 22, 23, 24, 25, 26, 27, 28] (by decide +kernel) (by decide +kernel)) (goodIn_sub (fun _ h => List.mem_cons_of_mem _ (List.mem_append_right _ h)) (by decide +kernel))
set_option maxRecDepth 20000 in
theorem gX4_fill_X4_requireRoom : GoodIn wsX4_fill (wsV RX4 82 RX4 yX4_requireRoom wsX4_requireRoom) := goodIn_app (goodIn_of _ (by decide +kernel)) ggX4_fill_X4_requireRoom
set_option maxRecDepth 20000 in
theorem ggX4_fill_X0_append : GoodIn wsX4_fill wsX0_append := goodIn_r _ [19, 20, 21, 27, 28] (by decide +kernel) (by decide +kernel)
set_option maxRecDepth 20000 in
theorem gX4_fill_X0_append : GoodIn wsX4_fill (wsV RX4 85 RX0 yX0_append wsX0_append) := goodIn_app (goodIn_of _ (by decide +kernel)) ggX4_fill_X0_append
theorem dX4_fill_0 : decode cX4_fill 0 = .ok (.iload_n 1, 1) := by decide +kernel
theorem dX4_fill_1 : decode cX4_fill 1 = .ok (.invokestatic 91, 3) := by decide +kernel
theorem dX4_fill_4 : decode cX4_fill 4 = .ok (.iload_n 2, 1) := by decide +kernel
theorem dX4_fill_5 : decode cX4_fill 5 = .ok (.iconst 1, 1) := by decide +kernel
theorem dX4_fill_6 : decode cX4_fill 6 = .ok (.if_icmp .lt 9, 3) := by decide +kernel
theorem dX4_fill_9 : decode cX4_fill 9 = .ok (.iload_n 2, 1) := by decide +kernel
theorem dX4_fill_10 : decode cX4_fill 10 = .ok (.bipush 80, 2) := by decide +kernel
theorem dX4_fill_12 : decode cX4_fill 12 = .ok (.if_icmp .le 13, 3) := by decide +kernel
theorem dX4_fill_15 : decode cX4_fill 15 = .ok (.new 38, 3) := by decide +kernel
theorem dX4_fill_18 : decode cX4_fill 18 = .ok (.dup, 1) := by decide +kernel
theorem dX4_fill_19 : decode cX4_fill 19 = .ok (.ldc 94, 2) := by decide +kernel
theorem dX4_fill_21 : decode cX4_fill 21 = .ok (.invokespecial 42, 3) := by decide +kernel
theorem dX4_fill_24 : decode cX4_fill 24 = .ok (.athrow, 1) := by decide +kernel
theorem dX4_fill_25 : decode cX4_fill 25 = .ok (.aload_n 0, 1) := by decide +kernel
theorem dX4_fill_26 : decode cX4_fill 26 = .ok (.iload_n 2, 1) := by decide +kernel
theorem dX4_fill_27 : decode cX4_fill 27 = .ok (.invokevirtual 82, 3) := by decide +kernel
theorem dX4_fill_30 : decode cX4_fill 30 = .ok (.iconst 0, 1) := by decide +kernel
theorem dX4_fill_31 : decode cX4_fill 31 = .ok (.istore_n 3, 1) := by decide +kernel
theorem dX4_fill_32 : decode cX4_fill 32 = .ok (.iload_n 3, 1) := by decide +kernel
theorem dX4_fill_33 : decode cX4_fill 33 = .ok (.iload_n 2, 1) := by decide +kernel
theorem dX4_fill_34 : decode cX4_fill 34 = .ok (.if_icmp .ge 17, 3) := by decide +kernel
theorem dX4_fill_37 : decode cX4_fill 37 = .ok (.aload_n 0, 1) := by decide +kernel
theorem dX4_fill_38 : decode cX4_fill 38 = .ok (.getfield 14, 3) := by decide +kernel
theorem dX4_fill_41 : decode cX4_fill 41 = .ok (.iload_n 1, 1) := by decide +kernel
theorem dX4_fill_42 : decode cX4_fill 42 = .ok (.invokevirtual 85, 3) := by decide +kernel
theorem dX4_fill_45 : decode cX4_fill 45 = .ok (.iinc 3 1, 3) := by decide +kernel
theorem dX4_fill_48 : decode cX4_fill 48 = .ok (.goto (-16), 3) := by decide +kernel
theorem dX4_fill_51 : decode cX4_fill 51 = .ok (.aload_n 0, 1) := by decide +kernel
theorem dX4_fill_52 : decode cX4_fill 52 = .ok (.getfield 14, 3) := by decide +kernel
theorem dX4_fill_55 : decode cX4_fill 55 = .ok (.getfield 88, 3) := by decide +kernel
theorem dX4_fill_58 : decode cX4_fill 58 = .ok (.ireturn, 1) := by decide +kernel
set_option maxRecDepth 20000 in
theorem ggX4_cut_X4_shorten : GoodIn wsX4_cut wsX4_shorten := goodIn_ca (goodIn_r _ [5, 6, 7, 8, 14, 15] (by decide +kernel) (by decide +kernel)) (goodIn_sub (fun _ h => List.mem_cons_of_mem _ (List.mem_append_right _ h)) (by decide +kernel))
set_option maxRecDepth 20000 in
theorem gX4_cut_X4_shorten : GoodIn wsX4_cut (va_wsS RX4 96 yX4_shorten wsX4_shorten) := goodIn_app (goodIn_of _ (by decide +kernel)) ggX4_cut_X4_shorten
theorem dX4_cut_0 : decode cX4_cut 0 = .ok (.aload_n 0, 1) := by decide +kernel
theorem dX4_cut_1 : decode cX4_cut 1 = .ok (.getfield 14, 3) := by decide +kernel
theorem dX4_cut_4 : decode cX4_cut 4 = .ok (.iload_n 1, 1) := by decide +kernel
theorem dX4_cut_5 : decode cX4_cut 5 = .ok (.invokestatic 96, 3) := by decide +kernel
theorem dX4_cut_8 : decode cX4_cut 8 = .ok (.ireturn, 1) := by decide +kernel
theorem dX4_size_0 : decode cX4_size 0 = .ok (.aload_n 0, 1) := by decide +kernel
theorem dX4_size_1 : decode cX4_size 1 = .ok (.getfield 14, 3) := by decide +kernel
theorem dX4_size_4 : decode cX4_size 4 = .ok (.getfield 88, 3) := by decide +kernel
theorem dX4_size_7 : decode cX4_size 7 = .ok (.ireturn, 1) := by decide +kernel
set_option maxRecDepth 20000 in
theorem ggX4_byteAt_X4_requirePlace : GoodIn wsX4_byteAt wsX4_requirePlace := goodIn_ca (goodIn_r _ [5, 6, 7, 8, 9, 10, 11, 12, 13, 14, 15, 16, 17, 18, 19, 25, 26] (by decide +kernel) (by decide +kernel)) (goodIn_sub (fun _ h => List.mem_cons_of_mem _ (List.mem_append_right _ h)) (by decide +kernel))
set_option maxRecDepth 20000 in
theorem gX4_byteAt_X4_requirePlace : GoodIn wsX4_byteAt (va_wsS RX4 100 yX4_requirePlace wsX4_requirePlace) := goodIn_app (goodIn_of _ (by decide +kernel)) ggX4_byteAt_X4_requirePlace
theorem dX4_byteAt_0 : decode cX4_byteAt 0 = .ok (.aload_n 0, 1) := by decide +kernel
theorem dX4_byteAt_1 : decode cX4_byteAt 1 = .ok (.getfield 14, 3) := by decide +kernel
theorem dX4_byteAt_4 : decode cX4_byteAt 4 = .ok (.iload_n 1, 1) := by decide +kernel
theorem dX4_byteAt_5 : decode cX4_byteAt 5 = .ok (.invokestatic 100, 3) := by decide +kernel
theorem dX4_byteAt_8 : decode cX4_byteAt 8 = .ok (.ireturn, 1) := by decide +kernel
set_option maxRecDepth 20000 in
theorem ggX4_reset_X3_restart : GoodIn wsX4_reset wsX3_restart := goodIn_r _ [7, 8, 9, 10, 11, 12, 13, 14, 15, 16, 17, 18, 19, 20, 21, 22, 23, 24, 25, 26, 27, 28, 29, 30, 31, 32, 33, 34, 6, 35, 36, 37, 38, 39, 40, 41, 42, 43, 44, 45, 46, 47, 48, 49, 50, 51, 52, 53, 54, 55, 56, 57, 58, 59, 60, 61, 67, 68, 69, 70, 71, 72, 73, 74, 75, 76, 77, 78, 79, 80, 81, 82, 83] (by decide +kernel) (by decide +kernel)
set_option maxRecDepth 20000 in
theorem gX4_reset_X3_restart : GoodIn wsX4_reset (wsV RX4 77 RX3 yX3_restart wsX3_restart) := goodIn_app (goodIn_of _ (by decide +kernel)) ggX4_reset_X3_restart
theorem dX4_reset_0 : decode cX4_reset 0 = .ok (.aload_n 0, 1) := by decide +kernel
theorem dX4_reset_1 : decode cX4_reset 1 = .ok (.getfield 27, 3) := by decide +kernel
theorem dX4_reset_4 : decode cX4_reset 4 = .ok (.getfield 103, 3) := by decide +kernel
theorem dX4_reset_7 : decode cX4_reset 7 = .ok (.istore_n 1, 1) := by decide +kernel
theorem dX4_reset_8 : decode cX4_reset 8 = .ok (.aload_n 0, 1) := by decide +kernel
theorem dX4_reset_9 : decode cX4_reset 9 = .ok (.getfield 27, 3) := by decide +kernel
theorem dX4_reset_12 : decode cX4_reset 12 = .ok (.invokevirtual 77, 3) := by decide +kernel
theorem dX4_reset_15 : decode cX4_reset 15 = .ok (.iload_n 1, 1) := by decide +kernel
theorem dX4_reset_16 : decode cX4_reset 16 = .ok (.ireturn, 1) := by decide +kernel
set_option maxRecDepth 20000 in
theorem ggX4_observe_X3_mixture : GoodIn wsX4_observe wsX3_mixture := goodIn_r _ [6, 7, 8, 9, 10, 11, 12, 13, 14, 15, 16, 17, 18, 19, 20, 21, 22, 23, 24, 87, 88, 89, 90, 91, 92, 93, 94, 95, 96, 97, 98, 99, 100, 101, 102, 103] (by decide +kernel) (by decide +kernel)
set_option maxRecDepth 20000 in
theorem gX4_observe_X3_mixture : GoodIn wsX4_observe (wsV RX4 106 RX3 yX3_mixture wsX3_mixture) := goodIn_app (goodIn_of _ (by decide +kernel)) ggX4_observe_X3_mixture
set_option maxRecDepth 20000 in
theorem ggX4_observe_X3_learn : GoodIn wsX4_observe wsX3_learn := goodIn_r _ [28, 29, 7, 8, 10, 30, 31, 32, 33, 34, 35, 36, 21, 37, 38, 39, 40, 12, 13, 14, 41, 16, 17, 42, 19, 20, 22, 23, 24, 43, 44, 45, 46, 47, 48, 49, 50, 51, 52, 53, 5, 54, 55, 56, 57, 58, 59, 60, 61, 62, 63, 64, 65, 66, 67, 68, 69, 70, 71, 72, 73, 74, 75, 76, 77, 78, 79, 80, 87, 88, 89, 90, 91, 92, 93, 94, 95, 96, 97, 98, 99, 100, 101, 102, 103] (by decide +kernel) (by decide +kernel)
set_option maxRecDepth 20000 in
theorem gX4_observe_X3_learn : GoodIn wsX4_observe (wsV RX4 110 RX3 yX3_learn wsX3_learn) := goodIn_app (goodIn_of _ (by decide +kernel)) ggX4_observe_X3_learn
set_option maxRecDepth 20000 in
theorem ggX4_observe_X4_quality : GoodIn wsX4_observe wsX4_quality := goodIn_r _ [33] (by decide +kernel) (by decide +kernel)
set_option maxRecDepth 20000 in
theorem gX4_observe_X4_quality : GoodIn wsX4_observe (va_wsS RX4 114 yX4_quality wsX4_quality) := goodIn_app (goodIn_of _ (by decide +kernel)) ggX4_observe_X4_quality
theorem dX4_observe_0 : decode cX4_observe 0 = .ok (.aload_n 0, 1) := by decide +kernel
theorem dX4_observe_1 : decode cX4_observe 1 = .ok (.getfield 27, 3) := by decide +kernel
theorem dX4_observe_4 : decode cX4_observe 4 = .ok (.invokevirtual 106, 3) := by decide +kernel
theorem dX4_observe_7 : decode cX4_observe 7 = .ok (.istore_n 2, 1) := by decide +kernel
theorem dX4_observe_8 : decode cX4_observe 8 = .ok (.aload_n 0, 1) := by decide +kernel
theorem dX4_observe_9 : decode cX4_observe 9 = .ok (.getfield 27, 3) := by decide +kernel
theorem dX4_observe_12 : decode cX4_observe 12 = .ok (.iload_n 1, 1) := by decide +kernel
theorem dX4_observe_13 : decode cX4_observe 13 = .ok (.iload_n 2, 1) := by decide +kernel
theorem dX4_observe_14 : decode cX4_observe 14 = .ok (.invokevirtual 110, 3) := by decide +kernel
theorem dX4_observe_17 : decode cX4_observe 17 = .ok (.iload_n 2, 1) := by decide +kernel
theorem dX4_observe_18 : decode cX4_observe 18 = .ok (.iload_n 1, 1) := by decide +kernel
theorem dX4_observe_19 : decode cX4_observe 19 = .ok (.invokestatic 114, 3) := by decide +kernel
theorem dX4_observe_22 : decode cX4_observe 22 = .ok (.ireturn, 1) := by decide +kernel
set_option maxRecDepth 20000 in
theorem ggX4_mixed_X3_mixture : GoodIn wsX4_mixed wsX3_mixture := goodIn_r _ [6, 7, 8, 9, 10, 11, 12, 13, 14, 15, 16, 17, 18, 19, 20, 21, 22, 23, 24, 30, 31, 32, 33, 34, 35, 36, 37, 38, 39, 40, 41, 42, 43, 44, 45, 46] (by decide +kernel) (by decide +kernel)
set_option maxRecDepth 20000 in
theorem gX4_mixed_X3_mixture : GoodIn wsX4_mixed (wsV RX4 106 RX3 yX3_mixture wsX3_mixture) := goodIn_app (goodIn_of _ (by decide +kernel)) ggX4_mixed_X3_mixture
theorem dX4_mixed_0 : decode cX4_mixed 0 = .ok (.aload_n 0, 1) := by decide +kernel
theorem dX4_mixed_1 : decode cX4_mixed 1 = .ok (.getfield 27, 3) := by decide +kernel
theorem dX4_mixed_4 : decode cX4_mixed 4 = .ok (.invokevirtual 106, 3) := by decide +kernel
theorem dX4_mixed_7 : decode cX4_mixed 7 = .ok (.ireturn, 1) := by decide +kernel
set_option maxRecDepth 20000 in
theorem ggX4_prediction_X4_requireModel : GoodIn wsX4_prediction wsX4_requireModel := goodIn_ca (goodIn_r _ [5, 6, 7, 8, 9, 10, 18, 19, 20, 21, 22, 23, 24, 25, 26, 27, 28, 29] (by decide +kernel) (by decide +kernel)) (goodIn_sub (fun _ h => List.mem_cons_of_mem _ (List.mem_append_right _ h)) (by decide +kernel))
set_option maxRecDepth 20000 in
theorem gX4_prediction_X4_requireModel : GoodIn wsX4_prediction (wsV RX4 68 RX4 yX4_requireModel wsX4_requireModel) := goodIn_app (goodIn_of _ (by decide +kernel)) ggX4_prediction_X4_requireModel
set_option maxRecDepth 20000 in
theorem ggX4_prediction_X2_guess : GoodIn wsX4_prediction wsX2_guess := goodIn_r _ [15, 16, 17, 30, 31, 32, 33, 34, 35, 36, 37, 38, 39] (by decide +kernel) (by decide +kernel)
set_option maxRecDepth 20000 in
theorem gX4_prediction_X2_guess : GoodIn wsX4_prediction (wsV RX4 118 RX2 yX2_guess wsX2_guess) := goodIn_app (goodIn_of _ (by decide +kernel)) ggX4_prediction_X2_guess
theorem dX4_prediction_0 : decode cX4_prediction 0 = .ok (.aload_n 0, 1) := by decide +kernel
theorem dX4_prediction_1 : decode cX4_prediction 1 = .ok (.iload_n 1, 1) := by decide +kernel
theorem dX4_prediction_2 : decode cX4_prediction 2 = .ok (.invokevirtual 68, 3) := by decide +kernel
theorem dX4_prediction_5 : decode cX4_prediction 5 = .ok (.invokevirtual 118, 3) := by decide +kernel
theorem dX4_prediction_8 : decode cX4_prediction 8 = .ok (.ireturn, 1) := by decide +kernel
set_option maxRecDepth 20000 in
theorem ggX4_index_X4_requireModel : GoodIn wsX4_index wsX4_requireModel := goodIn_ca (goodIn_r _ [6, 7, 8, 9, 10, 11, 22, 23, 24, 25, 26, 27, 28, 29, 30, 31, 32, 33] (by decide +kernel) (by decide +kernel)) (goodIn_sub (fun _ h => List.mem_cons_of_mem _ (List.mem_append_right _ h)) (by decide +kernel))
set_option maxRecDepth 20000 in
theorem gX4_index_X4_requireModel : GoodIn wsX4_index (wsV RX4 68 RX4 yX4_requireModel wsX4_requireModel) := goodIn_app (goodIn_of _ (by decide +kernel)) ggX4_index_X4_requireModel
theorem dX4_index_0 : decode cX4_index 0 = .ok (.aload_n 0, 1) := by decide +kernel
theorem dX4_index_1 : decode cX4_index 1 = .ok (.iload_n 1, 1) := by decide +kernel
theorem dX4_index_2 : decode cX4_index 2 = .ok (.invokevirtual 68, 3) := by decide +kernel
theorem dX4_index_5 : decode cX4_index 5 = .ok (.getfield 121, 3) := by decide +kernel
theorem dX4_index_8 : decode cX4_index 8 = .ok (.ireturn, 1) := by decide +kernel
set_option maxRecDepth 20000 in
theorem ggX4_counter_X4_requireModel : GoodIn wsX4_counter wsX4_requireModel := goodIn_ca (goodIn_r _ [8, 1, 2, 9, 10, 11, 32, 33, 34, 35, 36, 37, 38, 39, 40, 41, 42, 43] (by decide +kernel) (by decide +kernel)) (goodIn_sub (fun _ h => List.mem_cons_of_mem _ (List.mem_append_right _ h)) (by decide +kernel))
set_option maxRecDepth 20000 in
theorem gX4_counter_X4_requireModel : GoodIn wsX4_counter (wsV RX4 68 RX4 yX4_requireModel wsX4_requireModel) := goodIn_app (goodIn_of _ (by decide +kernel)) ggX4_counter_X4_requireModel
set_option maxRecDepth 20000 in
theorem ggX4_counter_X2_tableSize : GoodIn wsX4_counter wsX2_tableSize := goodIn_r _ [16, 17, 18, 19, 20, 21, 22, 23, 24, 25, 26, 27, 28, 29, 30, 31] (by decide +kernel) (by decide +kernel)
set_option maxRecDepth 20000 in
theorem gX4_counter_X2_tableSize : GoodIn wsX4_counter (wsV RX4 124 RX2 yX2_tableSize wsX2_tableSize) := goodIn_app (goodIn_of _ (by decide +kernel)) ggX4_counter_X2_tableSize
theorem dX4_counter_0 : decode cX4_counter 0 = .ok (.aload_n 0, 1) := by decide +kernel
theorem dX4_counter_1 : decode cX4_counter 1 = .ok (.iload_n 1, 1) := by decide +kernel
theorem dX4_counter_2 : decode cX4_counter 2 = .ok (.invokevirtual 68, 3) := by decide +kernel
theorem dX4_counter_5 : decode cX4_counter 5 = .ok (.astore_n 3, 1) := by decide +kernel
theorem dX4_counter_6 : decode cX4_counter 6 = .ok (.iload_n 2, 1) := by decide +kernel
theorem dX4_counter_7 : decode cX4_counter 7 = .ok (.ifCond .lt 11, 3) := by decide +kernel
theorem dX4_counter_10 : decode cX4_counter 10 = .ok (.iload_n 2, 1) := by decide +kernel
theorem dX4_counter_11 : decode cX4_counter 11 = .ok (.aload_n 3, 1) := by decide +kernel
theorem dX4_counter_12 : decode cX4_counter 12 = .ok (.invokevirtual 124, 3) := by decide +kernel
theorem dX4_counter_15 : decode cX4_counter 15 = .ok (.if_icmp .lt 13, 3) := by decide +kernel
theorem dX4_counter_18 : decode cX4_counter 18 = .ok (.new 127, 3) := by decide +kernel
theorem dX4_counter_21 : decode cX4_counter 21 = .ok (.dup, 1) := by decide +kernel
theorem dX4_counter_22 : decode cX4_counter 22 = .ok (.ldc 129, 2) := by decide +kernel
theorem dX4_counter_24 : decode cX4_counter 24 = .ok (.invokespecial 131, 3) := by decide +kernel
theorem dX4_counter_27 : decode cX4_counter 27 = .ok (.athrow, 1) := by decide +kernel
theorem dX4_counter_28 : decode cX4_counter 28 = .ok (.aload_n 3, 1) := by decide +kernel
theorem dX4_counter_29 : decode cX4_counter 29 = .ok (.getfield 132, 3) := by decide +kernel
theorem dX4_counter_32 : decode cX4_counter 32 = .ok (.iload_n 2, 1) := by decide +kernel
theorem dX4_counter_33 : decode cX4_counter 33 = .ok (.iaload, 1) := by decide +kernel
theorem dX4_counter_34 : decode cX4_counter 34 = .ok (.ireturn, 1) := by decide +kernel
set_option maxRecDepth 20000 in
theorem ggX4_weight_X4_requireModel : GoodIn wsX4_weight wsX4_requireModel := goodIn_ca (goodIn_r _ [8, 1, 2, 9, 10, 11, 22, 23, 24, 25, 26, 27, 28, 29, 30, 31, 32, 33] (by decide +kernel) (by decide +kernel)) (goodIn_sub (fun _ h => List.mem_cons_of_mem _ (List.mem_append_right _ h)) (by decide +kernel))
set_option maxRecDepth 20000 in
theorem gX4_weight_X4_requireModel : GoodIn wsX4_weight (wsV RX4 68 RX4 yX4_requireModel wsX4_requireModel) := goodIn_app (goodIn_of _ (by decide +kernel)) ggX4_weight_X4_requireModel
theorem dX4_weight_0 : decode cX4_weight 0 = .ok (.aload_n 0, 1) := by decide +kernel
theorem dX4_weight_1 : decode cX4_weight 1 = .ok (.iload_n 1, 1) := by decide +kernel
theorem dX4_weight_2 : decode cX4_weight 2 = .ok (.invokevirtual 68, 3) := by decide +kernel
theorem dX4_weight_5 : decode cX4_weight 5 = .ok (.astore_n 3, 1) := by decide +kernel
theorem dX4_weight_6 : decode cX4_weight 6 = .ok (.iload_n 2, 1) := by decide +kernel
theorem dX4_weight_7 : decode cX4_weight 7 = .ok (.ifCond .lt 9, 3) := by decide +kernel
theorem dX4_weight_10 : decode cX4_weight 10 = .ok (.iload_n 2, 1) := by decide +kernel
theorem dX4_weight_11 : decode cX4_weight 11 = .ok (.bipush 8, 2) := by decide +kernel
theorem dX4_weight_13 : decode cX4_weight 13 = .ok (.if_icmp .lt 13, 3) := by decide +kernel
theorem dX4_weight_16 : decode cX4_weight 16 = .ok (.new 127, 3) := by decide +kernel
theorem dX4_weight_19 : decode cX4_weight 19 = .ok (.dup, 1) := by decide +kernel
theorem dX4_weight_20 : decode cX4_weight 20 = .ok (.ldc 136, 2) := by decide +kernel
theorem dX4_weight_22 : decode cX4_weight 22 = .ok (.invokespecial 131, 3) := by decide +kernel
theorem dX4_weight_25 : decode cX4_weight 25 = .ok (.athrow, 1) := by decide +kernel
theorem dX4_weight_26 : decode cX4_weight 26 = .ok (.aload_n 3, 1) := by decide +kernel
theorem dX4_weight_27 : decode cX4_weight 27 = .ok (.getfield 138, 3) := by decide +kernel
theorem dX4_weight_30 : decode cX4_weight 30 = .ok (.iload_n 2, 1) := by decide +kernel
theorem dX4_weight_31 : decode cX4_weight 31 = .ok (.iaload, 1) := by decide +kernel
theorem dX4_weight_32 : decode cX4_weight 32 = .ok (.ireturn, 1) := by decide +kernel
set_option maxRecDepth 20000 in
theorem ggX4_leader_X3_heaviest : GoodIn wsX4_leader wsX3_heaviest := goodIn_r _ [6, 7, 8, 9, 10, 16, 17, 18, 19, 20, 21, 22, 23, 24, 25, 26, 27, 28, 29, 30, 31, 32] (by decide +kernel) (by decide +kernel)
set_option maxRecDepth 20000 in
theorem gX4_leader_X3_heaviest : GoodIn wsX4_leader (wsV RX4 141 RX3 yX3_heaviest wsX3_heaviest) := goodIn_app (goodIn_of _ (by decide +kernel)) ggX4_leader_X3_heaviest
theorem dX4_leader_0 : decode cX4_leader 0 = .ok (.aload_n 0, 1) := by decide +kernel
theorem dX4_leader_1 : decode cX4_leader 1 = .ok (.getfield 27, 3) := by decide +kernel
theorem dX4_leader_4 : decode cX4_leader 4 = .ok (.invokevirtual 141, 3) := by decide +kernel
theorem dX4_leader_7 : decode cX4_leader 7 = .ok (.ireturn, 1) := by decide +kernel
set_option maxRecDepth 20000 in
theorem ggX4_collisions_X4_requireModel : GoodIn wsX4_collisions wsX4_requireModel := goodIn_ca (goodIn_r _ [6, 7, 8, 9, 10, 11, 22, 23, 24, 25, 26, 27, 28, 29, 30, 31, 32, 33] (by decide +kernel) (by decide +kernel)) (goodIn_sub (fun _ h => List.mem_cons_of_mem _ (List.mem_append_right _ h)) (by decide +kernel))
set_option maxRecDepth 20000 in
theorem gX4_collisions_X4_requireModel : GoodIn wsX4_collisions (wsV RX4 68 RX4 yX4_requireModel wsX4_requireModel) := goodIn_app (goodIn_of _ (by decide +kernel)) ggX4_collisions_X4_requireModel
theorem dX4_collisions_0 : decode cX4_collisions 0 = .ok (.aload_n 0, 1) := by decide +kernel
theorem dX4_collisions_1 : decode cX4_collisions 1 = .ok (.iload_n 1, 1) := by decide +kernel
theorem dX4_collisions_2 : decode cX4_collisions 2 = .ok (.invokevirtual 68, 3) := by decide +kernel
theorem dX4_collisions_5 : decode cX4_collisions 5 = .ok (.getfield 144, 3) := by decide +kernel
theorem dX4_collisions_8 : decode cX4_collisions 8 = .ok (.ireturn, 1) := by decide +kernel
theorem dX4_history_0 : decode cX4_history 0 = .ok (.iload_n 1, 1) := by decide +kernel
theorem dX4_history_1 : decode cX4_history 1 = .ok (.ifCond .lt 8, 3) := by decide +kernel
theorem dX4_history_4 : decode cX4_history 4 = .ok (.iload_n 1, 1) := by decide +kernel
theorem dX4_history_5 : decode cX4_history 5 = .ok (.iconst 3, 1) := by decide +kernel
theorem dX4_history_6 : decode cX4_history 6 = .ok (.if_icmp .lt 13, 3) := by decide +kernel
theorem dX4_history_9 : decode cX4_history 9 = .ok (.new 127, 3) := by decide +kernel
theorem dX4_history_12 : decode cX4_history 12 = .ok (.dup, 1) := by decide +kernel
theorem dX4_history_13 : decode cX4_history 13 = .ok (.ldc 147, 2) := by decide +kernel
theorem dX4_history_15 : decode cX4_history 15 = .ok (.invokespecial 131, 3) := by decide +kernel
theorem dX4_history_18 : decode cX4_history 18 = .ok (.athrow, 1) := by decide +kernel
theorem dX4_history_19 : decode cX4_history 19 = .ok (.aload_n 0, 1) := by decide +kernel
theorem dX4_history_20 : decode cX4_history 20 = .ok (.getfield 27, 3) := by decide +kernel
theorem dX4_history_23 : decode cX4_history 23 = .ok (.getfield 149, 3) := by decide +kernel
theorem dX4_history_26 : decode cX4_history 26 = .ok (.iload_n 1, 1) := by decide +kernel
theorem dX4_history_27 : decode cX4_history 27 = .ok (.iaload, 1) := by decide +kernel
theorem dX4_history_28 : decode cX4_history 28 = .ok (.ireturn, 1) := by decide +kernel
theorem dX4_node_0 : decode cX4_node 0 = .ok (.aload_n 0, 1) := by decide +kernel
theorem dX4_node_1 : decode cX4_node 1 = .ok (.getfield 27, 3) := by decide +kernel
theorem dX4_node_4 : decode cX4_node 4 = .ok (.getfield 152, 3) := by decide +kernel
