theorem dX0_init_0 : decode cX0_init 0 = .ok (.aload_n 0, 1) := by decide +kernel
theorem dX0_init_1 : decode cX0_init 1 = .ok (.invokespecial 1, 3) := by decide +kernel
theorem dX0_init_4 : decode cX0_init 4 = .ok (.aload_n 0, 1) := by decide +kernel
theorem dX0_init_5 : decode cX0_init 5 = .ok (.bipush 24, 2) := by decide +kernel
theorem dX0_init_7 : decode cX0_init 7 = .ok (.newarray .int, 2) := by decide +kernel
theorem dX0_init_9 : decode cX0_init 9 = .ok (.putfield 9, 3) := by decide +kernel
theorem dX0_init_12 : decode cX0_init 12 = .ok (.return_, 1) := by decide +kernel
theorem dX0_columnOf_0 : decode cX0_columnOf 0 = .ok (.getstatic 13, 3) := by decide +kernel
theorem dX0_columnOf_3 : decode cX0_columnOf 3 = .ok (.iload_n 0, 1) := by decide +kernel
theorem dX0_columnOf_4 : decode cX0_columnOf 4 = .ok (.iaload, 1) := by decide +kernel
theorem dX0_columnOf_5 : decode cX0_columnOf 5 = .ok (.iload_n 1, 1) := by decide +kernel
theorem dX0_columnOf_6 : decode cX0_columnOf 6 = .ok (.imul, 1) := by decide +kernel
theorem dX0_columnOf_7 : decode cX0_columnOf 7 = .ok (.getstatic 16, 3) := by decide +kernel
theorem dX0_columnOf_10 : decode cX0_columnOf 10 = .ok (.iload_n 0, 1) := by decide +kernel
theorem dX0_columnOf_11 : decode cX0_columnOf 11 = .ok (.iaload, 1) := by decide +kernel
theorem dX0_columnOf_12 : decode cX0_columnOf 12 = .ok (.iadd, 1) := by decide +kernel
theorem dX0_columnOf_13 : decode cX0_columnOf 13 = .ok (.bipush 61, 2) := by decide +kernel
theorem dX0_columnOf_15 : decode cX0_columnOf 15 = .ok (.irem, 1) := by decide +kernel
theorem dX0_columnOf_16 : decode cX0_columnOf 16 = .ok (.bipush 8, 2) := by decide +kernel
theorem dX0_columnOf_18 : decode cX0_columnOf 18 = .ok (.irem, 1) := by decide +kernel
theorem dX0_columnOf_19 : decode cX0_columnOf 19 = .ok (.ireturn, 1) := by decide +kernel
set_option maxRecDepth 20000 in
theorem ggX0_placeOf_X0_columnOf : GoodIn wsX0_placeOf wsX0_columnOf := goodIn_r _ [4, 5, 6] (by decide +kernel) (by decide +kernel)
set_option maxRecDepth 20000 in
theorem gX0_placeOf_X0_columnOf : GoodIn wsX0_placeOf (va_wsS RX0 19 yX0_columnOf wsX0_columnOf) := goodIn_app (goodIn_of _ (by decide +kernel)) ggX0_placeOf_X0_columnOf
theorem dX0_placeOf_0 : decode cX0_placeOf 0 = .ok (.iload_n 0, 1) := by decide +kernel
theorem dX0_placeOf_1 : decode cX0_placeOf 1 = .ok (.bipush 8, 2) := by decide +kernel
theorem dX0_placeOf_3 : decode cX0_placeOf 3 = .ok (.imul, 1) := by decide +kernel
theorem dX0_placeOf_4 : decode cX0_placeOf 4 = .ok (.iload_n 0, 1) := by decide +kernel
theorem dX0_placeOf_5 : decode cX0_placeOf 5 = .ok (.iload_n 1, 1) := by decide +kernel
theorem dX0_placeOf_6 : decode cX0_placeOf 6 = .ok (.invokestatic 19, 3) := by decide +kernel
theorem dX0_placeOf_9 : decode cX0_placeOf 9 = .ok (.iadd, 1) := by decide +kernel
theorem dX0_placeOf_10 : decode cX0_placeOf 10 = .ok (.ireturn, 1) := by decide +kernel
theorem dX0_cellAt_0 : decode cX0_cellAt 0 = .ok (.aload_n 0, 1) := by decide +kernel
theorem dX0_cellAt_1 : decode cX0_cellAt 1 = .ok (.getfield 9, 3) := by decide +kernel
theorem dX0_cellAt_4 : decode cX0_cellAt 4 = .ok (.iload_n 1, 1) := by decide +kernel
theorem dX0_cellAt_5 : decode cX0_cellAt 5 = .ok (.bipush 8, 2) := by decide +kernel
theorem dX0_cellAt_7 : decode cX0_cellAt 7 = .ok (.imul, 1) := by decide +kernel
theorem dX0_cellAt_8 : decode cX0_cellAt 8 = .ok (.iload_n 2, 1) := by decide +kernel
theorem dX0_cellAt_9 : decode cX0_cellAt 9 = .ok (.iadd, 1) := by decide +kernel
theorem dX0_cellAt_10 : decode cX0_cellAt 10 = .ok (.iaload, 1) := by decide +kernel
theorem dX0_cellAt_11 : decode cX0_cellAt 11 = .ok (.ireturn, 1) := by decide +kernel
set_option maxRecDepth 20000 in
theorem ggX0_leastOf_X0_placeOf : GoodIn wsX0_leastOf wsX0_placeOf := goodIn_r _ [9, 10, 11, 8, 12, 13, 14] (by decide +kernel) (by decide +kernel)
set_option maxRecDepth 20000 in
theorem gX0_leastOf_X0_placeOf : GoodIn wsX0_leastOf (va_wsS RX0 23 yX0_placeOf wsX0_placeOf) := goodIn_app (goodIn_of _ (by decide +kernel)) ggX0_leastOf_X0_placeOf
theorem dX0_leastOf_0 : decode cX0_leastOf 0 = .ok (.aload_n 0, 1) := by decide +kernel
theorem dX0_leastOf_1 : decode cX0_leastOf 1 = .ok (.getfield 9, 3) := by decide +kernel
theorem dX0_leastOf_4 : decode cX0_leastOf 4 = .ok (.iconst 0, 1) := by decide +kernel
theorem dX0_leastOf_5 : decode cX0_leastOf 5 = .ok (.iload_n 1, 1) := by decide +kernel
theorem dX0_leastOf_6 : decode cX0_leastOf 6 = .ok (.invokestatic 23, 3) := by decide +kernel
theorem dX0_leastOf_9 : decode cX0_leastOf 9 = .ok (.iaload, 1) := by decide +kernel
theorem dX0_leastOf_10 : decode cX0_leastOf 10 = .ok (.istore_n 2, 1) := by decide +kernel
theorem dX0_leastOf_11 : decode cX0_leastOf 11 = .ok (.iconst 1, 1) := by decide +kernel
theorem dX0_leastOf_12 : decode cX0_leastOf 12 = .ok (.istore_n 3, 1) := by decide +kernel
theorem dX0_leastOf_13 : decode cX0_leastOf 13 = .ok (.iload_n 3, 1) := by decide +kernel
theorem dX0_leastOf_14 : decode cX0_leastOf 14 = .ok (.iconst 3, 1) := by decide +kernel
theorem dX0_leastOf_15 : decode cX0_leastOf 15 = .ok (.if_icmp .ge 24, 3) := by decide +kernel
theorem dX0_leastOf_18 : decode cX0_leastOf 18 = .ok (.iload_n 2, 1) := by decide +kernel
theorem dX0_leastOf_19 : decode cX0_leastOf 19 = .ok (.aload_n 0, 1) := by decide +kernel
theorem dX0_leastOf_20 : decode cX0_leastOf 20 = .ok (.getfield 9, 3) := by decide +kernel
theorem dX0_leastOf_23 : decode cX0_leastOf 23 = .ok (.iload_n 3, 1) := by decide +kernel
theorem dX0_leastOf_24 : decode cX0_leastOf 24 = .ok (.iload_n 1, 1) := by decide +kernel
theorem dX0_leastOf_25 : decode cX0_leastOf 25 = .ok (.invokestatic 23, 3) := by decide +kernel
theorem dX0_leastOf_28 : decode cX0_leastOf 28 = .ok (.iaload, 1) := by decide +kernel
theorem dX0_leastOf_29 : decode cX0_leastOf 29 = .ok (.invokestatic 26, 3) := by decide +kernel
theorem dX0_leastOf_32 : decode cX0_leastOf 32 = .ok (.istore_n 2, 1) := by decide +kernel
theorem dX0_leastOf_33 : decode cX0_leastOf 33 = .ok (.iinc 3 1, 3) := by decide +kernel
theorem dX0_leastOf_36 : decode cX0_leastOf 36 = .ok (.goto (-23), 3) := by decide +kernel
theorem dX0_leastOf_39 : decode cX0_leastOf 39 = .ok (.iload_n 2, 1) := by decide +kernel
theorem dX0_leastOf_40 : decode cX0_leastOf 40 = .ok (.ireturn, 1) := by decide +kernel
set_option maxRecDepth 20000 in
theorem ggX0_put_X0_leastOf : GoodIn wsX0_put wsX0_leastOf := goodIn_r _ [10, 1, 11, 12, 4, 13, 14, 15, 9, 16, 17, 18, 19, 20, 21, 22] (by decide +kernel) (by decide +kernel)
set_option maxRecDepth 20000 in
theorem gX0_put_X0_leastOf : GoodIn wsX0_put (wsV RX0 31 RX0 yX0_leastOf wsX0_leastOf) := goodIn_app (goodIn_of _ (by decide +kernel)) ggX0_put_X0_leastOf
set_option maxRecDepth 20000 in
theorem ggX0_put_X0_placeOf : GoodIn wsX0_put wsX0_placeOf := goodIn_r _ [16, 17, 18, 9, 19, 20, 21] (by decide +kernel) (by decide +kernel)
set_option maxRecDepth 20000 in
theorem gX0_put_X0_placeOf : GoodIn wsX0_put (va_wsS RX0 23 yX0_placeOf wsX0_placeOf) := goodIn_app (goodIn_of _ (by decide +kernel)) ggX0_put_X0_placeOf
theorem dX0_put_0 : decode cX0_put 0 = .ok (.aload_n 0, 1) := by decide +kernel
theorem dX0_put_1 : decode cX0_put 1 = .ok (.iload_n 1, 1) := by decide +kernel
theorem dX0_put_2 : decode cX0_put 2 = .ok (.invokevirtual 31, 3) := by decide +kernel
theorem dX0_put_5 : decode cX0_put 5 = .ok (.iload_n 2, 1) := by decide +kernel
theorem dX0_put_6 : decode cX0_put 6 = .ok (.iadd, 1) := by decide +kernel
theorem dX0_put_7 : decode cX0_put 7 = .ok (.istore_n 3, 1) := by decide +kernel
theorem dX0_put_8 : decode cX0_put 8 = .ok (.iconst 0, 1) := by decide +kernel
theorem dX0_put_9 : decode cX0_put 9 = .ok (.istore 4, 2) := by decide +kernel
theorem dX0_put_11 : decode cX0_put 11 = .ok (.iload 4, 2) := by decide +kernel
theorem dX0_put_13 : decode cX0_put 13 = .ok (.iconst 3, 1) := by decide +kernel
theorem dX0_put_14 : decode cX0_put 14 = .ok (.if_icmp .ge 35, 3) := by decide +kernel
theorem dX0_put_17 : decode cX0_put 17 = .ok (.iload 4, 2) := by decide +kernel
theorem dX0_put_19 : decode cX0_put 19 = .ok (.iload_n 1, 1) := by decide +kernel
theorem dX0_put_20 : decode cX0_put 20 = .ok (.invokestatic 23, 3) := by decide +kernel
theorem dX0_put_23 : decode cX0_put 23 = .ok (.istore 5, 2) := by decide +kernel
theorem dX0_put_25 : decode cX0_put 25 = .ok (.aload_n 0, 1) := by decide +kernel
theorem dX0_put_26 : decode cX0_put 26 = .ok (.getfield 9, 3) := by decide +kernel
theorem dX0_put_29 : decode cX0_put 29 = .ok (.iload 5, 2) := by decide +kernel
theorem dX0_put_31 : decode cX0_put 31 = .ok (.aload_n 0, 1) := by decide +kernel
theorem dX0_put_32 : decode cX0_put 32 = .ok (.getfield 9, 3) := by decide +kernel
theorem dX0_put_35 : decode cX0_put 35 = .ok (.iload 5, 2) := by decide +kernel
theorem dX0_put_37 : decode cX0_put 37 = .ok (.iaload, 1) := by decide +kernel
theorem dX0_put_38 : decode cX0_put 38 = .ok (.iload_n 3, 1) := by decide +kernel
theorem dX0_put_39 : decode cX0_put 39 = .ok (.invokestatic 35, 3) := by decide +kernel
theorem dX0_put_42 : decode cX0_put 42 = .ok (.iastore, 1) := by decide +kernel
theorem dX0_put_43 : decode cX0_put 43 = .ok (.iinc 4 1, 3) := by decide +kernel
theorem dX0_put_46 : decode cX0_put 46 = .ok (.goto (-35), 3) := by decide +kernel
theorem dX0_put_49 : decode cX0_put 49 = .ok (.return_, 1) := by decide +kernel
theorem dX0_join_0 : decode cX0_join 0 = .ok (.iconst 0, 1) := by decide +kernel
theorem dX0_join_1 : decode cX0_join 1 = .ok (.istore_n 2, 1) := by decide +kernel
theorem dX0_join_2 : decode cX0_join 2 = .ok (.iload_n 2, 1) := by decide +kernel
theorem dX0_join_3 : decode cX0_join 3 = .ok (.aload_n 0, 1) := by decide +kernel
theorem dX0_join_4 : decode cX0_join 4 = .ok (.getfield 9, 3) := by decide +kernel
theorem dX0_join_7 : decode cX0_join 7 = .ok (.arraylength, 1) := by decide +kernel
theorem dX0_join_8 : decode cX0_join 8 = .ok (.if_icmp .ge 24, 3) := by decide +kernel
theorem dX0_join_11 : decode cX0_join 11 = .ok (.aload_n 0, 1) := by decide +kernel
theorem dX0_join_12 : decode cX0_join 12 = .ok (.getfield 9, 3) := by decide +kernel
theorem dX0_join_15 : decode cX0_join 15 = .ok (.iload_n 2, 1) := by decide +kernel
theorem dX0_join_16 : decode cX0_join 16 = .ok (.dup2, 1) := by decide +kernel
theorem dX0_join_17 : decode cX0_join 17 = .ok (.iaload, 1) := by decide +kernel
theorem dX0_join_18 : decode cX0_join 18 = .ok (.aload_n 1, 1) := by decide +kernel
theorem dX0_join_19 : decode cX0_join 19 = .ok (.getfield 9, 3) := by decide +kernel
theorem dX0_join_22 : decode cX0_join 22 = .ok (.iload_n 2, 1) := by decide +kernel
theorem dX0_join_23 : decode cX0_join 23 = .ok (.iaload, 1) := by decide +kernel
theorem dX0_join_24 : decode cX0_join 24 = .ok (.iadd, 1) := by decide +kernel
theorem dX0_join_25 : decode cX0_join 25 = .ok (.iastore, 1) := by decide +kernel
theorem dX0_join_26 : decode cX0_join 26 = .ok (.iinc 2 1, 3) := by decide +kernel
theorem dX0_join_29 : decode cX0_join 29 = .ok (.goto (-27), 3) := by decide +kernel
theorem dX0_join_32 : decode cX0_join 32 = .ok (.return_, 1) := by decide +kernel
set_option maxRecDepth 20000 in
theorem ggX0_empty_J7_fill_53178 : GoodIn wsX0_empty wsJ7_fill_53178 := goodIn_r _ [5] (by decide +kernel) (by decide +kernel)
set_option maxRecDepth 20000 in
theorem gX0_empty_J7_fill_53178 : GoodIn wsX0_empty (va_wsS RX0 38 yJ7_fill_53178 wsJ7_fill_53178) := goodIn_app (goodIn_of _ (by decide +kernel)) ggX0_empty_J7_fill_53178
theorem dX0_empty_0 : decode cX0_empty 0 = .ok (.aload_n 0, 1) := by decide +kernel
theorem dX0_empty_1 : decode cX0_empty 1 = .ok (.getfield 9, 3) := by decide +kernel
theorem dX0_empty_4 : decode cX0_empty 4 = .ok (.iconst 0, 1) := by decide +kernel
theorem dX0_empty_5 : decode cX0_empty 5 = .ok (.invokestatic 38, 3) := by decide +kernel
theorem dX0_empty_8 : decode cX0_empty 8 = .ok (.return_, 1) := by decide +kernel
theorem dX1_init_0 : decode cX1_init 0 = .ok (.aload_n 0, 1) := by decide +kernel
theorem dX1_init_1 : decode cX1_init 1 = .ok (.invokespecial 3, 3) := by decide +kernel
theorem dX1_init_4 : decode cX1_init 4 = .ok (.aload_n 0, 1) := by decide +kernel
theorem dX1_init_5 : decode cX1_init 5 = .ok (.bipush 8, 2) := by decide +kernel
theorem dX1_init_7 : decode cX1_init 7 = .ok (.newarray .int, 2) := by decide +kernel
theorem dX1_init_9 : decode cX1_init 9 = .ok (.putfield 11, 3) := by decide +kernel
theorem dX1_init_12 : decode cX1_init 12 = .ok (.aload_n 0, 1) := by decide +kernel
theorem dX1_init_13 : decode cX1_init 13 = .ok (.bipush 8, 2) := by decide +kernel
theorem dX1_init_15 : decode cX1_init 15 = .ok (.newarray .int, 2) := by decide +kernel
theorem dX1_init_17 : decode cX1_init 17 = .ok (.putfield 15, 3) := by decide +kernel
theorem dX1_init_20 : decode cX1_init 20 = .ok (.return_, 1) := by decide +kernel
set_option maxRecDepth 20000 in
theorem ggX1_weightOf_X1_placeOf : GoodIn wsX1_weightOf wsX1_placeOf := goodIn_r _ [6, 7, 8, 9, 10, 11, 12] (by decide +kernel) (by decide +kernel)
set_option maxRecDepth 20000 in
theorem gX1_weightOf_X1_placeOf : GoodIn wsX1_weightOf (wsV RX1 18 RX1 yX1_placeOf wsX1_placeOf) := goodIn_app (goodIn_of _ (by decide +kernel)) ggX1_weightOf_X1_placeOf
theorem dX1_weightOf_0 : decode cX1_weightOf 0 = .ok (.aload_n 0, 1) := by decide +kernel
theorem dX1_weightOf_1 : decode cX1_weightOf 1 = .ok (.iload_n 1, 1) := by decide +kernel
theorem dX1_weightOf_2 : decode cX1_weightOf 2 = .ok (.invokevirtual 18, 3) := by decide +kernel
theorem dX1_weightOf_5 : decode cX1_weightOf 5 = .ok (.istore_n 2, 1) := by decide +kernel
theorem dX1_weightOf_6 : decode cX1_weightOf 6 = .ok (.iload_n 2, 1) := by decide +kernel
theorem dX1_weightOf_7 : decode cX1_weightOf 7 = .ok (.iconst (-1), 1) := by decide +kernel
theorem dX1_weightOf_8 : decode cX1_weightOf 8 = .ok (.if_icmp .ne 7, 3) := by decide +kernel
theorem dX1_weightOf_11 : decode cX1_weightOf 11 = .ok (.iconst 0, 1) := by decide +kernel
theorem dX1_weightOf_12 : decode cX1_weightOf 12 = .ok (.goto 9, 3) := by decide +kernel
theorem dX1_weightOf_15 : decode cX1_weightOf 15 = .ok (.aload_n 0, 1) := by decide +kernel
theorem dX1_weightOf_16 : decode cX1_weightOf 16 = .ok (.getfield 15, 3) := by decide +kernel
theorem dX1_weightOf_19 : decode cX1_weightOf 19 = .ok (.iload_n 2, 1) := by decide +kernel
theorem dX1_weightOf_20 : decode cX1_weightOf 20 = .ok (.iaload, 1) := by decide +kernel
theorem dX1_weightOf_21 : decode cX1_weightOf 21 = .ok (.ireturn, 1) := by decide +kernel
set_option maxRecDepth 20000 in
theorem ggX1_put_X1_placeOf : GoodIn wsX1_put wsX1_placeOf := goodIn_r _ [10, 1, 11, 26, 27, 28, 29] (by decide +kernel) (by decide +kernel)
set_option maxRecDepth 20000 in
theorem gX1_put_X1_placeOf : GoodIn wsX1_put (wsV RX1 18 RX1 yX1_placeOf wsX1_placeOf) := goodIn_app (goodIn_of _ (by decide +kernel)) ggX1_put_X1_placeOf
set_option maxRecDepth 20000 in
theorem ggX1_put_X1_grow : GoodIn wsX1_put wsX1_grow := goodIn_r _ [15, 16, 1, 11, 6, 7, 8, 9, 10, 26, 27, 28, 29] (by decide +kernel) (by decide +kernel)
set_option maxRecDepth 20000 in
theorem gX1_put_X1_grow : GoodIn wsX1_put (wsV RX1 26 RX1 yX1_grow wsX1_grow) := goodIn_app (goodIn_of _ (by decide +kernel)) ggX1_put_X1_grow
set_option maxRecDepth 20000 in
theorem ggX1_put_X1_leastWeight : GoodIn wsX1_put wsX1_leastWeight := goodIn_r _ [20, 16, 1, 2, 3, 4, 5, 26, 27, 28, 29] (by decide +kernel) (by decide +kernel)
set_option maxRecDepth 20000 in
theorem gX1_put_X1_leastWeight : GoodIn wsX1_put (wsV RX1 30 RX1 yX1_leastWeight wsX1_leastWeight) := goodIn_app (goodIn_of _ (by decide +kernel)) ggX1_put_X1_leastWeight
set_option maxRecDepth 20000 in
theorem ggX1_put_X1_takeAway : GoodIn wsX1_put wsX1_takeAway := goodIn_r _ [24, 1, 16, 11, 25, 26, 27, 28, 29] (by decide +kernel) (by decide +kernel)
set_option maxRecDepth 20000 in
theorem gX1_put_X1_takeAway : GoodIn wsX1_put (wsV RX1 40 RX1 yX1_takeAway wsX1_takeAway) := goodIn_app (goodIn_of _ (by decide +kernel)) ggX1_put_X1_takeAway
theorem dX1_put_0 : decode cX1_put 0 = .ok (.aload_n 0, 1) := by decide +kernel
theorem dX1_put_1 : decode cX1_put 1 = .ok (.iload_n 1, 1) := by decide +kernel
theorem dX1_put_2 : decode cX1_put 2 = .ok (.invokevirtual 18, 3) := by decide +kernel
theorem dX1_put_5 : decode cX1_put 5 = .ok (.iconst (-1), 1) := by decide +kernel
theorem dX1_put_6 : decode cX1_put 6 = .ok (.if_icmp .ne 11, 3) := by decide +kernel
theorem dX1_put_9 : decode cX1_put 9 = .ok (.aload_n 0, 1) := by decide +kernel
theorem dX1_put_10 : decode cX1_put 10 = .ok (.getfield 22, 3) := by decide +kernel
theorem dX1_put_13 : decode cX1_put 13 = .ok (.iconst 4, 1) := by decide +kernel
theorem dX1_put_14 : decode cX1_put 14 = .ok (.if_icmp .ge 10, 3) := by decide +kernel
theorem dX1_put_17 : decode cX1_put 17 = .ok (.aload_n 0, 1) := by decide +kernel
theorem dX1_put_18 : decode cX1_put 18 = .ok (.iload_n 1, 1) := by decide +kernel
theorem dX1_put_19 : decode cX1_put 19 = .ok (.iload_n 2, 1) := by decide +kernel
theorem dX1_put_20 : decode cX1_put 20 = .ok (.invokevirtual 26, 3) := by decide +kernel
theorem dX1_put_23 : decode cX1_put 23 = .ok (.return_, 1) := by decide +kernel
theorem dX1_put_24 : decode cX1_put 24 = .ok (.iload_n 2, 1) := by decide +kernel
theorem dX1_put_25 : decode cX1_put 25 = .ok (.aload_n 0, 1) := by decide +kernel
theorem dX1_put_26 : decode cX1_put 26 = .ok (.invokevirtual 30, 3) := by decide +kernel
theorem dX1_put_29 : decode cX1_put 29 = .ok (.invokestatic 34, 3) := by decide +kernel
theorem dX1_put_32 : decode cX1_put 32 = .ok (.istore_n 3, 1) := by decide +kernel
theorem dX1_put_33 : decode cX1_put 33 = .ok (.aload_n 0, 1) := by decide +kernel
theorem dX1_put_34 : decode cX1_put 34 = .ok (.iload_n 3, 1) := by decide +kernel
theorem dX1_put_35 : decode cX1_put 35 = .ok (.invokevirtual 40, 3) := by decide +kernel
theorem dX1_put_38 : decode cX1_put 38 = .ok (.iload_n 2, 1) := by decide +kernel
theorem dX1_put_39 : decode cX1_put 39 = .ok (.iload_n 3, 1) := by decide +kernel
theorem dX1_put_40 : decode cX1_put 40 = .ok (.if_icmp .le 11, 3) := by decide +kernel
theorem dX1_put_43 : decode cX1_put 43 = .ok (.aload_n 0, 1) := by decide +kernel
theorem dX1_put_44 : decode cX1_put 44 = .ok (.iload_n 1, 1) := by decide +kernel
theorem dX1_put_45 : decode cX1_put 45 = .ok (.iload_n 2, 1) := by decide +kernel
theorem dX1_put_46 : decode cX1_put 46 = .ok (.iload_n 3, 1) := by decide +kernel
theorem dX1_put_47 : decode cX1_put 47 = .ok (.isub, 1) := by decide +kernel
theorem dX1_put_48 : decode cX1_put 48 = .ok (.invokevirtual 26, 3) := by decide +kernel
theorem dX1_put_51 : decode cX1_put 51 = .ok (.return_, 1) := by decide +kernel
set_option maxRecDepth 20000 in
theorem ggX1_join_X1_grow : GoodIn wsX1_join wsX1_grow := goodIn_r _ [9, 3, 1, 2, 10, 11, 12, 8, 13, 26, 27, 28, 29] (by decide +kernel) (by decide +kernel)
set_option maxRecDepth 20000 in
theorem gX1_join_X1_grow : GoodIn wsX1_join (wsV RX1 26 RX1 yX1_grow wsX1_grow) := goodIn_app (goodIn_of _ (by decide +kernel)) ggX1_join_X1_grow
set_option maxRecDepth 20000 in
theorem ggX1_join_X1_weightReachedBy : GoodIn wsX1_join wsX1_weightReachedBy := goodIn_r _ [17, 1, 3, 18, 19, 20, 8, 21, 26, 27, 28, 29] (by decide +kernel) (by decide +kernel)
set_option maxRecDepth 20000 in
theorem gX1_join_X1_weightReachedBy : GoodIn wsX1_join (wsV RX1 47 RX1 yX1_weightReachedBy wsX1_weightReachedBy) := goodIn_app (goodIn_of _ (by decide +kernel)) ggX1_join_X1_weightReachedBy
set_option maxRecDepth 20000 in
theorem ggX1_join_X1_takeAway : GoodIn wsX1_join wsX1_takeAway := goodIn_r _ [25, 1, 3, 2, 4, 26, 27, 28, 29] (by decide +kernel) (by decide +kernel)
set_option maxRecDepth 20000 in
theorem gX1_join_X1_takeAway : GoodIn wsX1_join (wsV RX1 40 RX1 yX1_takeAway wsX1_takeAway) := goodIn_app (goodIn_of _ (by decide +kernel)) ggX1_join_X1_takeAway
theorem dX1_join_0 : decode cX1_join 0 = .ok (.iconst 0, 1) := by decide +kernel
theorem dX1_join_1 : decode cX1_join 1 = .ok (.istore_n 2, 1) := by decide +kernel
theorem dX1_join_2 : decode cX1_join 2 = .ok (.iload_n 2, 1) := by decide +kernel
theorem dX1_join_3 : decode cX1_join 3 = .ok (.aload_n 1, 1) := by decide +kernel
theorem dX1_join_4 : decode cX1_join 4 = .ok (.getfield 22, 3) := by decide +kernel
theorem dX1_join_7 : decode cX1_join 7 = .ok (.if_icmp .ge 25, 3) := by decide +kernel
theorem dX1_join_10 : decode cX1_join 10 = .ok (.aload_n 0, 1) := by decide +kernel
theorem dX1_join_11 : decode cX1_join 11 = .ok (.aload_n 1, 1) := by decide +kernel
theorem dX1_join_12 : decode cX1_join 12 = .ok (.getfield 11, 3) := by decide +kernel
theorem dX1_join_15 : decode cX1_join 15 = .ok (.iload_n 2, 1) := by decide +kernel
theorem dX1_join_16 : decode cX1_join 16 = .ok (.iaload, 1) := by decide +kernel
theorem dX1_join_17 : decode cX1_join 17 = .ok (.aload_n 1, 1) := by decide +kernel
theorem dX1_join_18 : decode cX1_join 18 = .ok (.getfield 15, 3) := by decide +kernel
theorem dX1_join_21 : decode cX1_join 21 = .ok (.iload_n 2, 1) := by decide +kernel
theorem dX1_join_22 : decode cX1_join 22 = .ok (.iaload, 1) := by decide +kernel
theorem dX1_join_23 : decode cX1_join 23 = .ok (.invokevirtual 26, 3) := by decide +kernel
theorem dX1_join_26 : decode cX1_join 26 = .ok (.iinc 2 1, 3) := by decide +kernel
theorem dX1_join_29 : decode cX1_join 29 = .ok (.goto (-27), 3) := by decide +kernel
theorem dX1_join_32 : decode cX1_join 32 = .ok (.aload_n 0, 1) := by decide +kernel
theorem dX1_join_33 : decode cX1_join 33 = .ok (.dup, 1) := by decide +kernel
theorem dX1_join_34 : decode cX1_join 34 = .ok (.getfield 44, 3) := by decide +kernel
theorem dX1_join_37 : decode cX1_join 37 = .ok (.aload_n 1, 1) := by decide +kernel
theorem dX1_join_38 : decode cX1_join 38 = .ok (.getfield 44, 3) := by decide +kernel
theorem dX1_join_41 : decode cX1_join 41 = .ok (.iadd, 1) := by decide +kernel
theorem dX1_join_42 : decode cX1_join 42 = .ok (.putfield 44, 3) := by decide +kernel
theorem dX1_join_45 : decode cX1_join 45 = .ok (.aload_n 0, 1) := by decide +kernel
theorem dX1_join_46 : decode cX1_join 46 = .ok (.getfield 22, 3) := by decide +kernel
theorem dX1_join_49 : decode cX1_join 49 = .ok (.iconst 4, 1) := by decide +kernel
theorem dX1_join_50 : decode cX1_join 50 = .ok (.if_icmp .le 12, 3) := by decide +kernel
theorem dX1_join_53 : decode cX1_join 53 = .ok (.aload_n 0, 1) := by decide +kernel
theorem dX1_join_54 : decode cX1_join 54 = .ok (.aload_n 0, 1) := by decide +kernel
theorem dX1_join_55 : decode cX1_join 55 = .ok (.iconst 5, 1) := by decide +kernel
theorem dX1_join_56 : decode cX1_join 56 = .ok (.invokevirtual 47, 3) := by decide +kernel
theorem dX1_join_59 : decode cX1_join 59 = .ok (.invokevirtual 40, 3) := by decide +kernel
theorem dX1_join_62 : decode cX1_join 62 = .ok (.return_, 1) := by decide +kernel
theorem dX1_empty_0 : decode cX1_empty 0 = .ok (.aload_n 0, 1) := by decide +kernel
theorem dX1_empty_1 : decode cX1_empty 1 = .ok (.iconst 0, 1) := by decide +kernel
theorem dX1_empty_2 : decode cX1_empty 2 = .ok (.putfield 22, 3) := by decide +kernel
theorem dX1_empty_5 : decode cX1_empty 5 = .ok (.aload_n 0, 1) := by decide +kernel
theorem dX1_empty_6 : decode cX1_empty 6 = .ok (.iconst 0, 1) := by decide +kernel
theorem dX1_empty_7 : decode cX1_empty 7 = .ok (.putfield 44, 3) := by decide +kernel
theorem dX1_empty_10 : decode cX1_empty 10 = .ok (.return_, 1) := by decide +kernel
theorem dX1_placeOf_0 : decode cX1_placeOf 0 = .ok (.iconst 0, 1) := by decide +kernel
theorem dX1_placeOf_1 : decode cX1_placeOf 1 = .ok (.istore_n 2, 1) := by decide +kernel
theorem dX1_placeOf_2 : decode cX1_placeOf 2 = .ok (.iload_n 2, 1) := by decide +kernel
theorem dX1_placeOf_3 : decode cX1_placeOf 3 = .ok (.aload_n 0, 1) := by decide +kernel
theorem dX1_placeOf_4 : decode cX1_placeOf 4 = .ok (.getfield 22, 3) := by decide +kernel
theorem dX1_placeOf_7 : decode cX1_placeOf 7 = .ok (.if_icmp .ge 21, 3) := by decide +kernel
theorem dX1_placeOf_10 : decode cX1_placeOf 10 = .ok (.aload_n 0, 1) := by decide +kernel
theorem dX1_placeOf_11 : decode cX1_placeOf 11 = .ok (.getfield 11, 3) := by decide +kernel
theorem dX1_placeOf_14 : decode cX1_placeOf 14 = .ok (.iload_n 2, 1) := by decide +kernel
theorem dX1_placeOf_15 : decode cX1_placeOf 15 = .ok (.iaload, 1) := by decide +kernel
theorem dX1_placeOf_16 : decode cX1_placeOf 16 = .ok (.iload_n 1, 1) := by decide +kernel
theorem dX1_placeOf_17 : decode cX1_placeOf 17 = .ok (.if_icmp .ne 5, 3) := by decide +kernel
theorem dX1_placeOf_20 : decode cX1_placeOf 20 = .ok (.iload_n 2, 1) := by decide +kernel
theorem dX1_placeOf_21 : decode cX1_placeOf 21 = .ok (.ireturn, 1) := by decide +kernel
theorem dX1_placeOf_22 : decode cX1_placeOf 22 = .ok (.iinc 2 1, 3) := by decide +kernel
theorem dX1_placeOf_25 : decode cX1_placeOf 25 = .ok (.goto (-23), 3) := by decide +kernel
theorem dX1_placeOf_28 : decode cX1_placeOf 28 = .ok (.iconst (-1), 1) := by decide +kernel
theorem dX1_placeOf_29 : decode cX1_placeOf 29 = .ok (.ireturn, 1) := by decide +kernel
set_option maxRecDepth 20000 in
theorem ggX1_grow_X1_placeOf : GoodIn wsX1_grow wsX1_placeOf := goodIn_r _ [8, 2, 3, 9, 10, 11, 12] (by decide +kernel) (by decide +kernel)
set_option maxRecDepth 20000 in
theorem gX1_grow_X1_placeOf : GoodIn wsX1_grow (wsV RX1 18 RX1 yX1_placeOf wsX1_placeOf) := goodIn_app (goodIn_of _ (by decide +kernel)) ggX1_grow_X1_placeOf
theorem dX1_grow_0 : decode cX1_grow 0 = .ok (.aload_n 0, 1) := by decide +kernel
theorem dX1_grow_1 : decode cX1_grow 1 = .ok (.iload_n 1, 1) := by decide +kernel
theorem dX1_grow_2 : decode cX1_grow 2 = .ok (.invokevirtual 18, 3) := by decide +kernel
theorem dX1_grow_5 : decode cX1_grow 5 = .ok (.istore_n 3, 1) := by decide +kernel
theorem dX1_grow_6 : decode cX1_grow 6 = .ok (.iload_n 3, 1) := by decide +kernel
theorem dX1_grow_7 : decode cX1_grow 7 = .ok (.iconst (-1), 1) := by decide +kernel
theorem dX1_grow_8 : decode cX1_grow 8 = .ok (.if_icmp .eq 16, 3) := by decide +kernel
theorem dX1_grow_11 : decode cX1_grow 11 = .ok (.aload_n 0, 1) := by decide +kernel
theorem dX1_grow_12 : decode cX1_grow 12 = .ok (.getfield 15, 3) := by decide +kernel
theorem dX1_grow_15 : decode cX1_grow 15 = .ok (.iload_n 3, 1) := by decide +kernel
theorem dX1_grow_16 : decode cX1_grow 16 = .ok (.dup2, 1) := by decide +kernel
theorem dX1_grow_17 : decode cX1_grow 17 = .ok (.iaload, 1) := by decide +kernel
theorem dX1_grow_18 : decode cX1_grow 18 = .ok (.iload_n 2, 1) := by decide +kernel
theorem dX1_grow_19 : decode cX1_grow 19 = .ok (.iadd, 1) := by decide +kernel
theorem dX1_grow_20 : decode cX1_grow 20 = .ok (.iastore, 1) := by decide +kernel
theorem dX1_grow_21 : decode cX1_grow 21 = .ok (.goto 45, 3) := by decide +kernel
theorem dX1_grow_24 : decode cX1_grow 24 = .ok (.aload_n 0, 1) := by decide +kernel
theorem dX1_grow_25 : decode cX1_grow 25 = .ok (.getfield 22, 3) := by decide +kernel
theorem dX1_grow_28 : decode cX1_grow 28 = .ok (.aload_n 0, 1) := by decide +kernel
theorem dX1_grow_29 : decode cX1_grow 29 = .ok (.getfield 11, 3) := by decide +kernel
theorem dX1_grow_32 : decode cX1_grow 32 = .ok (.arraylength, 1) := by decide +kernel
theorem dX1_grow_33 : decode cX1_grow 33 = .ok (.if_icmp .ge 33, 3) := by decide +kernel
theorem dX1_grow_36 : decode cX1_grow 36 = .ok (.aload_n 0, 1) := by decide +kernel
theorem dX1_grow_37 : decode cX1_grow 37 = .ok (.getfield 11, 3) := by decide +kernel
theorem dX1_grow_40 : decode cX1_grow 40 = .ok (.aload_n 0, 1) := by decide +kernel
theorem dX1_grow_41 : decode cX1_grow 41 = .ok (.getfield 22, 3) := by decide +kernel
theorem dX1_grow_44 : decode cX1_grow 44 = .ok (.iload_n 1, 1) := by decide +kernel
theorem dX1_grow_45 : decode cX1_grow 45 = .ok (.iastore, 1) := by decide +kernel
theorem dX1_grow_46 : decode cX1_grow 46 = .ok (.aload_n 0, 1) := by decide +kernel
theorem dX1_grow_47 : decode cX1_grow 47 = .ok (.getfield 15, 3) := by decide +kernel
theorem dX1_grow_50 : decode cX1_grow 50 = .ok (.aload_n 0, 1) := by decide +kernel
theorem dX1_grow_51 : decode cX1_grow 51 = .ok (.getfield 22, 3) := by decide +kernel
theorem dX1_grow_54 : decode cX1_grow 54 = .ok (.iload_n 2, 1) := by decide +kernel
theorem dX1_grow_55 : decode cX1_grow 55 = .ok (.iastore, 1) := by decide +kernel
theorem dX1_grow_56 : decode cX1_grow 56 = .ok (.aload_n 0, 1) := by decide +kernel
theorem dX1_grow_57 : decode cX1_grow 57 = .ok (.dup, 1) := by decide +kernel
theorem dX1_grow_58 : decode cX1_grow 58 = .ok (.getfield 22, 3) := by decide +kernel
theorem dX1_grow_61 : decode cX1_grow 61 = .ok (.iconst 1, 1) := by decide +kernel
theorem dX1_grow_62 : decode cX1_grow 62 = .ok (.iadd, 1) := by decide +kernel
theorem dX1_grow_63 : decode cX1_grow 63 = .ok (.putfield 22, 3) := by decide +kernel
theorem dX1_grow_66 : decode cX1_grow 66 = .ok (.return_, 1) := by decide +kernel
theorem dX1_takeAway_0 : decode cX1_takeAway 0 = .ok (.iconst 0, 1) := by decide +kernel
theorem dX1_takeAway_1 : decode cX1_takeAway 1 = .ok (.istore_n 2, 1) := by decide +kernel
theorem dX1_takeAway_2 : decode cX1_takeAway 2 = .ok (.iconst 0, 1) := by decide +kernel
theorem dX1_takeAway_3 : decode cX1_takeAway 3 = .ok (.istore_n 3, 1) := by decide +kernel
theorem dX1_takeAway_4 : decode cX1_takeAway 4 = .ok (.iload_n 3, 1) := by decide +kernel
theorem dX1_takeAway_5 : decode cX1_takeAway 5 = .ok (.aload_n 0, 1) := by decide +kernel
theorem dX1_takeAway_6 : decode cX1_takeAway 6 = .ok (.getfield 22, 3) := by decide +kernel
theorem dX1_takeAway_9 : decode cX1_takeAway 9 = .ok (.if_icmp .ge 47, 3) := by decide +kernel
theorem dX1_takeAway_12 : decode cX1_takeAway 12 = .ok (.aload_n 0, 1) := by decide +kernel
theorem dX1_takeAway_13 : decode cX1_takeAway 13 = .ok (.getfield 15, 3) := by decide +kernel
theorem dX1_takeAway_16 : decode cX1_takeAway 16 = .ok (.iload_n 3, 1) := by decide +kernel
theorem dX1_takeAway_17 : decode cX1_takeAway 17 = .ok (.iaload, 1) := by decide +kernel
theorem dX1_takeAway_18 : decode cX1_takeAway 18 = .ok (.iload_n 1, 1) := by decide +kernel
theorem dX1_takeAway_19 : decode cX1_takeAway 19 = .ok (.isub, 1) := by decide +kernel
theorem dX1_takeAway_20 : decode cX1_takeAway 20 = .ok (.istore 4, 2) := by decide +kernel
theorem dX1_takeAway_22 : decode cX1_takeAway 22 = .ok (.iload 4, 2) := by decide +kernel
theorem dX1_takeAway_24 : decode cX1_takeAway 24 = .ok (.ifCond .le 26, 3) := by decide +kernel
theorem dX1_takeAway_27 : decode cX1_takeAway 27 = .ok (.aload_n 0, 1) := by decide +kernel
theorem dX1_takeAway_28 : decode cX1_takeAway 28 = .ok (.getfield 11, 3) := by decide +kernel
theorem dX1_takeAway_31 : decode cX1_takeAway 31 = .ok (.iload_n 2, 1) := by decide +kernel
theorem dX1_takeAway_32 : decode cX1_takeAway 32 = .ok (.aload_n 0, 1) := by decide +kernel
theorem dX1_takeAway_33 : decode cX1_takeAway 33 = .ok (.getfield 11, 3) := by decide +kernel
theorem dX1_takeAway_36 : decode cX1_takeAway 36 = .ok (.iload_n 3, 1) := by decide +kernel
theorem dX1_takeAway_37 : decode cX1_takeAway 37 = .ok (.iaload, 1) := by decide +kernel
theorem dX1_takeAway_38 : decode cX1_takeAway 38 = .ok (.iastore, 1) := by decide +kernel
theorem dX1_takeAway_39 : decode cX1_takeAway 39 = .ok (.aload_n 0, 1) := by decide +kernel
theorem dX1_takeAway_40 : decode cX1_takeAway 40 = .ok (.getfield 15, 3) := by decide +kernel
theorem dX1_takeAway_43 : decode cX1_takeAway 43 = .ok (.iload_n 2, 1) := by decide +kernel
theorem dX1_takeAway_44 : decode cX1_takeAway 44 = .ok (.iload 4, 2) := by decide +kernel
theorem dX1_takeAway_46 : decode cX1_takeAway 46 = .ok (.iastore, 1) := by decide +kernel
theorem dX1_takeAway_47 : decode cX1_takeAway 47 = .ok (.iinc 2 1, 3) := by decide +kernel
theorem dX1_takeAway_50 : decode cX1_takeAway 50 = .ok (.iinc 3 1, 3) := by decide +kernel
theorem dX1_takeAway_53 : decode cX1_takeAway 53 = .ok (.goto (-49), 3) := by decide +kernel
theorem dX1_takeAway_56 : decode cX1_takeAway 56 = .ok (.aload_n 0, 1) := by decide +kernel
theorem dX1_takeAway_57 : decode cX1_takeAway 57 = .ok (.iload_n 2, 1) := by decide +kernel
theorem dX1_takeAway_58 : decode cX1_takeAway 58 = .ok (.putfield 22, 3) := by decide +kernel
theorem dX1_takeAway_61 : decode cX1_takeAway 61 = .ok (.aload_n 0, 1) := by decide +kernel
theorem dX1_takeAway_62 : decode cX1_takeAway 62 = .ok (.dup, 1) := by decide +kernel
theorem dX1_takeAway_63 : decode cX1_takeAway 63 = .ok (.getfield 44, 3) := by decide +kernel
theorem dX1_takeAway_66 : decode cX1_takeAway 66 = .ok (.iload_n 1, 1) := by decide +kernel
theorem dX1_takeAway_67 : decode cX1_takeAway 67 = .ok (.iadd, 1) := by decide +kernel
theorem dX1_takeAway_68 : decode cX1_takeAway 68 = .ok (.putfield 44, 3) := by decide +kernel
theorem dX1_takeAway_71 : decode cX1_takeAway 71 = .ok (.return_, 1) := by decide +kernel
theorem dX1_leastWeight_0 : decode cX1_leastWeight 0 = .ok (.aload_n 0, 1) := by decide +kernel
theorem dX1_leastWeight_1 : decode cX1_leastWeight 1 = .ok (.getfield 15, 3) := by decide +kernel
theorem dX1_leastWeight_4 : decode cX1_leastWeight 4 = .ok (.iconst 0, 1) := by decide +kernel
theorem dX1_leastWeight_5 : decode cX1_leastWeight 5 = .ok (.iaload, 1) := by decide +kernel
theorem dX1_leastWeight_6 : decode cX1_leastWeight 6 = .ok (.istore_n 1, 1) := by decide +kernel
theorem dX1_leastWeight_7 : decode cX1_leastWeight 7 = .ok (.iconst 1, 1) := by decide +kernel
theorem dX1_leastWeight_8 : decode cX1_leastWeight 8 = .ok (.istore_n 2, 1) := by decide +kernel
theorem dX1_leastWeight_9 : decode cX1_leastWeight 9 = .ok (.iload_n 2, 1) := by decide +kernel
theorem dX1_leastWeight_10 : decode cX1_leastWeight 10 = .ok (.aload_n 0, 1) := by decide +kernel
theorem dX1_leastWeight_11 : decode cX1_leastWeight 11 = .ok (.getfield 22, 3) := by decide +kernel
theorem dX1_leastWeight_14 : decode cX1_leastWeight 14 = .ok (.if_icmp .ge 20, 3) := by decide +kernel
theorem dX1_leastWeight_17 : decode cX1_leastWeight 17 = .ok (.iload_n 1, 1) := by decide +kernel
theorem dX1_leastWeight_18 : decode cX1_leastWeight 18 = .ok (.aload_n 0, 1) := by decide +kernel
theorem dX1_leastWeight_19 : decode cX1_leastWeight 19 = .ok (.getfield 15, 3) := by decide +kernel
theorem dX1_leastWeight_22 : decode cX1_leastWeight 22 = .ok (.iload_n 2, 1) := by decide +kernel
theorem dX1_leastWeight_23 : decode cX1_leastWeight 23 = .ok (.iaload, 1) := by decide +kernel
theorem dX1_leastWeight_24 : decode cX1_leastWeight 24 = .ok (.invokestatic 34, 3) := by decide +kernel
theorem dX1_leastWeight_27 : decode cX1_leastWeight 27 = .ok (.istore_n 1, 1) := by decide +kernel
theorem dX1_leastWeight_28 : decode cX1_leastWeight 28 = .ok (.iinc 2 1, 3) := by decide +kernel
theorem dX1_leastWeight_31 : decode cX1_leastWeight 31 = .ok (.goto (-22), 3) := by decide +kernel
theorem dX1_leastWeight_34 : decode cX1_leastWeight 34 = .ok (.iload_n 1, 1) := by decide +kernel
theorem dX1_leastWeight_35 : decode cX1_leastWeight 35 = .ok (.ireturn, 1) := by decide +kernel
set_option maxRecDepth 20000 in
theorem ggX1_weightReachedBy_X1_countersReaching : GoodIn wsX1_weightReachedBy wsX1_countersReaching := goodIn_r _ [7, 1, 2, 8, 9, 10, 11] (by decide +kernel) (by decide +kernel)
set_option maxRecDepth 20000 in
theorem gX1_weightReachedBy_X1_countersReaching : GoodIn wsX1_weightReachedBy (wsV RX1 50 RX1 yX1_countersReaching wsX1_countersReaching) := goodIn_app (goodIn_of _ (by decide +kernel)) ggX1_weightReachedBy_X1_countersReaching
theorem dX1_weightReachedBy_0 : decode cX1_weightReachedBy 0 = .ok (.iconst 0, 1) := by decide +kernel
theorem dX1_weightReachedBy_1 : decode cX1_weightReachedBy 1 = .ok (.istore_n 2, 1) := by decide +kernel
theorem dX1_weightReachedBy_2 : decode cX1_weightReachedBy 2 = .ok (.iconst 0, 1) := by decide +kernel
theorem dX1_weightReachedBy_3 : decode cX1_weightReachedBy 3 = .ok (.istore_n 3, 1) := by decide +kernel
theorem dX1_weightReachedBy_4 : decode cX1_weightReachedBy 4 = .ok (.iload_n 3, 1) := by decide +kernel
theorem dX1_weightReachedBy_5 : decode cX1_weightReachedBy 5 = .ok (.aload_n 0, 1) := by decide +kernel
theorem dX1_weightReachedBy_6 : decode cX1_weightReachedBy 6 = .ok (.getfield 22, 3) := by decide +kernel
theorem dX1_weightReachedBy_9 : decode cX1_weightReachedBy 9 = .ok (.if_icmp .ge 40, 3) := by decide +kernel
theorem dX1_weightReachedBy_12 : decode cX1_weightReachedBy 12 = .ok (.aload_n 0, 1) := by decide +kernel
theorem dX1_weightReachedBy_13 : decode cX1_weightReachedBy 13 = .ok (.getfield 15, 3) := by decide +kernel
theorem dX1_weightReachedBy_16 : decode cX1_weightReachedBy 16 = .ok (.iload_n 3, 1) := by decide +kernel
theorem dX1_weightReachedBy_17 : decode cX1_weightReachedBy 17 = .ok (.iaload, 1) := by decide +kernel
theorem dX1_weightReachedBy_18 : decode cX1_weightReachedBy 18 = .ok (.iload_n 2, 1) := by decide +kernel
theorem dX1_weightReachedBy_19 : decode cX1_weightReachedBy 19 = .ok (.if_icmp .le 24, 3) := by decide +kernel
theorem dX1_weightReachedBy_22 : decode cX1_weightReachedBy 22 = .ok (.aload_n 0, 1) := by decide +kernel
theorem dX1_weightReachedBy_23 : decode cX1_weightReachedBy 23 = .ok (.aload_n 0, 1) := by decide +kernel
theorem dX1_weightReachedBy_24 : decode cX1_weightReachedBy 24 = .ok (.getfield 15, 3) := by decide +kernel
theorem dX1_weightReachedBy_27 : decode cX1_weightReachedBy 27 = .ok (.iload_n 3, 1) := by decide +kernel
theorem dX1_weightReachedBy_28 : decode cX1_weightReachedBy 28 = .ok (.iaload, 1) := by decide +kernel
theorem dX1_weightReachedBy_29 : decode cX1_weightReachedBy 29 = .ok (.invokevirtual 50, 3) := by decide +kernel
theorem dX1_weightReachedBy_32 : decode cX1_weightReachedBy 32 = .ok (.iload_n 1, 1) := by decide +kernel
theorem dX1_weightReachedBy_33 : decode cX1_weightReachedBy 33 = .ok (.if_icmp .lt 10, 3) := by decide +kernel
theorem dX1_weightReachedBy_36 : decode cX1_weightReachedBy 36 = .ok (.aload_n 0, 1) := by decide +kernel
theorem dX1_weightReachedBy_37 : decode cX1_weightReachedBy 37 = .ok (.getfield 15, 3) := by decide +kernel
theorem dX1_weightReachedBy_40 : decode cX1_weightReachedBy 40 = .ok (.iload_n 3, 1) := by decide +kernel
theorem dX1_weightReachedBy_41 : decode cX1_weightReachedBy 41 = .ok (.iaload, 1) := by decide +kernel
theorem dX1_weightReachedBy_42 : decode cX1_weightReachedBy 42 = .ok (.istore_n 2, 1) := by decide +kernel
theorem dX1_weightReachedBy_43 : decode cX1_weightReachedBy 43 = .ok (.iinc 3 1, 3) := by decide +kernel
theorem dX1_weightReachedBy_46 : decode cX1_weightReachedBy 46 = .ok (.goto (-42), 3) := by decide +kernel
theorem dX1_weightReachedBy_49 : decode cX1_weightReachedBy 49 = .ok (.iload_n 2, 1) := by decide +kernel
theorem dX1_weightReachedBy_50 : decode cX1_weightReachedBy 50 = .ok (.ireturn, 1) := by decide +kernel
theorem dX1_countersReaching_0 : decode cX1_countersReaching 0 = .ok (.iconst 0, 1) := by decide +kernel
theorem dX1_countersReaching_1 : decode cX1_countersReaching 1 = .ok (.istore_n 2, 1) := by decide +kernel
theorem dX1_countersReaching_2 : decode cX1_countersReaching 2 = .ok (.iconst 0, 1) := by decide +kernel
theorem dX1_countersReaching_3 : decode cX1_countersReaching 3 = .ok (.istore_n 3, 1) := by decide +kernel
theorem dX1_countersReaching_4 : decode cX1_countersReaching 4 = .ok (.iload_n 3, 1) := by decide +kernel
theorem dX1_countersReaching_5 : decode cX1_countersReaching 5 = .ok (.aload_n 0, 1) := by decide +kernel
theorem dX1_countersReaching_6 : decode cX1_countersReaching 6 = .ok (.getfield 22, 3) := by decide +kernel
theorem dX1_countersReaching_9 : decode cX1_countersReaching 9 = .ok (.if_icmp .ge 22, 3) := by decide +kernel
theorem dX1_countersReaching_12 : decode cX1_countersReaching 12 = .ok (.aload_n 0, 1) := by decide +kernel
theorem dX1_countersReaching_13 : decode cX1_countersReaching 13 = .ok (.getfield 15, 3) := by decide +kernel
theorem dX1_countersReaching_16 : decode cX1_countersReaching 16 = .ok (.iload_n 3, 1) := by decide +kernel
theorem dX1_countersReaching_17 : decode cX1_countersReaching 17 = .ok (.iaload, 1) := by decide +kernel
theorem dX1_countersReaching_18 : decode cX1_countersReaching 18 = .ok (.iload_n 1, 1) := by decide +kernel
theorem dX1_countersReaching_19 : decode cX1_countersReaching 19 = .ok (.if_icmp .lt 6, 3) := by decide +kernel
theorem dX1_countersReaching_22 : decode cX1_countersReaching 22 = .ok (.iinc 2 1, 3) := by decide +kernel
theorem dX1_countersReaching_25 : decode cX1_countersReaching 25 = .ok (.iinc 3 1, 3) := by decide +kernel
theorem dX1_countersReaching_28 : decode cX1_countersReaching 28 = .ok (.goto (-24), 3) := by decide +kernel
theorem dX1_countersReaching_31 : decode cX1_countersReaching 31 = .ok (.iload_n 2, 1) := by decide +kernel
theorem dX1_countersReaching_32 : decode cX1_countersReaching 32 = .ok (.ireturn, 1) := by decide +kernel
theorem dX2_init_0 : decode cX2_init 0 = .ok (.aload_n 0, 1) := by decide +kernel
theorem dX2_init_1 : decode cX2_init 1 = .ok (.invokespecial 3, 3) := by decide +kernel
theorem dX2_init_4 : decode cX2_init 4 = .ok (.aload_n 0, 1) := by decide +kernel
theorem dX2_init_5 : decode cX2_init 5 = .ok (.sipush 128, 3) := by decide +kernel
theorem dX2_init_8 : decode cX2_init 8 = .ok (.newarray .int, 2) := by decide +kernel
theorem dX2_init_10 : decode cX2_init 10 = .ok (.putfield 9, 3) := by decide +kernel
theorem dX2_init_13 : decode cX2_init 13 = .ok (.return_, 1) := by decide +kernel
theorem dX2_put_0 : decode cX2_put 0 = .ok (.bipush 64, 2) := by decide +kernel
theorem dX2_put_2 : decode cX2_put 2 = .ok (.iload_n 1, 1) := by decide +kernel
theorem dX2_put_3 : decode cX2_put 3 = .ok (.iadd, 1) := by decide +kernel
theorem dX2_put_4 : decode cX2_put 4 = .ok (.istore_n 3, 1) := by decide +kernel
theorem dX2_put_5 : decode cX2_put 5 = .ok (.iload_n 3, 1) := by decide +kernel
theorem dX2_put_6 : decode cX2_put 6 = .ok (.ifCond .le 20, 3) := by decide +kernel
theorem dX2_put_9 : decode cX2_put 9 = .ok (.aload_n 0, 1) := by decide +kernel
theorem dX2_put_10 : decode cX2_put 10 = .ok (.getfield 9, 3) := by decide +kernel
theorem dX2_put_13 : decode cX2_put 13 = .ok (.iload_n 3, 1) := by decide +kernel
theorem dX2_put_14 : decode cX2_put 14 = .ok (.dup2, 1) := by decide +kernel
theorem dX2_put_15 : decode cX2_put 15 = .ok (.iaload, 1) := by decide +kernel
theorem dX2_put_16 : decode cX2_put 16 = .ok (.iload_n 2, 1) := by decide +kernel
theorem dX2_put_17 : decode cX2_put 17 = .ok (.iadd, 1) := by decide +kernel
theorem dX2_put_18 : decode cX2_put 18 = .ok (.iastore, 1) := by decide +kernel
theorem dX2_put_19 : decode cX2_put 19 = .ok (.iload_n 3, 1) := by decide +kernel
theorem dX2_put_20 : decode cX2_put 20 = .ok (.iconst 1, 1) := by decide +kernel
theorem dX2_put_21 : decode cX2_put 21 = .ok (.ishr, 1) := by decide +kernel
theorem dX2_put_22 : decode cX2_put 22 = .ok (.istore_n 3, 1) := by decide +kernel
theorem dX2_put_23 : decode cX2_put 23 = .ok (.goto (-18), 3) := by decide +kernel
theorem dX2_put_26 : decode cX2_put 26 = .ok (.return_, 1) := by decide +kernel
theorem dX2_join_0 : decode cX2_join 0 = .ok (.iconst 0, 1) := by decide +kernel
theorem dX2_join_1 : decode cX2_join 1 = .ok (.istore_n 2, 1) := by decide +kernel
theorem dX2_join_2 : decode cX2_join 2 = .ok (.iload_n 2, 1) := by decide +kernel
theorem dX2_join_3 : decode cX2_join 3 = .ok (.aload_n 0, 1) := by decide +kernel
theorem dX2_join_4 : decode cX2_join 4 = .ok (.getfield 9, 3) := by decide +kernel
theorem dX2_join_7 : decode cX2_join 7 = .ok (.arraylength, 1) := by decide +kernel
theorem dX2_join_8 : decode cX2_join 8 = .ok (.if_icmp .ge 24, 3) := by decide +kernel
theorem dX2_join_11 : decode cX2_join 11 = .ok (.aload_n 0, 1) := by decide +kernel
theorem dX2_join_12 : decode cX2_join 12 = .ok (.getfield 9, 3) := by decide +kernel
theorem dX2_join_15 : decode cX2_join 15 = .ok (.iload_n 2, 1) := by decide +kernel
theorem dX2_join_16 : decode cX2_join 16 = .ok (.dup2, 1) := by decide +kernel
theorem dX2_join_17 : decode cX2_join 17 = .ok (.iaload, 1) := by decide +kernel
theorem dX2_join_18 : decode cX2_join 18 = .ok (.aload_n 1, 1) := by decide +kernel
theorem dX2_join_19 : decode cX2_join 19 = .ok (.getfield 9, 3) := by decide +kernel
theorem dX2_join_22 : decode cX2_join 22 = .ok (.iload_n 2, 1) := by decide +kernel
theorem dX2_join_23 : decode cX2_join 23 = .ok (.iaload, 1) := by decide +kernel
theorem dX2_join_24 : decode cX2_join 24 = .ok (.iadd, 1) := by decide +kernel
theorem dX2_join_25 : decode cX2_join 25 = .ok (.iastore, 1) := by decide +kernel
theorem dX2_join_26 : decode cX2_join 26 = .ok (.iinc 2 1, 3) := by decide +kernel
theorem dX2_join_29 : decode cX2_join 29 = .ok (.goto (-27), 3) := by decide +kernel
theorem dX2_join_32 : decode cX2_join 32 = .ok (.return_, 1) := by decide +kernel
set_option maxRecDepth 20000 in
theorem ggX2_empty_J7_fill_53178 : GoodIn wsX2_empty wsJ7_fill_53178 := goodIn_r _ [5] (by decide +kernel) (by decide +kernel)
set_option maxRecDepth 20000 in
theorem gX2_empty_J7_fill_53178 : GoodIn wsX2_empty (va_wsS RX2 15 yJ7_fill_53178 wsJ7_fill_53178) := goodIn_app (goodIn_of _ (by decide +kernel)) ggX2_empty_J7_fill_53178
theorem dX2_empty_0 : decode cX2_empty 0 = .ok (.aload_n 0, 1) := by decide +kernel
theorem dX2_empty_1 : decode cX2_empty 1 = .ok (.getfield 9, 3) := by decide +kernel
theorem dX2_empty_4 : decode cX2_empty 4 = .ok (.iconst 0, 1) := by decide +kernel
theorem dX2_empty_5 : decode cX2_empty 5 = .ok (.invokestatic 15, 3) := by decide +kernel
theorem dX2_empty_8 : decode cX2_empty 8 = .ok (.return_, 1) := by decide +kernel
theorem dX2_sum_0 : decode cX2_sum 0 = .ok (.aload_n 0, 1) := by decide +kernel
theorem dX2_sum_1 : decode cX2_sum 1 = .ok (.getfield 9, 3) := by decide +kernel
theorem dX2_sum_4 : decode cX2_sum 4 = .ok (.iconst 1, 1) := by decide +kernel
theorem dX2_sum_5 : decode cX2_sum 5 = .ok (.iaload, 1) := by decide +kernel
theorem dX2_sum_6 : decode cX2_sum 6 = .ok (.ireturn, 1) := by decide +kernel
theorem dX2_ofHalf_0 : decode cX2_ofHalf 0 = .ok (.aload_n 0, 1) := by decide +kernel
theorem dX2_ofHalf_1 : decode cX2_ofHalf 1 = .ok (.getfield 9, 3) := by decide +kernel
theorem dX2_ofHalf_4 : decode cX2_ofHalf 4 = .ok (.bipush 64, 2) := by decide +kernel
theorem dX2_ofHalf_6 : decode cX2_ofHalf 6 = .ok (.iload_n 1, 1) := by decide +kernel
theorem dX2_ofHalf_7 : decode cX2_ofHalf 7 = .ok (.ishr, 1) := by decide +kernel
theorem dX2_ofHalf_8 : decode cX2_ofHalf 8 = .ok (.iload_n 2, 1) := by decide +kernel
theorem dX2_ofHalf_9 : decode cX2_ofHalf 9 = .ok (.iadd, 1) := by decide +kernel
theorem dX2_ofHalf_10 : decode cX2_ofHalf 10 = .ok (.iaload, 1) := by decide +kernel
theorem dX2_ofHalf_11 : decode cX2_ofHalf 11 = .ok (.ireturn, 1) := by decide +kernel
theorem dX2_ofItems_0 : decode cX2_ofItems 0 = .ok (.iconst 0, 1) := by decide +kernel
theorem dX2_ofItems_1 : decode cX2_ofItems 1 = .ok (.istore_n 3, 1) := by decide +kernel
theorem dX2_ofItems_2 : decode cX2_ofItems 2 = .ok (.iload_n 1, 1) := by decide +kernel
theorem dX2_ofItems_3 : decode cX2_ofItems 3 = .ok (.istore 4, 2) := by decide +kernel
theorem dX2_ofItems_5 : decode cX2_ofItems 5 = .ok (.iload 4, 2) := by decide +kernel
theorem dX2_ofItems_7 : decode cX2_ofItems 7 = .ok (.iload_n 2, 1) := by decide +kernel
theorem dX2_ofItems_8 : decode cX2_ofItems 8 = .ok (.if_icmp .gt 22, 3) := by decide +kernel
theorem dX2_ofItems_11 : decode cX2_ofItems 11 = .ok (.iload_n 3, 1) := by decide +kernel
theorem dX2_ofItems_12 : decode cX2_ofItems 12 = .ok (.aload_n 0, 1) := by decide +kernel
theorem dX2_ofItems_13 : decode cX2_ofItems 13 = .ok (.getfield 9, 3) := by decide +kernel
theorem dX2_ofItems_16 : decode cX2_ofItems 16 = .ok (.bipush 64, 2) := by decide +kernel
theorem dX2_ofItems_18 : decode cX2_ofItems 18 = .ok (.iload 4, 2) := by decide +kernel
theorem dX2_ofItems_20 : decode cX2_ofItems 20 = .ok (.iadd, 1) := by decide +kernel
theorem dX2_ofItems_21 : decode cX2_ofItems 21 = .ok (.iaload, 1) := by decide +kernel
theorem dX2_ofItems_22 : decode cX2_ofItems 22 = .ok (.iadd, 1) := by decide +kernel
theorem dX2_ofItems_23 : decode cX2_ofItems 23 = .ok (.istore_n 3, 1) := by decide +kernel
theorem dX2_ofItems_24 : decode cX2_ofItems 24 = .ok (.iinc 4 1, 3) := by decide +kernel
theorem dX2_ofItems_27 : decode cX2_ofItems 27 = .ok (.goto (-22), 3) := by decide +kernel
theorem dX2_ofItems_30 : decode cX2_ofItems 30 = .ok (.iload_n 3, 1) := by decide +kernel
theorem dX2_ofItems_31 : decode cX2_ofItems 31 = .ok (.ireturn, 1) := by decide +kernel
theorem dX2_times_0 : decode cX2_times 0 = .ok (.lconst 0, 1) := by decide +kernel
theorem dX2_times_1 : decode cX2_times 1 = .ok (.lstore_n 2, 1) := by decide +kernel
theorem dX2_times_2 : decode cX2_times 2 = .ok (.bipush 64, 2) := by decide +kernel
theorem dX2_times_4 : decode cX2_times 4 = .ok (.istore 4, 2) := by decide +kernel
theorem dX2_times_6 : decode cX2_times 6 = .ok (.iload 4, 2) := by decide +kernel
theorem dX2_times_8 : decode cX2_times 8 = .ok (.aload_n 0, 1) := by decide +kernel
theorem dX2_times_9 : decode cX2_times 9 = .ok (.getfield 9, 3) := by decide +kernel
theorem dX2_times_12 : decode cX2_times 12 = .ok (.arraylength, 1) := by decide +kernel
theorem dX2_times_13 : decode cX2_times 13 = .ok (.if_icmp .ge 29, 3) := by decide +kernel
theorem dX2_times_16 : decode cX2_times 16 = .ok (.lload_n 2, 1) := by decide +kernel
theorem dX2_times_17 : decode cX2_times 17 = .ok (.aload_n 0, 1) := by decide +kernel
theorem dX2_times_18 : decode cX2_times 18 = .ok (.getfield 9, 3) := by decide +kernel
theorem dX2_times_21 : decode cX2_times 21 = .ok (.iload 4, 2) := by decide +kernel
theorem dX2_times_23 : decode cX2_times 23 = .ok (.iaload, 1) := by decide +kernel
theorem dX2_times_24 : decode cX2_times 24 = .ok (.i2l, 1) := by decide +kernel
theorem dX2_times_25 : decode cX2_times 25 = .ok (.aload_n 1, 1) := by decide +kernel
theorem dX2_times_26 : decode cX2_times 26 = .ok (.getfield 9, 3) := by decide +kernel
theorem dX2_times_29 : decode cX2_times 29 = .ok (.iload 4, 2) := by decide +kernel
theorem dX2_times_31 : decode cX2_times 31 = .ok (.iaload, 1) := by decide +kernel
theorem dX2_times_32 : decode cX2_times 32 = .ok (.i2l, 1) := by decide +kernel
theorem dX2_times_33 : decode cX2_times 33 = .ok (.lmul, 1) := by decide +kernel
theorem dX2_times_34 : decode cX2_times 34 = .ok (.ladd, 1) := by decide +kernel
theorem dX2_times_35 : decode cX2_times 35 = .ok (.lstore_n 2, 1) := by decide +kernel
theorem dX2_times_36 : decode cX2_times 36 = .ok (.iinc 4 1, 3) := by decide +kernel
theorem dX2_times_39 : decode cX2_times 39 = .ok (.goto (-33), 3) := by decide +kernel
theorem dX2_times_42 : decode cX2_times 42 = .ok (.lload_n 2, 1) := by decide +kernel
theorem dX2_times_43 : decode cX2_times 43 = .ok (.lreturn, 1) := by decide +kernel
theorem dX3_init_0 : decode cX3_init 0 = .ok (.aload_n 0, 1) := by decide +kernel
theorem dX3_init_1 : decode cX3_init 1 = .ok (.invokespecial 1, 3) := by decide +kernel
theorem dX3_init_4 : decode cX3_init 4 = .ok (.aload_n 0, 1) := by decide +kernel
theorem dX3_init_5 : decode cX3_init 5 = .ok (.bipush 40, 2) := by decide +kernel
theorem dX3_init_7 : decode cX3_init 7 = .ok (.newarray .int, 2) := by decide +kernel
theorem dX3_init_9 : decode cX3_init 9 = .ok (.putfield 9, 3) := by decide +kernel
theorem dX3_init_12 : decode cX3_init 12 = .ok (.aload_n 0, 1) := by decide +kernel
theorem dX3_init_13 : decode cX3_init 13 = .ok (.iconst 5, 1) := by decide +kernel
theorem dX3_init_14 : decode cX3_init 14 = .ok (.newarray .long, 2) := by decide +kernel
theorem dX3_init_16 : decode cX3_init 16 = .ok (.putfield 13, 3) := by decide +kernel
theorem dX3_init_19 : decode cX3_init 19 = .ok (.return_, 1) := by decide +kernel
theorem dX3_columnOf_0 : decode cX3_columnOf 0 = .ok (.getstatic 17, 3) := by decide +kernel
theorem dX3_columnOf_3 : decode cX3_columnOf 3 = .ok (.iload_n 0, 1) := by decide +kernel
theorem dX3_columnOf_4 : decode cX3_columnOf 4 = .ok (.iaload, 1) := by decide +kernel
theorem dX3_columnOf_5 : decode cX3_columnOf 5 = .ok (.iload_n 1, 1) := by decide +kernel
theorem dX3_columnOf_6 : decode cX3_columnOf 6 = .ok (.imul, 1) := by decide +kernel
theorem dX3_columnOf_7 : decode cX3_columnOf 7 = .ok (.getstatic 20, 3) := by decide +kernel
theorem dX3_columnOf_10 : decode cX3_columnOf 10 = .ok (.iload_n 0, 1) := by decide +kernel
theorem dX3_columnOf_11 : decode cX3_columnOf 11 = .ok (.iaload, 1) := by decide +kernel
theorem dX3_columnOf_12 : decode cX3_columnOf 12 = .ok (.iadd, 1) := by decide +kernel
theorem dX3_columnOf_13 : decode cX3_columnOf 13 = .ok (.bipush 67, 2) := by decide +kernel
theorem dX3_columnOf_15 : decode cX3_columnOf 15 = .ok (.irem, 1) := by decide +kernel
theorem dX3_columnOf_16 : decode cX3_columnOf 16 = .ok (.bipush 8, 2) := by decide +kernel
theorem dX3_columnOf_18 : decode cX3_columnOf 18 = .ok (.irem, 1) := by decide +kernel
theorem dX3_columnOf_19 : decode cX3_columnOf 19 = .ok (.ireturn, 1) := by decide +kernel
theorem dX3_signOf_0 : decode cX3_signOf 0 = .ok (.getstatic 23, 3) := by decide +kernel
theorem dX3_signOf_3 : decode cX3_signOf 3 = .ok (.iload_n 0, 1) := by decide +kernel
theorem dX3_signOf_4 : decode cX3_signOf 4 = .ok (.iaload, 1) := by decide +kernel
theorem dX3_signOf_5 : decode cX3_signOf 5 = .ok (.iload_n 1, 1) := by decide +kernel
theorem dX3_signOf_6 : decode cX3_signOf 6 = .ok (.imul, 1) := by decide +kernel
theorem dX3_signOf_7 : decode cX3_signOf 7 = .ok (.getstatic 26, 3) := by decide +kernel
theorem dX3_signOf_10 : decode cX3_signOf 10 = .ok (.iload_n 0, 1) := by decide +kernel
theorem dX3_signOf_11 : decode cX3_signOf 11 = .ok (.iaload, 1) := by decide +kernel
theorem dX3_signOf_12 : decode cX3_signOf 12 = .ok (.iadd, 1) := by decide +kernel
theorem dX3_signOf_13 : decode cX3_signOf 13 = .ok (.bipush 71, 2) := by decide +kernel
theorem dX3_signOf_15 : decode cX3_signOf 15 = .ok (.irem, 1) := by decide +kernel
theorem dX3_signOf_16 : decode cX3_signOf 16 = .ok (.iconst 2, 1) := by decide +kernel
theorem dX3_signOf_17 : decode cX3_signOf 17 = .ok (.irem, 1) := by decide +kernel
theorem dX3_signOf_18 : decode cX3_signOf 18 = .ok (.ifCond .ne 7, 3) := by decide +kernel
theorem dX3_signOf_21 : decode cX3_signOf 21 = .ok (.iconst 1, 1) := by decide +kernel
theorem dX3_signOf_22 : decode cX3_signOf 22 = .ok (.goto 4, 3) := by decide +kernel
theorem dX3_signOf_25 : decode cX3_signOf 25 = .ok (.iconst (-1), 1) := by decide +kernel
theorem dX3_signOf_26 : decode cX3_signOf 26 = .ok (.ireturn, 1) := by decide +kernel
set_option maxRecDepth 20000 in
theorem ggX3_placeOf_X3_columnOf : GoodIn wsX3_placeOf wsX3_columnOf := goodIn_r _ [4, 5, 6] (by decide +kernel) (by decide +kernel)
set_option maxRecDepth 20000 in
theorem gX3_placeOf_X3_columnOf : GoodIn wsX3_placeOf (va_wsS RX3 29 yX3_columnOf wsX3_columnOf) := goodIn_app (goodIn_of _ (by decide +kernel)) ggX3_placeOf_X3_columnOf
theorem dX3_placeOf_0 : decode cX3_placeOf 0 = .ok (.iload_n 0, 1) := by decide +kernel
theorem dX3_placeOf_1 : decode cX3_placeOf 1 = .ok (.bipush 8, 2) := by decide +kernel
theorem dX3_placeOf_3 : decode cX3_placeOf 3 = .ok (.imul, 1) := by decide +kernel
theorem dX3_placeOf_4 : decode cX3_placeOf 4 = .ok (.iload_n 0, 1) := by decide +kernel
theorem dX3_placeOf_5 : decode cX3_placeOf 5 = .ok (.iload_n 1, 1) := by decide +kernel
theorem dX3_placeOf_6 : decode cX3_placeOf 6 = .ok (.invokestatic 29, 3) := by decide +kernel
theorem dX3_placeOf_9 : decode cX3_placeOf 9 = .ok (.iadd, 1) := by decide +kernel
theorem dX3_placeOf_10 : decode cX3_placeOf 10 = .ok (.ireturn, 1) := by decide +kernel
theorem dX3_cellAt_0 : decode cX3_cellAt 0 = .ok (.aload_n 0, 1) := by decide +kernel
theorem dX3_cellAt_1 : decode cX3_cellAt 1 = .ok (.getfield 9, 3) := by decide +kernel
theorem dX3_cellAt_4 : decode cX3_cellAt 4 = .ok (.iload_n 1, 1) := by decide +kernel
theorem dX3_cellAt_5 : decode cX3_cellAt 5 = .ok (.bipush 8, 2) := by decide +kernel
theorem dX3_cellAt_7 : decode cX3_cellAt 7 = .ok (.imul, 1) := by decide +kernel
theorem dX3_cellAt_8 : decode cX3_cellAt 8 = .ok (.iload_n 2, 1) := by decide +kernel
theorem dX3_cellAt_9 : decode cX3_cellAt 9 = .ok (.iadd, 1) := by decide +kernel
theorem dX3_cellAt_10 : decode cX3_cellAt 10 = .ok (.iaload, 1) := by decide +kernel
theorem dX3_cellAt_11 : decode cX3_cellAt 11 = .ok (.ireturn, 1) := by decide +kernel
set_option maxRecDepth 20000 in
theorem ggX3_put_X3_placeOf : GoodIn wsX3_put wsX3_placeOf := goodIn_r _ [5, 6, 7, 4, 8, 9, 10] (by decide +kernel) (by decide +kernel)
set_option maxRecDepth 20000 in
theorem gX3_put_X3_placeOf : GoodIn wsX3_put (va_wsS RX3 33 yX3_placeOf wsX3_placeOf) := goodIn_app (goodIn_of _ (by decide +kernel)) ggX3_put_X3_placeOf
set_option maxRecDepth 20000 in
theorem ggX3_put_X3_signOf : GoodIn wsX3_put wsX3_signOf := goodIn_r _ [13, 14, 15] (by decide +kernel) (by decide +kernel)
set_option maxRecDepth 20000 in
theorem gX3_put_X3_signOf : GoodIn wsX3_put (va_wsS RX3 36 yX3_signOf wsX3_signOf) := goodIn_app (goodIn_of _ (by decide +kernel)) ggX3_put_X3_signOf
theorem dX3_put_0 : decode cX3_put 0 = .ok (.iconst 0, 1) := by decide +kernel
theorem dX3_put_1 : decode cX3_put 1 = .ok (.istore_n 3, 1) := by decide +kernel
theorem dX3_put_2 : decode cX3_put 2 = .ok (.iload_n 3, 1) := by decide +kernel
theorem dX3_put_3 : decode cX3_put 3 = .ok (.iconst 5, 1) := by decide +kernel
theorem dX3_put_4 : decode cX3_put 4 = .ok (.if_icmp .ge 29, 3) := by decide +kernel
theorem dX3_put_7 : decode cX3_put 7 = .ok (.aload_n 0, 1) := by decide +kernel
theorem dX3_put_8 : decode cX3_put 8 = .ok (.getfield 9, 3) := by decide +kernel
theorem dX3_put_11 : decode cX3_put 11 = .ok (.iload_n 3, 1) := by decide +kernel
theorem dX3_put_12 : decode cX3_put 12 = .ok (.iload_n 1, 1) := by decide +kernel
theorem dX3_put_13 : decode cX3_put 13 = .ok (.invokestatic 33, 3) := by decide +kernel
theorem dX3_put_16 : decode cX3_put 16 = .ok (.dup2, 1) := by decide +kernel
theorem dX3_put_17 : decode cX3_put 17 = .ok (.iaload, 1) := by decide +kernel
theorem dX3_put_18 : decode cX3_put 18 = .ok (.iload_n 3, 1) := by decide +kernel
theorem dX3_put_19 : decode cX3_put 19 = .ok (.iload_n 1, 1) := by decide +kernel
theorem dX3_put_20 : decode cX3_put 20 = .ok (.invokestatic 36, 3) := by decide +kernel
theorem dX3_put_23 : decode cX3_put 23 = .ok (.iload_n 2, 1) := by decide +kernel
theorem dX3_put_24 : decode cX3_put 24 = .ok (.imul, 1) := by decide +kernel
theorem dX3_put_25 : decode cX3_put 25 = .ok (.iadd, 1) := by decide +kernel
theorem dX3_put_26 : decode cX3_put 26 = .ok (.iastore, 1) := by decide +kernel
theorem dX3_put_27 : decode cX3_put 27 = .ok (.iinc 3 1, 3) := by decide +kernel
theorem dX3_put_30 : decode cX3_put 30 = .ok (.goto (-28), 3) := by decide +kernel
theorem dX3_put_33 : decode cX3_put 33 = .ok (.return_, 1) := by decide +kernel
theorem dX3_join_0 : decode cX3_join 0 = .ok (.iconst 0, 1) := by decide +kernel
theorem dX3_join_1 : decode cX3_join 1 = .ok (.istore_n 2, 1) := by decide +kernel
theorem dX3_join_2 : decode cX3_join 2 = .ok (.iload_n 2, 1) := by decide +kernel
theorem dX3_join_3 : decode cX3_join 3 = .ok (.aload_n 0, 1) := by decide +kernel
theorem dX3_join_4 : decode cX3_join 4 = .ok (.getfield 9, 3) := by decide +kernel
theorem dX3_join_7 : decode cX3_join 7 = .ok (.arraylength, 1) := by decide +kernel
theorem dX3_join_8 : decode cX3_join 8 = .ok (.if_icmp .ge 24, 3) := by decide +kernel
theorem dX3_join_11 : decode cX3_join 11 = .ok (.aload_n 0, 1) := by decide +kernel
theorem dX3_join_12 : decode cX3_join 12 = .ok (.getfield 9, 3) := by decide +kernel
theorem dX3_join_15 : decode cX3_join 15 = .ok (.iload_n 2, 1) := by decide +kernel
theorem dX3_join_16 : decode cX3_join 16 = .ok (.dup2, 1) := by decide +kernel
theorem dX3_join_17 : decode cX3_join 17 = .ok (.iaload, 1) := by decide +kernel
theorem dX3_join_18 : decode cX3_join 18 = .ok (.aload_n 1, 1) := by decide +kernel
theorem dX3_join_19 : decode cX3_join 19 = .ok (.getfield 9, 3) := by decide +kernel
theorem dX3_join_22 : decode cX3_join 22 = .ok (.iload_n 2, 1) := by decide +kernel
theorem dX3_join_23 : decode cX3_join 23 = .ok (.iaload, 1) := by decide +kernel
theorem dX3_join_24 : decode cX3_join 24 = .ok (.iadd, 1) := by decide +kernel
theorem dX3_join_25 : decode cX3_join 25 = .ok (.iastore, 1) := by decide +kernel
theorem dX3_join_26 : decode cX3_join 26 = .ok (.iinc 2 1, 3) := by decide +kernel
theorem dX3_join_29 : decode cX3_join 29 = .ok (.goto (-27), 3) := by decide +kernel
theorem dX3_join_32 : decode cX3_join 32 = .ok (.return_, 1) := by decide +kernel
set_option maxRecDepth 20000 in
theorem ggX3_empty_J7_fill_53178 : GoodIn wsX3_empty wsJ7_fill_53178 := goodIn_r _ [5] (by decide +kernel) (by decide +kernel)
set_option maxRecDepth 20000 in
theorem gX3_empty_J7_fill_53178 : GoodIn wsX3_empty (va_wsS RX3 39 yJ7_fill_53178 wsJ7_fill_53178) := goodIn_app (goodIn_of _ (by decide +kernel)) ggX3_empty_J7_fill_53178
theorem dX3_empty_0 : decode cX3_empty 0 = .ok (.aload_n 0, 1) := by decide +kernel
theorem dX3_empty_1 : decode cX3_empty 1 = .ok (.getfield 9, 3) := by decide +kernel
theorem dX3_empty_4 : decode cX3_empty 4 = .ok (.iconst 0, 1) := by decide +kernel
theorem dX3_empty_5 : decode cX3_empty 5 = .ok (.invokestatic 39, 3) := by decide +kernel
theorem dX3_empty_8 : decode cX3_empty 8 = .ok (.return_, 1) := by decide +kernel
set_option maxRecDepth 20000 in
theorem ggX3_middleProduct_X3_rowProduct : GoodIn wsX3_middleProduct wsX3_rowProduct := goodIn_r _ [6, 7, 8, 9, 5, 10, 11, 16, 17] (by decide +kernel) (by decide +kernel)
set_option maxRecDepth 20000 in
theorem gX3_middleProduct_X3_rowProduct : GoodIn wsX3_middleProduct (wsV RX3 49 RX3 yX3_rowProduct wsX3_rowProduct) := goodIn_app (goodIn_of _ (by decide +kernel)) ggX3_middleProduct_X3_rowProduct
set_option maxRecDepth 20000 in
theorem ggX3_middleProduct_X3_middleNumber : GoodIn wsX3_middleProduct wsX3_middleNumber := goodIn_r _ [15, 1, 16, 17] (by decide +kernel) (by decide +kernel)
set_option maxRecDepth 20000 in
theorem gX3_middleProduct_X3_middleNumber : GoodIn wsX3_middleProduct (wsV RX3 45 RX3 yX3_middleNumber wsX3_middleNumber) := goodIn_app (goodIn_of _ (by decide +kernel)) ggX3_middleProduct_X3_middleNumber
theorem dX3_middleProduct_0 : decode cX3_middleProduct 0 = .ok (.iconst 0, 1) := by decide +kernel
theorem dX3_middleProduct_1 : decode cX3_middleProduct 1 = .ok (.istore_n 2, 1) := by decide +kernel
theorem dX3_middleProduct_2 : decode cX3_middleProduct 2 = .ok (.iload_n 2, 1) := by decide +kernel
theorem dX3_middleProduct_3 : decode cX3_middleProduct 3 = .ok (.iconst 5, 1) := by decide +kernel
theorem dX3_middleProduct_4 : decode cX3_middleProduct 4 = .ok (.if_icmp .ge 21, 3) := by decide +kernel
theorem dX3_middleProduct_7 : decode cX3_middleProduct 7 = .ok (.aload_n 0, 1) := by decide +kernel
theorem dX3_middleProduct_8 : decode cX3_middleProduct 8 = .ok (.getfield 13, 3) := by decide +kernel
theorem dX3_middleProduct_11 : decode cX3_middleProduct 11 = .ok (.iload_n 2, 1) := by decide +kernel
theorem dX3_middleProduct_12 : decode cX3_middleProduct 12 = .ok (.aload_n 0, 1) := by decide +kernel
theorem dX3_middleProduct_13 : decode cX3_middleProduct 13 = .ok (.iload_n 2, 1) := by decide +kernel
theorem dX3_middleProduct_14 : decode cX3_middleProduct 14 = .ok (.aload_n 1, 1) := by decide +kernel
theorem dX3_middleProduct_15 : decode cX3_middleProduct 15 = .ok (.invokevirtual 49, 3) := by decide +kernel
theorem dX3_middleProduct_18 : decode cX3_middleProduct 18 = .ok (.lastore, 1) := by decide +kernel
theorem dX3_middleProduct_19 : decode cX3_middleProduct 19 = .ok (.iinc 2 1, 3) := by decide +kernel
theorem dX3_middleProduct_22 : decode cX3_middleProduct 22 = .ok (.goto (-20), 3) := by decide +kernel
theorem dX3_middleProduct_25 : decode cX3_middleProduct 25 = .ok (.aload_n 0, 1) := by decide +kernel
theorem dX3_middleProduct_26 : decode cX3_middleProduct 26 = .ok (.invokevirtual 45, 3) := by decide +kernel
theorem dX3_middleProduct_29 : decode cX3_middleProduct 29 = .ok (.lreturn, 1) := by decide +kernel
set_option maxRecDepth 20000 in
theorem ggX3_rowProduct_X3_cellAt : GoodIn wsX3_rowProduct wsX3_cellAt := goodIn_r _ [5, 6, 7, 8] (by decide +kernel) (by decide +kernel)
set_option maxRecDepth 20000 in
theorem gX3_rowProduct_X3_cellAt : GoodIn wsX3_rowProduct (wsV RX3 53 RX3 yX3_cellAt wsX3_cellAt) := goodIn_app (goodIn_of _ (by decide +kernel)) ggX3_rowProduct_X3_cellAt
theorem dX3_rowProduct_0 : decode cX3_rowProduct 0 = .ok (.lconst 0, 1) := by decide +kernel
theorem dX3_rowProduct_1 : decode cX3_rowProduct 1 = .ok (.lstore_n 3, 1) := by decide +kernel
theorem dX3_rowProduct_2 : decode cX3_rowProduct 2 = .ok (.iconst 0, 1) := by decide +kernel
theorem dX3_rowProduct_3 : decode cX3_rowProduct 3 = .ok (.istore 5, 2) := by decide +kernel
theorem dX3_rowProduct_5 : decode cX3_rowProduct 5 = .ok (.iload 5, 2) := by decide +kernel
theorem dX3_rowProduct_7 : decode cX3_rowProduct 7 = .ok (.bipush 8, 2) := by decide +kernel
theorem dX3_rowProduct_9 : decode cX3_rowProduct 9 = .ok (.if_icmp .ge 29, 3) := by decide +kernel
theorem dX3_rowProduct_12 : decode cX3_rowProduct 12 = .ok (.lload_n 3, 1) := by decide +kernel
theorem dX3_rowProduct_13 : decode cX3_rowProduct 13 = .ok (.aload_n 0, 1) := by decide +kernel
theorem dX3_rowProduct_14 : decode cX3_rowProduct 14 = .ok (.iload_n 1, 1) := by decide +kernel
theorem dX3_rowProduct_15 : decode cX3_rowProduct 15 = .ok (.iload 5, 2) := by decide +kernel
theorem dX3_rowProduct_17 : decode cX3_rowProduct 17 = .ok (.invokevirtual 53, 3) := by decide +kernel
theorem dX3_rowProduct_20 : decode cX3_rowProduct 20 = .ok (.i2l, 1) := by decide +kernel
theorem dX3_rowProduct_21 : decode cX3_rowProduct 21 = .ok (.aload_n 2, 1) := by decide +kernel
theorem dX3_rowProduct_22 : decode cX3_rowProduct 22 = .ok (.iload_n 1, 1) := by decide +kernel
theorem dX3_rowProduct_23 : decode cX3_rowProduct 23 = .ok (.iload 5, 2) := by decide +kernel
theorem dX3_rowProduct_25 : decode cX3_rowProduct 25 = .ok (.invokevirtual 53, 3) := by decide +kernel
theorem dX3_rowProduct_28 : decode cX3_rowProduct 28 = .ok (.i2l, 1) := by decide +kernel
theorem dX3_rowProduct_29 : decode cX3_rowProduct 29 = .ok (.lmul, 1) := by decide +kernel
theorem dX3_rowProduct_30 : decode cX3_rowProduct 30 = .ok (.ladd, 1) := by decide +kernel
theorem dX3_rowProduct_31 : decode cX3_rowProduct 31 = .ok (.lstore_n 3, 1) := by decide +kernel
theorem dX3_rowProduct_32 : decode cX3_rowProduct 32 = .ok (.iinc 5 1, 3) := by decide +kernel
theorem dX3_rowProduct_35 : decode cX3_rowProduct 35 = .ok (.goto (-30), 3) := by decide +kernel
theorem dX3_rowProduct_38 : decode cX3_rowProduct 38 = .ok (.lload_n 3, 1) := by decide +kernel
theorem dX3_rowProduct_39 : decode cX3_rowProduct 39 = .ok (.lreturn, 1) := by decide +kernel
theorem dX3_middleNumber_0 : decode cX3_middleNumber 0 = .ok (.iconst 1, 1) := by decide +kernel
theorem dX3_middleNumber_1 : decode cX3_middleNumber 1 = .ok (.istore_n 1, 1) := by decide +kernel
theorem dX3_middleNumber_2 : decode cX3_middleNumber 2 = .ok (.iload_n 1, 1) := by decide +kernel
theorem dX3_middleNumber_3 : decode cX3_middleNumber 3 = .ok (.aload_n 0, 1) := by decide +kernel
theorem dX3_middleNumber_4 : decode cX3_middleNumber 4 = .ok (.getfield 13, 3) := by decide +kernel
theorem dX3_middleNumber_7 : decode cX3_middleNumber 7 = .ok (.arraylength, 1) := by decide +kernel
theorem dX3_middleNumber_8 : decode cX3_middleNumber 8 = .ok (.if_icmp .ge 69, 3) := by decide +kernel
theorem dX3_middleNumber_11 : decode cX3_middleNumber 11 = .ok (.iload_n 1, 1) := by decide +kernel
theorem dX3_middleNumber_12 : decode cX3_middleNumber 12 = .ok (.istore_n 2, 1) := by decide +kernel
theorem dX3_middleNumber_13 : decode cX3_middleNumber 13 = .ok (.iload_n 2, 1) := by decide +kernel
theorem dX3_middleNumber_14 : decode cX3_middleNumber 14 = .ok (.ifCond .le 57, 3) := by decide +kernel
theorem dX3_middleNumber_17 : decode cX3_middleNumber 17 = .ok (.aload_n 0, 1) := by decide +kernel
theorem dX3_middleNumber_18 : decode cX3_middleNumber 18 = .ok (.getfield 13, 3) := by decide +kernel
theorem dX3_middleNumber_21 : decode cX3_middleNumber 21 = .ok (.iload_n 2, 1) := by decide +kernel
theorem dX3_middleNumber_22 : decode cX3_middleNumber 22 = .ok (.iconst 1, 1) := by decide +kernel
theorem dX3_middleNumber_23 : decode cX3_middleNumber 23 = .ok (.isub, 1) := by decide +kernel
theorem dX3_middleNumber_24 : decode cX3_middleNumber 24 = .ok (.laload, 1) := by decide +kernel
theorem dX3_middleNumber_25 : decode cX3_middleNumber 25 = .ok (.aload_n 0, 1) := by decide +kernel
theorem dX3_middleNumber_26 : decode cX3_middleNumber 26 = .ok (.getfield 13, 3) := by decide +kernel
theorem dX3_middleNumber_29 : decode cX3_middleNumber 29 = .ok (.iload_n 2, 1) := by decide +kernel
theorem dX3_middleNumber_30 : decode cX3_middleNumber 30 = .ok (.laload, 1) := by decide +kernel
theorem dX3_middleNumber_31 : decode cX3_middleNumber 31 = .ok (.lcmp, 1) := by decide +kernel
theorem dX3_middleNumber_32 : decode cX3_middleNumber 32 = .ok (.ifCond .le 39, 3) := by decide +kernel
theorem dX3_middleNumber_35 : decode cX3_middleNumber 35 = .ok (.aload_n 0, 1) := by decide +kernel
theorem dX3_middleNumber_36 : decode cX3_middleNumber 36 = .ok (.getfield 13, 3) := by decide +kernel
theorem dX3_middleNumber_39 : decode cX3_middleNumber 39 = .ok (.iload_n 2, 1) := by decide +kernel
theorem dX3_middleNumber_40 : decode cX3_middleNumber 40 = .ok (.iconst 1, 1) := by decide +kernel
theorem dX3_middleNumber_41 : decode cX3_middleNumber 41 = .ok (.isub, 1) := by decide +kernel
theorem dX3_middleNumber_42 : decode cX3_middleNumber 42 = .ok (.laload, 1) := by decide +kernel
theorem dX3_middleNumber_43 : decode cX3_middleNumber 43 = .ok (.lstore_n 3, 1) := by decide +kernel
theorem dX3_middleNumber_44 : decode cX3_middleNumber 44 = .ok (.aload_n 0, 1) := by decide +kernel
theorem dX3_middleNumber_45 : decode cX3_middleNumber 45 = .ok (.getfield 13, 3) := by decide +kernel
theorem dX3_middleNumber_48 : decode cX3_middleNumber 48 = .ok (.iload_n 2, 1) := by decide +kernel
theorem dX3_middleNumber_49 : decode cX3_middleNumber 49 = .ok (.iconst 1, 1) := by decide +kernel
theorem dX3_middleNumber_50 : decode cX3_middleNumber 50 = .ok (.isub, 1) := by decide +kernel
theorem dX3_middleNumber_51 : decode cX3_middleNumber 51 = .ok (.aload_n 0, 1) := by decide +kernel
theorem dX3_middleNumber_52 : decode cX3_middleNumber 52 = .ok (.getfield 13, 3) := by decide +kernel
theorem dX3_middleNumber_55 : decode cX3_middleNumber 55 = .ok (.iload_n 2, 1) := by decide +kernel
theorem dX3_middleNumber_56 : decode cX3_middleNumber 56 = .ok (.laload, 1) := by decide +kernel
theorem dX3_middleNumber_57 : decode cX3_middleNumber 57 = .ok (.lastore, 1) := by decide +kernel
theorem dX3_middleNumber_58 : decode cX3_middleNumber 58 = .ok (.aload_n 0, 1) := by decide +kernel
theorem dX3_middleNumber_59 : decode cX3_middleNumber 59 = .ok (.getfield 13, 3) := by decide +kernel
theorem dX3_middleNumber_62 : decode cX3_middleNumber 62 = .ok (.iload_n 2, 1) := by decide +kernel
theorem dX3_middleNumber_63 : decode cX3_middleNumber 63 = .ok (.lload_n 3, 1) := by decide +kernel
theorem dX3_middleNumber_64 : decode cX3_middleNumber 64 = .ok (.lastore, 1) := by decide +kernel
theorem dX3_middleNumber_65 : decode cX3_middleNumber 65 = .ok (.iinc 2 (-1), 3) := by decide +kernel
theorem dX3_middleNumber_68 : decode cX3_middleNumber 68 = .ok (.goto (-55), 3) := by decide +kernel
theorem dX3_middleNumber_71 : decode cX3_middleNumber 71 = .ok (.iinc 1 1, 3) := by decide +kernel
theorem dX3_middleNumber_74 : decode cX3_middleNumber 74 = .ok (.goto (-72), 3) := by decide +kernel
theorem dX3_middleNumber_77 : decode cX3_middleNumber 77 = .ok (.aload_n 0, 1) := by decide +kernel
theorem dX3_middleNumber_78 : decode cX3_middleNumber 78 = .ok (.getfield 13, 3) := by decide +kernel
theorem dX3_middleNumber_81 : decode cX3_middleNumber 81 = .ok (.iconst 2, 1) := by decide +kernel
theorem dX3_middleNumber_82 : decode cX3_middleNumber 82 = .ok (.laload, 1) := by decide +kernel
theorem dX3_middleNumber_83 : decode cX3_middleNumber 83 = .ok (.lreturn, 1) := by decide +kernel
set_option maxRecDepth 20000 in
theorem ggX4_init_X2_init : GoodIn wsX4_init wsX2_init := goodIn_r _ [21, 22, 2, 3, 23, 24, 40] (by decide +kernel) (by decide +kernel)
set_option maxRecDepth 20000 in
theorem gX4_init_X2_init_n11 : GoodIn wsX4_init (wsX2_init) := ggX4_init_X2_init
set_option maxRecDepth 20000 in
theorem ggX4_init_X3_init : GoodIn wsX4_init wsX3_init := goodIn_r _ [26, 27, 2, 3, 23, 28, 29, 30, 45, 46] (by decide +kernel) (by decide +kernel)
set_option maxRecDepth 20000 in
theorem gX4_init_X3_init_n26 : GoodIn wsX4_init (wsX3_init) := ggX4_init_X3_init
set_option maxRecDepth 20000 in
theorem ggX4_init_X1_init : GoodIn wsX4_init wsX1_init := goodIn_r _ [32, 33, 2, 3, 23, 34, 35, 47, 48, 49, 50] (by decide +kernel) (by decide +kernel)
set_option maxRecDepth 20000 in
theorem gX4_init_X1_init_n33 : GoodIn wsX4_init (wsX1_init) := ggX4_init_X1_init
set_option maxRecDepth 20000 in
theorem ggX4_init_X0_init : GoodIn wsX4_init wsX0_init := goodIn_r _ [37, 38, 2, 3, 23, 39, 51] (by decide +kernel) (by decide +kernel)
set_option maxRecDepth 20000 in
theorem gX4_init_X0_init_n38 : GoodIn wsX4_init (wsX0_init) := ggX4_init_X0_init
theorem dX4_init_0 : decode cX4_init 0 = .ok (.aload_n 0, 1) := by decide +kernel
theorem dX4_init_1 : decode cX4_init 1 = .ok (.invokespecial 3, 3) := by decide +kernel
theorem dX4_init_4 : decode cX4_init 4 = .ok (.aload_n 0, 1) := by decide +kernel
theorem dX4_init_5 : decode cX4_init 5 = .ok (.new 9, 3) := by decide +kernel
theorem dX4_init_8 : decode cX4_init 8 = .ok (.dup, 1) := by decide +kernel
theorem dX4_init_9 : decode cX4_init 9 = .ok (.invokespecial 11, 3) := by decide +kernel
theorem dX4_init_12 : decode cX4_init 12 = .ok (.putfield 12, 3) := by decide +kernel
theorem dX4_init_15 : decode cX4_init 15 = .ok (.aload_n 0, 1) := by decide +kernel
theorem dX4_init_16 : decode cX4_init 16 = .ok (.iconst 3, 1) := by decide +kernel
theorem dX4_init_17 : decode cX4_init 17 = .ok (.anewarray 18, 3) := by decide +kernel
theorem dX4_init_20 : decode cX4_init 20 = .ok (.putfield 20, 3) := by decide +kernel
theorem dX4_init_23 : decode cX4_init 23 = .ok (.aload_n 0, 1) := by decide +kernel
theorem dX4_init_24 : decode cX4_init 24 = .ok (.new 24, 3) := by decide +kernel
theorem dX4_init_27 : decode cX4_init 27 = .ok (.dup, 1) := by decide +kernel
theorem dX4_init_28 : decode cX4_init 28 = .ok (.invokespecial 26, 3) := by decide +kernel
theorem dX4_init_31 : decode cX4_init 31 = .ok (.putfield 27, 3) := by decide +kernel
theorem dX4_init_34 : decode cX4_init 34 = .ok (.aload_n 0, 1) := by decide +kernel
theorem dX4_init_35 : decode cX4_init 35 = .ok (.new 31, 3) := by decide +kernel
theorem dX4_init_38 : decode cX4_init 38 = .ok (.dup, 1) := by decide +kernel
theorem dX4_init_39 : decode cX4_init 39 = .ok (.invokespecial 33, 3) := by decide +kernel
theorem dX4_init_42 : decode cX4_init 42 = .ok (.putfield 34, 3) := by decide +kernel
theorem dX4_init_45 : decode cX4_init 45 = .ok (.iconst 0, 1) := by decide +kernel
theorem dX4_init_46 : decode cX4_init 46 = .ok (.istore_n 1, 1) := by decide +kernel
theorem dX4_init_47 : decode cX4_init 47 = .ok (.iload_n 1, 1) := by decide +kernel
theorem dX4_init_48 : decode cX4_init 48 = .ok (.aload_n 0, 1) := by decide +kernel
theorem dX4_init_49 : decode cX4_init 49 = .ok (.getfield 20, 3) := by decide +kernel
theorem dX4_init_52 : decode cX4_init 52 = .ok (.arraylength, 1) := by decide +kernel
theorem dX4_init_53 : decode cX4_init 53 = .ok (.if_icmp .ge 22, 3) := by decide +kernel
theorem dX4_init_56 : decode cX4_init 56 = .ok (.aload_n 0, 1) := by decide +kernel
theorem dX4_init_57 : decode cX4_init 57 = .ok (.getfield 20, 3) := by decide +kernel
theorem dX4_init_60 : decode cX4_init 60 = .ok (.iload_n 1, 1) := by decide +kernel
theorem dX4_init_61 : decode cX4_init 61 = .ok (.new 18, 3) := by decide +kernel
theorem dX4_init_64 : decode cX4_init 64 = .ok (.dup, 1) := by decide +kernel
theorem dX4_init_65 : decode cX4_init 65 = .ok (.invokespecial 38, 3) := by decide +kernel
theorem dX4_init_68 : decode cX4_init 68 = .ok (.aastore, 1) := by decide +kernel
theorem dX4_init_69 : decode cX4_init 69 = .ok (.iinc 1 1, 3) := by decide +kernel
theorem dX4_init_72 : decode cX4_init 72 = .ok (.goto (-25), 3) := by decide +kernel
theorem dX4_init_75 : decode cX4_init 75 = .ok (.return_, 1) := by decide +kernel
set_option maxRecDepth 20000 in
theorem ggX4_put_X2_put : GoodIn wsX4_put wsX2_put := goodIn_r _ [9, 10, 85] (by decide +kernel) (by decide +kernel)
set_option maxRecDepth 20000 in
theorem gX4_put_X2_put : GoodIn wsX4_put (wsV RX4 39 RX2 yX2_put wsX2_put) := goodIn_app (goodIn_of _ (by decide +kernel)) ggX4_put_X2_put
set_option maxRecDepth 20000 in
theorem ggX4_put_X0_put : GoodIn wsX4_put wsX0_put := goodIn_r _ [15, 16, 17, 18, 19, 20, 21, 22, 23, 14, 24, 25, 26, 27, 28, 29, 30, 31, 32, 33, 34, 35, 86] (by decide +kernel) (by decide +kernel)
set_option maxRecDepth 20000 in
theorem gX4_put_X0_put : GoodIn wsX4_put (wsV RX4 43 RX0 yX0_put wsX0_put) := goodIn_app (goodIn_of _ (by decide +kernel)) ggX4_put_X0_put
set_option maxRecDepth 20000 in
theorem ggX4_put_X3_put : GoodIn wsX4_put wsX3_put := goodIn_r _ [40, 41, 42, 43, 39, 44, 45, 46, 47, 48, 49, 50, 51, 52, 53, 54, 87, 88] (by decide +kernel) (by decide +kernel)
set_option maxRecDepth 20000 in
theorem gX4_put_X3_put : GoodIn wsX4_put (wsV RX4 44 RX3 yX3_put wsX3_put) := goodIn_app (goodIn_of _ (by decide +kernel)) ggX4_put_X3_put
set_option maxRecDepth 20000 in
theorem ggX4_put_X1_put : GoodIn wsX4_put wsX1_put := goodIn_r _ [59, 60, 61, 26, 19, 27, 62, 63, 64, 58, 65, 66, 67, 68, 69, 70, 71, 72, 73, 74, 75, 76, 77, 78, 79, 80, 89, 90, 91, 92] (by decide +kernel) (by decide +kernel)
set_option maxRecDepth 20000 in
theorem gX4_put_X1_put : GoodIn wsX4_put (wsV RX4 45 RX1 yX1_put wsX1_put) := goodIn_app (goodIn_of _ (by decide +kernel)) ggX4_put_X1_put
theorem dX4_put_0 : decode cX4_put 0 = .ok (.aload_n 0, 1) := by decide +kernel
theorem dX4_put_1 : decode cX4_put 1 = .ok (.getfield 12, 3) := by decide +kernel
theorem dX4_put_4 : decode cX4_put 4 = .ok (.iload_n 1, 1) := by decide +kernel
theorem dX4_put_5 : decode cX4_put 5 = .ok (.iload_n 2, 1) := by decide +kernel
theorem dX4_put_6 : decode cX4_put 6 = .ok (.invokevirtual 39, 3) := by decide +kernel
theorem dX4_put_9 : decode cX4_put 9 = .ok (.iconst 0, 1) := by decide +kernel
theorem dX4_put_10 : decode cX4_put 10 = .ok (.istore_n 3, 1) := by decide +kernel
theorem dX4_put_11 : decode cX4_put 11 = .ok (.iload_n 3, 1) := by decide +kernel
theorem dX4_put_12 : decode cX4_put 12 = .ok (.aload_n 0, 1) := by decide +kernel
theorem dX4_put_13 : decode cX4_put 13 = .ok (.getfield 20, 3) := by decide +kernel
theorem dX4_put_16 : decode cX4_put 16 = .ok (.arraylength, 1) := by decide +kernel
theorem dX4_put_17 : decode cX4_put 17 = .ok (.if_icmp .ge 22, 3) := by decide +kernel
theorem dX4_put_20 : decode cX4_put 20 = .ok (.aload_n 0, 1) := by decide +kernel
theorem dX4_put_21 : decode cX4_put 21 = .ok (.getfield 20, 3) := by decide +kernel
theorem dX4_put_24 : decode cX4_put 24 = .ok (.iload_n 3, 1) := by decide +kernel
theorem dX4_put_25 : decode cX4_put 25 = .ok (.aaload, 1) := by decide +kernel
theorem dX4_put_26 : decode cX4_put 26 = .ok (.iload_n 1, 1) := by decide +kernel
theorem dX4_put_27 : decode cX4_put 27 = .ok (.iload_n 3, 1) := by decide +kernel
theorem dX4_put_28 : decode cX4_put 28 = .ok (.ishr, 1) := by decide +kernel
theorem dX4_put_29 : decode cX4_put 29 = .ok (.iload_n 2, 1) := by decide +kernel
theorem dX4_put_30 : decode cX4_put 30 = .ok (.invokevirtual 43, 3) := by decide +kernel
theorem dX4_put_33 : decode cX4_put 33 = .ok (.iinc 3 1, 3) := by decide +kernel
theorem dX4_put_36 : decode cX4_put 36 = .ok (.goto (-25), 3) := by decide +kernel
theorem dX4_put_39 : decode cX4_put 39 = .ok (.aload_n 0, 1) := by decide +kernel
theorem dX4_put_40 : decode cX4_put 40 = .ok (.getfield 27, 3) := by decide +kernel
theorem dX4_put_43 : decode cX4_put 43 = .ok (.iload_n 1, 1) := by decide +kernel
theorem dX4_put_44 : decode cX4_put 44 = .ok (.iload_n 2, 1) := by decide +kernel
theorem dX4_put_45 : decode cX4_put 45 = .ok (.invokevirtual 44, 3) := by decide +kernel
theorem dX4_put_48 : decode cX4_put 48 = .ok (.aload_n 0, 1) := by decide +kernel
theorem dX4_put_49 : decode cX4_put 49 = .ok (.getfield 34, 3) := by decide +kernel
theorem dX4_put_52 : decode cX4_put 52 = .ok (.iload_n 1, 1) := by decide +kernel
theorem dX4_put_53 : decode cX4_put 53 = .ok (.iload_n 2, 1) := by decide +kernel
theorem dX4_put_54 : decode cX4_put 54 = .ok (.invokevirtual 45, 3) := by decide +kernel
theorem dX4_put_57 : decode cX4_put 57 = .ok (.return_, 1) := by decide +kernel
set_option maxRecDepth 20000 in
theorem ggX4_join_X2_join : GoodIn wsX4_join wsX2_join := goodIn_r _ [9, 10, 56] (by decide +kernel) (by decide +kernel)
set_option maxRecDepth 20000 in
theorem gX4_join_X2_join : GoodIn wsX4_join (wsV RX4 46 RX2 yX2_join wsX2_join) := goodIn_app (goodIn_of _ (by decide +kernel)) ggX4_join_X2_join
set_option maxRecDepth 20000 in
theorem ggX4_join_X0_join : GoodIn wsX4_join wsX0_join := goodIn_r _ [15, 16, 57] (by decide +kernel) (by decide +kernel)
set_option maxRecDepth 20000 in
theorem gX4_join_X0_join : GoodIn wsX4_join (wsV RX4 50 RX0 yX0_join wsX0_join) := goodIn_app (goodIn_of _ (by decide +kernel)) ggX4_join_X0_join
set_option maxRecDepth 20000 in
theorem ggX4_join_X3_join : GoodIn wsX4_join wsX3_join := goodIn_r _ [21, 22, 58, 59] (by decide +kernel) (by decide +kernel)
set_option maxRecDepth 20000 in
theorem gX4_join_X3_join : GoodIn wsX4_join (wsV RX4 53 RX3 yX3_join wsX3_join) := goodIn_app (goodIn_of _ (by decide +kernel)) ggX4_join_X3_join
set_option maxRecDepth 20000 in
theorem ggX4_join_X1_join : GoodIn wsX4_join wsX1_join := goodIn_r _ [27, 28, 29, 30, 31, 32, 33, 34, 26, 35, 36, 37, 38, 39, 40, 41, 42, 43, 44, 45, 46, 47, 48, 49, 50, 51, 60, 61, 62, 63] (by decide +kernel) (by decide +kernel)
set_option maxRecDepth 20000 in
theorem gX4_join_X1_join : GoodIn wsX4_join (wsV RX4 56 RX1 yX1_join wsX1_join) := goodIn_app (goodIn_of _ (by decide +kernel)) ggX4_join_X1_join
theorem dX4_join_0 : decode cX4_join 0 = .ok (.aload_n 0, 1) := by decide +kernel
theorem dX4_join_1 : decode cX4_join 1 = .ok (.getfield 12, 3) := by decide +kernel
theorem dX4_join_4 : decode cX4_join 4 = .ok (.aload_n 1, 1) := by decide +kernel
theorem dX4_join_5 : decode cX4_join 5 = .ok (.getfield 12, 3) := by decide +kernel
theorem dX4_join_8 : decode cX4_join 8 = .ok (.invokevirtual 46, 3) := by decide +kernel
theorem dX4_join_11 : decode cX4_join 11 = .ok (.iconst 0, 1) := by decide +kernel
theorem dX4_join_12 : decode cX4_join 12 = .ok (.istore_n 2, 1) := by decide +kernel
theorem dX4_join_13 : decode cX4_join 13 = .ok (.iload_n 2, 1) := by decide +kernel
theorem dX4_join_14 : decode cX4_join 14 = .ok (.aload_n 0, 1) := by decide +kernel
theorem dX4_join_15 : decode cX4_join 15 = .ok (.getfield 20, 3) := by decide +kernel
theorem dX4_join_18 : decode cX4_join 18 = .ok (.arraylength, 1) := by decide +kernel
theorem dX4_join_19 : decode cX4_join 19 = .ok (.if_icmp .ge 24, 3) := by decide +kernel
theorem dX4_join_22 : decode cX4_join 22 = .ok (.aload_n 0, 1) := by decide +kernel
theorem dX4_join_23 : decode cX4_join 23 = .ok (.getfield 20, 3) := by decide +kernel
theorem dX4_join_26 : decode cX4_join 26 = .ok (.iload_n 2, 1) := by decide +kernel
theorem dX4_join_27 : decode cX4_join 27 = .ok (.aaload, 1) := by decide +kernel
theorem dX4_join_28 : decode cX4_join 28 = .ok (.aload_n 1, 1) := by decide +kernel
theorem dX4_join_29 : decode cX4_join 29 = .ok (.getfield 20, 3) := by decide +kernel
theorem dX4_join_32 : decode cX4_join 32 = .ok (.iload_n 2, 1) := by decide +kernel
theorem dX4_join_33 : decode cX4_join 33 = .ok (.aaload, 1) := by decide +kernel
theorem dX4_join_34 : decode cX4_join 34 = .ok (.invokevirtual 50, 3) := by decide +kernel
theorem dX4_join_37 : decode cX4_join 37 = .ok (.iinc 2 1, 3) := by decide +kernel
theorem dX4_join_40 : decode cX4_join 40 = .ok (.goto (-27), 3) := by decide +kernel
theorem dX4_join_43 : decode cX4_join 43 = .ok (.aload_n 0, 1) := by decide +kernel
theorem dX4_join_44 : decode cX4_join 44 = .ok (.getfield 27, 3) := by decide +kernel
theorem dX4_join_47 : decode cX4_join 47 = .ok (.aload_n 1, 1) := by decide +kernel
theorem dX4_join_48 : decode cX4_join 48 = .ok (.getfield 27, 3) := by decide +kernel
theorem dX4_join_51 : decode cX4_join 51 = .ok (.invokevirtual 53, 3) := by decide +kernel
theorem dX4_join_54 : decode cX4_join 54 = .ok (.aload_n 0, 1) := by decide +kernel
theorem dX4_join_55 : decode cX4_join 55 = .ok (.getfield 34, 3) := by decide +kernel
theorem dX4_join_58 : decode cX4_join 58 = .ok (.aload_n 1, 1) := by decide +kernel
theorem dX4_join_59 : decode cX4_join 59 = .ok (.getfield 34, 3) := by decide +kernel
theorem dX4_join_62 : decode cX4_join 62 = .ok (.invokevirtual 56, 3) := by decide +kernel
theorem dX4_join_65 : decode cX4_join 65 = .ok (.return_, 1) := by decide +kernel
set_option maxRecDepth 20000 in
theorem ggX4_empty_X2_empty : GoodIn wsX4_empty wsX2_empty := goodIn_r _ [9, 10, 11, 12, 13, 14, 40] (by decide +kernel) (by decide +kernel)
set_option maxRecDepth 20000 in
theorem gX4_empty_X2_empty : GoodIn wsX4_empty (wsV RX4 59 RX2 yX2_empty wsX2_empty) := goodIn_app (goodIn_of _ (by decide +kernel)) ggX4_empty_X2_empty
set_option maxRecDepth 20000 in
theorem ggX4_empty_X0_empty : GoodIn wsX4_empty wsX0_empty := goodIn_r _ [19, 20, 21, 12, 13, 14, 41] (by decide +kernel) (by decide +kernel)
set_option maxRecDepth 20000 in
theorem gX4_empty_X0_empty : GoodIn wsX4_empty (wsV RX4 62 RX0 yX0_empty wsX0_empty) := goodIn_app (goodIn_of _ (by decide +kernel)) ggX4_empty_X0_empty
set_option maxRecDepth 20000 in
theorem ggX4_empty_X3_empty : GoodIn wsX4_empty wsX3_empty := goodIn_r _ [26, 27, 28, 12, 13, 14, 42, 43] (by decide +kernel) (by decide +kernel)
set_option maxRecDepth 20000 in
theorem gX4_empty_X3_empty : GoodIn wsX4_empty (wsV RX4 63 RX3 yX3_empty wsX3_empty) := goodIn_app (goodIn_of _ (by decide +kernel)) ggX4_empty_X3_empty
set_option maxRecDepth 20000 in
theorem ggX4_empty_X1_empty : GoodIn wsX4_empty wsX1_empty := goodIn_r _ [33, 34, 35, 44, 45, 46, 47] (by decide +kernel) (by decide +kernel)
set_option maxRecDepth 20000 in
theorem gX4_empty_X1_empty : GoodIn wsX4_empty (wsV RX4 64 RX1 yX1_empty wsX1_empty) := goodIn_app (goodIn_of _ (by decide +kernel)) ggX4_empty_X1_empty
theorem dX4_empty_0 : decode cX4_empty 0 = .ok (.aload_n 0, 1) := by decide +kernel
theorem dX4_empty_1 : decode cX4_empty 1 = .ok (.getfield 12, 3) := by decide +kernel
theorem dX4_empty_4 : decode cX4_empty 4 = .ok (.invokevirtual 59, 3) := by decide +kernel
theorem dX4_empty_7 : decode cX4_empty 7 = .ok (.iconst 0, 1) := by decide +kernel
theorem dX4_empty_8 : decode cX4_empty 8 = .ok (.istore_n 1, 1) := by decide +kernel
theorem dX4_empty_9 : decode cX4_empty 9 = .ok (.iload_n 1, 1) := by decide +kernel
theorem dX4_empty_10 : decode cX4_empty 10 = .ok (.aload_n 0, 1) := by decide +kernel
theorem dX4_empty_11 : decode cX4_empty 11 = .ok (.getfield 20, 3) := by decide +kernel
theorem dX4_empty_14 : decode cX4_empty 14 = .ok (.arraylength, 1) := by decide +kernel
theorem dX4_empty_15 : decode cX4_empty 15 = .ok (.if_icmp .ge 18, 3) := by decide +kernel
theorem dX4_empty_18 : decode cX4_empty 18 = .ok (.aload_n 0, 1) := by decide +kernel
theorem dX4_empty_19 : decode cX4_empty 19 = .ok (.getfield 20, 3) := by decide +kernel
theorem dX4_empty_22 : decode cX4_empty 22 = .ok (.iload_n 1, 1) := by decide +kernel
theorem dX4_empty_23 : decode cX4_empty 23 = .ok (.aaload, 1) := by decide +kernel
theorem dX4_empty_24 : decode cX4_empty 24 = .ok (.invokevirtual 62, 3) := by decide +kernel
theorem dX4_empty_27 : decode cX4_empty 27 = .ok (.iinc 1 1, 3) := by decide +kernel
theorem dX4_empty_30 : decode cX4_empty 30 = .ok (.goto (-21), 3) := by decide +kernel
theorem dX4_empty_33 : decode cX4_empty 33 = .ok (.aload_n 0, 1) := by decide +kernel
theorem dX4_empty_34 : decode cX4_empty 34 = .ok (.getfield 27, 3) := by decide +kernel
theorem dX4_empty_37 : decode cX4_empty 37 = .ok (.invokevirtual 63, 3) := by decide +kernel
theorem dX4_empty_40 : decode cX4_empty 40 = .ok (.aload_n 0, 1) := by decide +kernel
theorem dX4_empty_41 : decode cX4_empty 41 = .ok (.getfield 34, 3) := by decide +kernel
theorem dX4_empty_44 : decode cX4_empty 44 = .ok (.invokevirtual 64, 3) := by decide +kernel
theorem dX4_empty_47 : decode cX4_empty 47 = .ok (.return_, 1) := by decide +kernel
set_option maxRecDepth 20000 in
theorem ggX4_estimateOf_X0_leastOf : GoodIn wsX4_estimateOf wsX0_leastOf := goodIn_r _ [7, 8, 9, 10, 11, 12, 13, 14, 6, 15, 16, 17, 18, 19, 20, 31] (by decide +kernel) (by decide +kernel)
set_option maxRecDepth 20000 in
theorem gX4_estimateOf_X0_leastOf : GoodIn wsX4_estimateOf (wsV RX4 65 RX0 yX0_leastOf wsX0_leastOf) := goodIn_app (goodIn_of _ (by decide +kernel)) ggX4_estimateOf_X0_leastOf
set_option maxRecDepth 20000 in
theorem ggX4_estimateOf_X2_ofHalf : GoodIn wsX4_estimateOf wsX2_ofHalf := goodIn_r _ [25, 26, 32] (by decide +kernel) (by decide +kernel)
set_option maxRecDepth 20000 in
theorem gX4_estimateOf_X2_ofHalf : GoodIn wsX4_estimateOf (wsV RX4 69 RX2 yX2_ofHalf wsX2_ofHalf) := goodIn_app (goodIn_of _ (by decide +kernel)) ggX4_estimateOf_X2_ofHalf
theorem dX4_estimateOf_0 : decode cX4_estimateOf 0 = .ok (.iload_n 1, 1) := by decide +kernel
theorem dX4_estimateOf_1 : decode cX4_estimateOf 1 = .ok (.aload_n 0, 1) := by decide +kernel
theorem dX4_estimateOf_2 : decode cX4_estimateOf 2 = .ok (.getfield 20, 3) := by decide +kernel
theorem dX4_estimateOf_5 : decode cX4_estimateOf 5 = .ok (.arraylength, 1) := by decide +kernel
theorem dX4_estimateOf_6 : decode cX4_estimateOf 6 = .ok (.if_icmp .ge 14, 3) := by decide +kernel
theorem dX4_estimateOf_9 : decode cX4_estimateOf 9 = .ok (.aload_n 0, 1) := by decide +kernel
theorem dX4_estimateOf_10 : decode cX4_estimateOf 10 = .ok (.getfield 20, 3) := by decide +kernel
theorem dX4_estimateOf_13 : decode cX4_estimateOf 13 = .ok (.iload_n 1, 1) := by decide +kernel
theorem dX4_estimateOf_14 : decode cX4_estimateOf 14 = .ok (.aaload, 1) := by decide +kernel
theorem dX4_estimateOf_15 : decode cX4_estimateOf 15 = .ok (.iload_n 2, 1) := by decide +kernel
theorem dX4_estimateOf_16 : decode cX4_estimateOf 16 = .ok (.invokevirtual 65, 3) := by decide +kernel
theorem dX4_estimateOf_19 : decode cX4_estimateOf 19 = .ok (.ireturn, 1) := by decide +kernel
theorem dX4_estimateOf_20 : decode cX4_estimateOf 20 = .ok (.aload_n 0, 1) := by decide +kernel
theorem dX4_estimateOf_21 : decode cX4_estimateOf 21 = .ok (.getfield 12, 3) := by decide +kernel
theorem dX4_estimateOf_24 : decode cX4_estimateOf 24 = .ok (.iload_n 1, 1) := by decide +kernel
theorem dX4_estimateOf_25 : decode cX4_estimateOf 25 = .ok (.iload_n 2, 1) := by decide +kernel
theorem dX4_estimateOf_26 : decode cX4_estimateOf 26 = .ok (.invokevirtual 69, 3) := by decide +kernel
theorem dX4_estimateOf_29 : decode cX4_estimateOf 29 = .ok (.ireturn, 1) := by decide +kernel
set_option maxRecDepth 20000 in
theorem ggX4_reaches_X4_estimateOf : GoodIn wsX4_reaches wsX4_estimateOf := goodIn_r _ [5, 6, 7, 8, 9, 10, 11, 12, 13, 14, 15, 16, 17, 18, 19, 20, 21, 22, 23, 24, 25, 26, 27, 28, 29, 30, 31, 32, 33, 34, 35, 36, 37] (by decide +kernel) (by decide +kernel)
set_option maxRecDepth 20000 in
theorem gX4_reaches_X4_estimateOf : GoodIn wsX4_reaches (wsV RX4 73 RX4 yX4_estimateOf wsX4_estimateOf) := goodIn_app (goodIn_of _ (by decide +kernel)) ggX4_reaches_X4_estimateOf
theorem dX4_reaches_0 : decode cX4_reaches 0 = .ok (.bipush 6, 2) := by decide +kernel
theorem dX4_reaches_2 : decode cX4_reaches 2 = .ok (.istore_n 3, 1) := by decide +kernel
theorem dX4_reaches_3 : decode cX4_reaches 3 = .ok (.iload_n 3, 1) := by decide +kernel
theorem dX4_reaches_4 : decode cX4_reaches 4 = .ok (.ifCond .lt 23, 3) := by decide +kernel
theorem dX4_reaches_7 : decode cX4_reaches 7 = .ok (.aload_n 0, 1) := by decide +kernel
theorem dX4_reaches_8 : decode cX4_reaches 8 = .ok (.iload_n 3, 1) := by decide +kernel
theorem dX4_reaches_9 : decode cX4_reaches 9 = .ok (.iload_n 1, 1) := by decide +kernel
theorem dX4_reaches_10 : decode cX4_reaches 10 = .ok (.iload_n 3, 1) := by decide +kernel
theorem dX4_reaches_11 : decode cX4_reaches 11 = .ok (.ishr, 1) := by decide +kernel
theorem dX4_reaches_12 : decode cX4_reaches 12 = .ok (.invokevirtual 73, 3) := by decide +kernel
theorem dX4_reaches_15 : decode cX4_reaches 15 = .ok (.iload_n 2, 1) := by decide +kernel
theorem dX4_reaches_16 : decode cX4_reaches 16 = .ok (.if_icmp .ge 5, 3) := by decide +kernel
theorem dX4_reaches_19 : decode cX4_reaches 19 = .ok (.iconst 0, 1) := by decide +kernel
theorem dX4_reaches_20 : decode cX4_reaches 20 = .ok (.ireturn, 1) := by decide +kernel
theorem dX4_reaches_21 : decode cX4_reaches 21 = .ok (.iinc 3 (-1), 3) := by decide +kernel
theorem dX4_reaches_24 : decode cX4_reaches 24 = .ok (.goto (-21), 3) := by decide +kernel
theorem dX4_reaches_27 : decode cX4_reaches 27 = .ok (.iconst 1, 1) := by decide +kernel
theorem dX4_reaches_28 : decode cX4_reaches 28 = .ok (.ireturn, 1) := by decide +kernel
set_option maxRecDepth 20000 in
theorem ggX5_init_X4_init : GoodIn wsX5_init wsX4_init := goodIn_r _ [10, 11, 2, 3, 12, 13, 14, 15, 16, 17, 18, 19, 20, 21, 22, 23, 24, 25, 26, 27, 28, 29, 30, 31, 32, 33, 34, 35, 36, 37, 38, 39, 40, 41, 42, 43, 44, 45, 46, 47, 53, 49, 50, 51, 52, 54, 55, 56, 57, 58, 59, 60] (by decide +kernel) (by decide +kernel)
set_option maxRecDepth 20000 in
theorem gX5_init_X4_init : GoodIn wsX5_init (wsX4_init) := ggX5_init_X4_init
theorem dX5_init_0 : decode cX5_init 0 = .ok (.aload_n 0, 1) := by decide +kernel
theorem dX5_init_1 : decode cX5_init 1 = .ok (.invokespecial 1, 3) := by decide +kernel
theorem dX5_init_4 : decode cX5_init 4 = .ok (.aload_n 0, 1) := by decide +kernel
theorem dX5_init_5 : decode cX5_init 5 = .ok (.iconst 4, 1) := by decide +kernel
theorem dX5_init_6 : decode cX5_init 6 = .ok (.anewarray 9, 3) := by decide +kernel
theorem dX5_init_9 : decode cX5_init 9 = .ok (.putfield 11, 3) := by decide +kernel
theorem dX5_init_12 : decode cX5_init 12 = .ok (.iconst 0, 1) := by decide +kernel
theorem dX5_init_13 : decode cX5_init 13 = .ok (.istore_n 1, 1) := by decide +kernel
theorem dX5_init_14 : decode cX5_init 14 = .ok (.iload_n 1, 1) := by decide +kernel
theorem dX5_init_15 : decode cX5_init 15 = .ok (.aload_n 0, 1) := by decide +kernel
theorem dX5_init_16 : decode cX5_init 16 = .ok (.getfield 11, 3) := by decide +kernel
theorem dX5_init_19 : decode cX5_init 19 = .ok (.arraylength, 1) := by decide +kernel
theorem dX5_init_20 : decode cX5_init 20 = .ok (.if_icmp .ge 22, 3) := by decide +kernel
theorem dX5_init_23 : decode cX5_init 23 = .ok (.aload_n 0, 1) := by decide +kernel
theorem dX5_init_24 : decode cX5_init 24 = .ok (.getfield 11, 3) := by decide +kernel
theorem dX5_init_27 : decode cX5_init 27 = .ok (.iload_n 1, 1) := by decide +kernel
theorem dX5_init_28 : decode cX5_init 28 = .ok (.new 9, 3) := by decide +kernel
theorem dX5_init_31 : decode cX5_init 31 = .ok (.dup, 1) := by decide +kernel
theorem dX5_init_32 : decode cX5_init 32 = .ok (.invokespecial 15, 3) := by decide +kernel
theorem dX5_init_35 : decode cX5_init 35 = .ok (.aastore, 1) := by decide +kernel
theorem dX5_init_36 : decode cX5_init 36 = .ok (.iinc 1 1, 3) := by decide +kernel
theorem dX5_init_39 : decode cX5_init 39 = .ok (.goto (-25), 3) := by decide +kernel
theorem dX5_init_42 : decode cX5_init 42 = .ok (.return_, 1) := by decide +kernel
set_option maxRecDepth 20000 in
theorem ggX5_add_X5_requirePlace : GoodIn wsX5_add wsX5_requirePlace := goodIn_ca (goodIn_r _ [6, 7, 8] (by decide +kernel) (by decide +kernel)) (goodIn_sub (fun _ h => List.mem_cons_of_mem _ (List.mem_append_left _ (List.mem_append_left _ (List.mem_append_right _ h)))) (by decide +kernel))
set_option maxRecDepth 20000 in
theorem gX5_add_X5_requirePlace : GoodIn wsX5_add (va_wsS RX5 16 yX5_requirePlace wsX5_requirePlace) := goodIn_app (goodIn_of _ (by decide +kernel)) ggX5_add_X5_requirePlace
set_option maxRecDepth 20000 in
theorem ggX5_add_X5_requireWithin : GoodIn wsX5_add wsX5_requireWithin := goodIn_ca (goodIn_r _ [11, 12, 13] (by decide +kernel) (by decide +kernel)) (goodIn_sub (fun _ h => List.mem_cons_of_mem _ (List.mem_append_left _ (List.mem_append_right _ h))) (by decide +kernel))
set_option maxRecDepth 20000 in
theorem gX5_add_X5_requireWithin : GoodIn wsX5_add (va_wsS RX5 20 yX5_requireWithin wsX5_requireWithin) := goodIn_app (goodIn_of _ (by decide +kernel)) ggX5_add_X5_requireWithin
set_option maxRecDepth 20000 in
theorem ggX5_add_X2_sum : GoodIn wsX5_add wsX2_sum := goodIn_r _ [18, 19, 114] (by decide +kernel) (by decide +kernel)
set_option maxRecDepth 20000 in
theorem gX5_add_X2_sum : GoodIn wsX5_add (wsV RX5 28 RX2 yX2_sum wsX2_sum) := goodIn_app (goodIn_of _ (by decide +kernel)) ggX5_add_X2_sum
set_option maxRecDepth 20000 in
theorem ggX5_add_X5_requireRoom : GoodIn wsX5_add wsX5_requireRoom := goodIn_ca (goodIn_r _ [22, 23, 24, 25] (by decide +kernel) (by decide +kernel)) (goodIn_sub (fun _ h => List.mem_cons_of_mem _ (List.mem_append_right _ h)) (by decide +kernel))
set_option maxRecDepth 20000 in
theorem gX5_add_X5_requireRoom : GoodIn wsX5_add (va_wsS RX5 34 yX5_requireRoom wsX5_requireRoom) := goodIn_app (goodIn_of _ (by decide +kernel)) ggX5_add_X5_requireRoom
set_option maxRecDepth 20000 in
theorem ggX5_add_X4_put : GoodIn wsX5_add wsX4_put := goodIn_r _ [30, 31, 32, 33, 34, 35, 36, 37, 17, 38, 19, 39, 40, 41, 42, 43, 44, 45, 46, 47, 48, 49, 50, 51, 52, 53, 54, 55, 56, 57, 58, 59, 60, 61, 62, 63, 64, 65, 66, 67, 68, 69, 70, 71, 72, 73, 74, 75, 76, 77, 78, 79, 80, 81, 82, 83, 84, 85, 86, 87, 88, 89, 90, 91, 92, 93, 94, 95, 96, 97, 98, 99, 100, 101, 102, 103, 104, 105, 106, 107, 108, 110, 111, 112, 113, 114, 115, 116, 117, 118, 119, 120, 121] (by decide +kernel) (by decide +kernel)
set_option maxRecDepth 20000 in
theorem gX5_add_X4_put : GoodIn wsX5_add (wsV RX5 38 RX4 yX4_put wsX4_put) := goodIn_app (goodIn_of _ (by decide +kernel)) ggX5_add_X4_put
theorem dX5_add_0 : decode cX5_add 0 = .ok (.iload_n 1, 1) := by decide +kernel
theorem dX5_add_1 : decode cX5_add 1 = .ok (.iconst 4, 1) := by decide +kernel
theorem dX5_add_2 : decode cX5_add 2 = .ok (.invokestatic 16, 3) := by decide +kernel
theorem dX5_add_5 : decode cX5_add 5 = .ok (.iload_n 2, 1) := by decide +kernel
theorem dX5_add_6 : decode cX5_add 6 = .ok (.bipush 64, 2) := by decide +kernel
theorem dX5_add_8 : decode cX5_add 8 = .ok (.invokestatic 16, 3) := by decide +kernel
theorem dX5_add_11 : decode cX5_add 11 = .ok (.iload_n 3, 1) := by decide +kernel
theorem dX5_add_12 : decode cX5_add 12 = .ok (.iconst 1, 1) := by decide +kernel
theorem dX5_add_13 : decode cX5_add 13 = .ok (.sipush 1000, 3) := by decide +kernel
theorem dX5_add_16 : decode cX5_add 16 = .ok (.invokestatic 20, 3) := by decide +kernel
theorem dX5_add_19 : decode cX5_add 19 = .ok (.aload_n 0, 1) := by decide +kernel
theorem dX5_add_20 : decode cX5_add 20 = .ok (.getfield 11, 3) := by decide +kernel
theorem dX5_add_23 : decode cX5_add 23 = .ok (.iload_n 1, 1) := by decide +kernel
theorem dX5_add_24 : decode cX5_add 24 = .ok (.aaload, 1) := by decide +kernel
theorem dX5_add_25 : decode cX5_add 25 = .ok (.astore 4, 2) := by decide +kernel
theorem dX5_add_27 : decode cX5_add 27 = .ok (.aload 4, 2) := by decide +kernel
theorem dX5_add_29 : decode cX5_add 29 = .ok (.getfield 24, 3) := by decide +kernel
theorem dX5_add_32 : decode cX5_add 32 = .ok (.invokevirtual 28, 3) := by decide +kernel
theorem dX5_add_35 : decode cX5_add 35 = .ok (.iload_n 3, 1) := by decide +kernel
theorem dX5_add_36 : decode cX5_add 36 = .ok (.iadd, 1) := by decide +kernel
theorem dX5_add_37 : decode cX5_add 37 = .ok (.invokestatic 34, 3) := by decide +kernel
theorem dX5_add_40 : decode cX5_add 40 = .ok (.aload 4, 2) := by decide +kernel
theorem dX5_add_42 : decode cX5_add 42 = .ok (.iload_n 2, 1) := by decide +kernel
theorem dX5_add_43 : decode cX5_add 43 = .ok (.iload_n 3, 1) := by decide +kernel
theorem dX5_add_44 : decode cX5_add 44 = .ok (.invokevirtual 38, 3) := by decide +kernel
theorem dX5_add_47 : decode cX5_add 47 = .ok (.aload 4, 2) := by decide +kernel
theorem dX5_add_49 : decode cX5_add 49 = .ok (.getfield 24, 3) := by decide +kernel
theorem dX5_add_52 : decode cX5_add 52 = .ok (.invokevirtual 28, 3) := by decide +kernel
theorem dX5_add_55 : decode cX5_add 55 = .ok (.ireturn, 1) := by decide +kernel
set_option maxRecDepth 20000 in
theorem ggX5_merge_X5_requirePlace : GoodIn wsX5_merge wsX5_requirePlace := goodIn_ca (goodIn_r _ [8, 9, 10] (by decide +kernel) (by decide +kernel)) (goodIn_sub (fun _ h => List.mem_cons_of_mem _ (List.mem_append_left _ (List.mem_append_right _ h))) (by decide +kernel))
set_option maxRecDepth 20000 in
theorem gX5_merge_X5_requirePlace : GoodIn wsX5_merge (va_wsS RX5 16 yX5_requirePlace wsX5_requirePlace) := goodIn_app (goodIn_of _ (by decide +kernel)) ggX5_merge_X5_requirePlace
set_option maxRecDepth 20000 in
theorem ggX5_merge_X2_sum : GoodIn wsX5_merge wsX2_sum := goodIn_r _ [15, 16, 82] (by decide +kernel) (by decide +kernel)
set_option maxRecDepth 20000 in
theorem gX5_merge_X2_sum : GoodIn wsX5_merge (wsV RX5 28 RX2 yX2_sum wsX2_sum) := goodIn_app (goodIn_of _ (by decide +kernel)) ggX5_merge_X2_sum
set_option maxRecDepth 20000 in
theorem ggX5_merge_X5_requireRoom : GoodIn wsX5_merge wsX5_requireRoom := goodIn_ca (goodIn_r _ [19, 20, 21, 22] (by decide +kernel) (by decide +kernel)) (goodIn_sub (fun _ h => List.mem_cons_of_mem _ (List.mem_append_right _ h)) (by decide +kernel))
set_option maxRecDepth 20000 in
theorem gX5_merge_X5_requireRoom : GoodIn wsX5_merge (va_wsS RX5 34 yX5_requireRoom wsX5_requireRoom) := goodIn_app (goodIn_of _ (by decide +kernel)) ggX5_merge_X5_requireRoom
set_option maxRecDepth 20000 in
theorem ggX5_merge_X4_join : GoodIn wsX5_merge wsX4_join := goodIn_r _ [27, 28, 29, 30, 31, 32, 33, 34, 14, 35, 16, 36, 37, 38, 39, 40, 41, 42, 43, 44, 45, 46, 47, 48, 49, 50, 51, 52, 53, 54, 55, 56, 57, 58, 59, 60, 61, 62, 63, 64, 65, 66, 67, 68, 69, 70, 71, 72, 73, 74, 75, 76, 78, 79, 80, 81, 82, 83, 84, 85, 86, 87, 88, 89] (by decide +kernel) (by decide +kernel)
set_option maxRecDepth 20000 in
theorem gX5_merge_X4_join : GoodIn wsX5_merge (wsV RX5 48 RX4 yX4_join wsX4_join) := goodIn_app (goodIn_of _ (by decide +kernel)) ggX5_merge_X4_join
theorem dX5_merge_0 : decode cX5_merge 0 = .ok (.iload_n 1, 1) := by decide +kernel
theorem dX5_merge_1 : decode cX5_merge 1 = .ok (.iconst 4, 1) := by decide +kernel
theorem dX5_merge_2 : decode cX5_merge 2 = .ok (.invokestatic 16, 3) := by decide +kernel
theorem dX5_merge_5 : decode cX5_merge 5 = .ok (.iload_n 2, 1) := by decide +kernel
theorem dX5_merge_6 : decode cX5_merge 6 = .ok (.iconst 4, 1) := by decide +kernel
theorem dX5_merge_7 : decode cX5_merge 7 = .ok (.invokestatic 16, 3) := by decide +kernel
theorem dX5_merge_10 : decode cX5_merge 10 = .ok (.iload_n 1, 1) := by decide +kernel
theorem dX5_merge_11 : decode cX5_merge 11 = .ok (.iload_n 2, 1) := by decide +kernel
theorem dX5_merge_12 : decode cX5_merge 12 = .ok (.if_icmp .ne 13, 3) := by decide +kernel
theorem dX5_merge_15 : decode cX5_merge 15 = .ok (.new 41, 3) := by decide +kernel
theorem dX5_merge_18 : decode cX5_merge 18 = .ok (.dup, 1) := by decide +kernel
theorem dX5_merge_19 : decode cX5_merge 19 = .ok (.ldc 43, 2) := by decide +kernel
theorem dX5_merge_21 : decode cX5_merge 21 = .ok (.invokespecial 45, 3) := by decide +kernel
theorem dX5_merge_24 : decode cX5_merge 24 = .ok (.athrow, 1) := by decide +kernel
theorem dX5_merge_25 : decode cX5_merge 25 = .ok (.aload_n 0, 1) := by decide +kernel
theorem dX5_merge_26 : decode cX5_merge 26 = .ok (.getfield 11, 3) := by decide +kernel
theorem dX5_merge_29 : decode cX5_merge 29 = .ok (.iload_n 1, 1) := by decide +kernel
theorem dX5_merge_30 : decode cX5_merge 30 = .ok (.aaload, 1) := by decide +kernel
theorem dX5_merge_31 : decode cX5_merge 31 = .ok (.astore_n 3, 1) := by decide +kernel
theorem dX5_merge_32 : decode cX5_merge 32 = .ok (.aload_n 0, 1) := by decide +kernel
theorem dX5_merge_33 : decode cX5_merge 33 = .ok (.getfield 11, 3) := by decide +kernel
theorem dX5_merge_36 : decode cX5_merge 36 = .ok (.iload_n 2, 1) := by decide +kernel
theorem dX5_merge_37 : decode cX5_merge 37 = .ok (.aaload, 1) := by decide +kernel
theorem dX5_merge_38 : decode cX5_merge 38 = .ok (.astore 4, 2) := by decide +kernel
theorem dX5_merge_40 : decode cX5_merge 40 = .ok (.aload_n 3, 1) := by decide +kernel
theorem dX5_merge_41 : decode cX5_merge 41 = .ok (.getfield 24, 3) := by decide +kernel
theorem dX5_merge_44 : decode cX5_merge 44 = .ok (.invokevirtual 28, 3) := by decide +kernel
theorem dX5_merge_47 : decode cX5_merge 47 = .ok (.aload 4, 2) := by decide +kernel
theorem dX5_merge_49 : decode cX5_merge 49 = .ok (.getfield 24, 3) := by decide +kernel
theorem dX5_merge_52 : decode cX5_merge 52 = .ok (.invokevirtual 28, 3) := by decide +kernel
theorem dX5_merge_55 : decode cX5_merge 55 = .ok (.iadd, 1) := by decide +kernel
theorem dX5_merge_56 : decode cX5_merge 56 = .ok (.invokestatic 34, 3) := by decide +kernel
theorem dX5_merge_59 : decode cX5_merge 59 = .ok (.aload_n 3, 1) := by decide +kernel
theorem dX5_merge_60 : decode cX5_merge 60 = .ok (.aload 4, 2) := by decide +kernel
theorem dX5_merge_62 : decode cX5_merge 62 = .ok (.invokevirtual 48, 3) := by decide +kernel
theorem dX5_merge_65 : decode cX5_merge 65 = .ok (.aload_n 3, 1) := by decide +kernel
theorem dX5_merge_66 : decode cX5_merge 66 = .ok (.getfield 24, 3) := by decide +kernel
theorem dX5_merge_69 : decode cX5_merge 69 = .ok (.invokevirtual 28, 3) := by decide +kernel
theorem dX5_merge_72 : decode cX5_merge 72 = .ok (.ireturn, 1) := by decide +kernel
set_option maxRecDepth 20000 in
theorem ggX5_clear_X5_requirePlace : GoodIn wsX5_clear wsX5_requirePlace := goodIn_ca (goodIn_r _ [6, 7, 8] (by decide +kernel) (by decide +kernel)) (goodIn_sub (fun _ h => List.mem_cons_of_mem _ (List.mem_append_right _ h)) (by decide +kernel))
set_option maxRecDepth 20000 in
theorem gX5_clear_X5_requirePlace : GoodIn wsX5_clear (va_wsS RX5 16 yX5_requirePlace wsX5_requirePlace) := goodIn_app (goodIn_of _ (by decide +kernel)) ggX5_clear_X5_requirePlace
set_option maxRecDepth 20000 in
theorem ggX5_clear_X2_sum : GoodIn wsX5_clear wsX2_sum := goodIn_r _ [13, 14, 58] (by decide +kernel) (by decide +kernel)
set_option maxRecDepth 20000 in
theorem gX5_clear_X2_sum : GoodIn wsX5_clear (wsV RX5 28 RX2 yX2_sum wsX2_sum) := goodIn_app (goodIn_of _ (by decide +kernel)) ggX5_clear_X2_sum
set_option maxRecDepth 20000 in
theorem ggX5_clear_X4_empty : GoodIn wsX5_clear wsX4_empty := goodIn_r _ [19, 20, 21, 22, 23, 24, 25, 26, 12, 27, 14, 28, 29, 30, 31, 32, 33, 34, 35, 36, 37, 38, 39, 40, 41, 42, 43, 44, 45, 46, 47, 48, 49, 50, 51, 52, 54, 55, 56, 57, 58, 59, 60, 61, 62, 63, 64, 65] (by decide +kernel) (by decide +kernel)
set_option maxRecDepth 20000 in
theorem gX5_clear_X4_empty : GoodIn wsX5_clear (wsV RX5 52 RX4 yX4_empty wsX4_empty) := goodIn_app (goodIn_of _ (by decide +kernel)) ggX5_clear_X4_empty
theorem dX5_clear_0 : decode cX5_clear 0 = .ok (.iload_n 1, 1) := by decide +kernel
theorem dX5_clear_1 : decode cX5_clear 1 = .ok (.iconst 4, 1) := by decide +kernel
theorem dX5_clear_2 : decode cX5_clear 2 = .ok (.invokestatic 16, 3) := by decide +kernel
theorem dX5_clear_5 : decode cX5_clear 5 = .ok (.aload_n 0, 1) := by decide +kernel
theorem dX5_clear_6 : decode cX5_clear 6 = .ok (.getfield 11, 3) := by decide +kernel
theorem dX5_clear_9 : decode cX5_clear 9 = .ok (.iload_n 1, 1) := by decide +kernel
theorem dX5_clear_10 : decode cX5_clear 10 = .ok (.aaload, 1) := by decide +kernel
theorem dX5_clear_11 : decode cX5_clear 11 = .ok (.getfield 24, 3) := by decide +kernel
theorem dX5_clear_14 : decode cX5_clear 14 = .ok (.invokevirtual 28, 3) := by decide +kernel
theorem dX5_clear_17 : decode cX5_clear 17 = .ok (.istore_n 2, 1) := by decide +kernel
theorem dX5_clear_18 : decode cX5_clear 18 = .ok (.aload_n 0, 1) := by decide +kernel
theorem dX5_clear_19 : decode cX5_clear 19 = .ok (.getfield 11, 3) := by decide +kernel
theorem dX5_clear_22 : decode cX5_clear 22 = .ok (.iload_n 1, 1) := by decide +kernel
theorem dX5_clear_23 : decode cX5_clear 23 = .ok (.aaload, 1) := by decide +kernel
theorem dX5_clear_24 : decode cX5_clear 24 = .ok (.invokevirtual 52, 3) := by decide +kernel
theorem dX5_clear_27 : decode cX5_clear 27 = .ok (.iload_n 2, 1) := by decide +kernel
theorem dX5_clear_28 : decode cX5_clear 28 = .ok (.ireturn, 1) := by decide +kernel
set_option maxRecDepth 20000 in
theorem ggX5_total_X5_requirePlace : GoodIn wsX5_total wsX5_requirePlace := goodIn_ca (goodIn_r _ [6, 7, 8] (by decide +kernel) (by decide +kernel)) (goodIn_sub (fun _ h => List.mem_cons_of_mem _ (List.mem_append_right _ h)) (by decide +kernel))
set_option maxRecDepth 20000 in
theorem gX5_total_X5_requirePlace : GoodIn wsX5_total (va_wsS RX5 16 yX5_requirePlace wsX5_requirePlace) := goodIn_app (goodIn_of _ (by decide +kernel)) ggX5_total_X5_requirePlace
set_option maxRecDepth 20000 in
theorem ggX5_total_X2_sum : GoodIn wsX5_total wsX2_sum := goodIn_r _ [13, 14, 20] (by decide +kernel) (by decide +kernel)
set_option maxRecDepth 20000 in
theorem gX5_total_X2_sum : GoodIn wsX5_total (wsV RX5 28 RX2 yX2_sum wsX2_sum) := goodIn_app (goodIn_of _ (by decide +kernel)) ggX5_total_X2_sum
theorem dX5_total_0 : decode cX5_total 0 = .ok (.iload_n 1, 1) := by decide +kernel
theorem dX5_total_1 : decode cX5_total 1 = .ok (.iconst 4, 1) := by decide +kernel
theorem dX5_total_2 : decode cX5_total 2 = .ok (.invokestatic 16, 3) := by decide +kernel
theorem dX5_total_5 : decode cX5_total 5 = .ok (.aload_n 0, 1) := by decide +kernel
theorem dX5_total_6 : decode cX5_total 6 = .ok (.getfield 11, 3) := by decide +kernel
theorem dX5_total_9 : decode cX5_total 9 = .ok (.iload_n 1, 1) := by decide +kernel
theorem dX5_total_10 : decode cX5_total 10 = .ok (.aaload, 1) := by decide +kernel
theorem dX5_total_11 : decode cX5_total 11 = .ok (.getfield 24, 3) := by decide +kernel
theorem dX5_total_14 : decode cX5_total 14 = .ok (.invokevirtual 28, 3) := by decide +kernel
theorem dX5_total_17 : decode cX5_total 17 = .ok (.ireturn, 1) := by decide +kernel
set_option maxRecDepth 20000 in
theorem ggX5_count_X5_requirePlace : GoodIn wsX5_count wsX5_requirePlace := goodIn_ca (goodIn_r _ [6, 7, 8] (by decide +kernel) (by decide +kernel)) (goodIn_sub (fun _ h => List.mem_cons_of_mem _ (List.mem_append_right _ h)) (by decide +kernel))
set_option maxRecDepth 20000 in
theorem gX5_count_X5_requirePlace : GoodIn wsX5_count (va_wsS RX5 16 yX5_requirePlace wsX5_requirePlace) := goodIn_app (goodIn_of _ (by decide +kernel)) ggX5_count_X5_requirePlace
set_option maxRecDepth 20000 in
theorem ggX5_count_X2_ofHalf : GoodIn wsX5_count wsX2_ofHalf := goodIn_r _ [13, 14, 20] (by decide +kernel) (by decide +kernel)
set_option maxRecDepth 20000 in
theorem gX5_count_X2_ofHalf : GoodIn wsX5_count (wsV RX5 55 RX2 yX2_ofHalf wsX2_ofHalf) := goodIn_app (goodIn_of _ (by decide +kernel)) ggX5_count_X2_ofHalf
theorem dX5_count_0 : decode cX5_count 0 = .ok (.iload_n 1, 1) := by decide +kernel
theorem dX5_count_1 : decode cX5_count 1 = .ok (.iconst 4, 1) := by decide +kernel
theorem dX5_count_2 : decode cX5_count 2 = .ok (.invokestatic 16, 3) := by decide +kernel
theorem dX5_count_5 : decode cX5_count 5 = .ok (.iload_n 2, 1) := by decide +kernel
theorem dX5_count_6 : decode cX5_count 6 = .ok (.bipush 64, 2) := by decide +kernel
theorem dX5_count_8 : decode cX5_count 8 = .ok (.invokestatic 16, 3) := by decide +kernel
theorem dX5_count_11 : decode cX5_count 11 = .ok (.aload_n 0, 1) := by decide +kernel
theorem dX5_count_12 : decode cX5_count 12 = .ok (.getfield 11, 3) := by decide +kernel
theorem dX5_count_15 : decode cX5_count 15 = .ok (.iload_n 1, 1) := by decide +kernel
theorem dX5_count_16 : decode cX5_count 16 = .ok (.aaload, 1) := by decide +kernel
theorem dX5_count_17 : decode cX5_count 17 = .ok (.getfield 24, 3) := by decide +kernel
theorem dX5_count_20 : decode cX5_count 20 = .ok (.iconst 0, 1) := by decide +kernel
theorem dX5_count_21 : decode cX5_count 21 = .ok (.iload_n 2, 1) := by decide +kernel
theorem dX5_count_22 : decode cX5_count 22 = .ok (.invokevirtual 55, 3) := by decide +kernel
theorem dX5_count_25 : decode cX5_count 25 = .ok (.ireturn, 1) := by decide +kernel
set_option maxRecDepth 20000 in
theorem ggX5_countOfRange_X5_requirePlace : GoodIn wsX5_countOfRange wsX5_requirePlace := goodIn_ca (goodIn_r _ [6, 7, 8] (by decide +kernel) (by decide +kernel)) (goodIn_sub (fun _ h => List.mem_cons_of_mem _ (List.mem_append_left _ (List.mem_append_right _ h))) (by decide +kernel))
set_option maxRecDepth 20000 in
theorem gX5_countOfRange_X5_requirePlace : GoodIn wsX5_countOfRange (va_wsS RX5 16 yX5_requirePlace wsX5_requirePlace) := goodIn_app (goodIn_of _ (by decide +kernel)) ggX5_countOfRange_X5_requirePlace
set_option maxRecDepth 20000 in
theorem ggX5_countOfRange_X5_requireRange : GoodIn wsX5_countOfRange wsX5_requireRange := goodIn_ca (goodIn_ca (goodIn_r _ [11, 12, 13, 3, 4, 5, 6, 7, 8] (by decide +kernel) (by decide +kernel)) (goodIn_sub (fun _ h => List.mem_cons_of_mem _ (List.mem_append_right _ h)) (by decide +kernel))) (goodIn_sub (fun _ h => List.mem_cons_of_mem _ (List.mem_append_left _ (List.mem_append_right _ h))) (by decide +kernel))
set_option maxRecDepth 20000 in
theorem gX5_countOfRange_X5_requireRange : GoodIn wsX5_countOfRange (va_wsS RX5 59 yX5_requireRange wsX5_requireRange) := goodIn_app (goodIn_of _ (by decide +kernel)) ggX5_countOfRange_X5_requireRange
set_option maxRecDepth 20000 in
theorem ggX5_countOfRange_X2_ofItems : GoodIn wsX5_countOfRange wsX2_ofItems := goodIn_r _ [18, 19, 25] (by decide +kernel) (by decide +kernel)
set_option maxRecDepth 20000 in
theorem gX5_countOfRange_X2_ofItems : GoodIn wsX5_countOfRange (wsV RX5 62 RX2 yX2_ofItems wsX2_ofItems) := goodIn_app (goodIn_of _ (by decide +kernel)) ggX5_countOfRange_X2_ofItems
theorem dX5_countOfRange_0 : decode cX5_countOfRange 0 = .ok (.iload_n 1, 1) := by decide +kernel
theorem dX5_countOfRange_1 : decode cX5_countOfRange 1 = .ok (.iconst 4, 1) := by decide +kernel
theorem dX5_countOfRange_2 : decode cX5_countOfRange 2 = .ok (.invokestatic 16, 3) := by decide +kernel
theorem dX5_countOfRange_5 : decode cX5_countOfRange 5 = .ok (.iload_n 2, 1) := by decide +kernel
theorem dX5_countOfRange_6 : decode cX5_countOfRange 6 = .ok (.iload_n 3, 1) := by decide +kernel
theorem dX5_countOfRange_7 : decode cX5_countOfRange 7 = .ok (.invokestatic 59, 3) := by decide +kernel
theorem dX5_countOfRange_10 : decode cX5_countOfRange 10 = .ok (.aload_n 0, 1) := by decide +kernel
theorem dX5_countOfRange_11 : decode cX5_countOfRange 11 = .ok (.getfield 11, 3) := by decide +kernel
theorem dX5_countOfRange_14 : decode cX5_countOfRange 14 = .ok (.iload_n 1, 1) := by decide +kernel
theorem dX5_countOfRange_15 : decode cX5_countOfRange 15 = .ok (.aaload, 1) := by decide +kernel
theorem dX5_countOfRange_16 : decode cX5_countOfRange 16 = .ok (.getfield 24, 3) := by decide +kernel
theorem dX5_countOfRange_19 : decode cX5_countOfRange 19 = .ok (.iload_n 2, 1) := by decide +kernel
theorem dX5_countOfRange_20 : decode cX5_countOfRange 20 = .ok (.iload_n 3, 1) := by decide +kernel
theorem dX5_countOfRange_21 : decode cX5_countOfRange 21 = .ok (.invokevirtual 62, 3) := by decide +kernel
theorem dX5_countOfRange_24 : decode cX5_countOfRange 24 = .ok (.ireturn, 1) := by decide +kernel
set_option maxRecDepth 20000 in
theorem ggX5_product_X5_requirePlace : GoodIn wsX5_product wsX5_requirePlace := goodIn_ca (goodIn_r _ [6, 7, 8] (by decide +kernel) (by decide +kernel)) (goodIn_sub (fun _ h => List.mem_cons_of_mem _ (List.mem_append_right _ h)) (by decide +kernel))
set_option maxRecDepth 20000 in
theorem gX5_product_X5_requirePlace : GoodIn wsX5_product (va_wsS RX5 16 yX5_requirePlace wsX5_requirePlace) := goodIn_app (goodIn_of _ (by decide +kernel)) ggX5_product_X5_requirePlace
set_option maxRecDepth 20000 in
theorem ggX5_product_X2_times : GoodIn wsX5_product wsX2_times := goodIn_r _ [13, 14, 20] (by decide +kernel) (by decide +kernel)
set_option maxRecDepth 20000 in
theorem gX5_product_X2_times : GoodIn wsX5_product (wsV RX5 65 RX2 yX2_times wsX2_times) := goodIn_app (goodIn_of _ (by decide +kernel)) ggX5_product_X2_times
theorem dX5_product_0 : decode cX5_product 0 = .ok (.iload_n 1, 1) := by decide +kernel
theorem dX5_product_1 : decode cX5_product 1 = .ok (.iconst 4, 1) := by decide +kernel
theorem dX5_product_2 : decode cX5_product 2 = .ok (.invokestatic 16, 3) := by decide +kernel
theorem dX5_product_5 : decode cX5_product 5 = .ok (.iload_n 2, 1) := by decide +kernel
theorem dX5_product_6 : decode cX5_product 6 = .ok (.iconst 4, 1) := by decide +kernel
theorem dX5_product_7 : decode cX5_product 7 = .ok (.invokestatic 16, 3) := by decide +kernel
theorem dX5_product_10 : decode cX5_product 10 = .ok (.aload_n 0, 1) := by decide +kernel
theorem dX5_product_11 : decode cX5_product 11 = .ok (.getfield 11, 3) := by decide +kernel
theorem dX5_product_14 : decode cX5_product 14 = .ok (.iload_n 1, 1) := by decide +kernel
theorem dX5_product_15 : decode cX5_product 15 = .ok (.aaload, 1) := by decide +kernel
theorem dX5_product_16 : decode cX5_product 16 = .ok (.getfield 24, 3) := by decide +kernel
theorem dX5_product_19 : decode cX5_product 19 = .ok (.aload_n 0, 1) := by decide +kernel
theorem dX5_product_20 : decode cX5_product 20 = .ok (.getfield 11, 3) := by decide +kernel
theorem dX5_product_23 : decode cX5_product 23 = .ok (.iload_n 2, 1) := by decide +kernel
theorem dX5_product_24 : decode cX5_product 24 = .ok (.aaload, 1) := by decide +kernel
theorem dX5_product_25 : decode cX5_product 25 = .ok (.getfield 24, 3) := by decide +kernel
theorem dX5_product_28 : decode cX5_product 28 = .ok (.invokevirtual 65, 3) := by decide +kernel
theorem dX5_product_31 : decode cX5_product 31 = .ok (.lreturn, 1) := by decide +kernel
set_option maxRecDepth 20000 in
theorem ggX5_column_X5_requirePlace : GoodIn wsX5_column wsX5_requirePlace := goodIn_ca (goodIn_r _ [4, 5, 6] (by decide +kernel) (by decide +kernel)) (goodIn_sub (fun _ h => List.mem_cons_of_mem _ (List.mem_append_right _ h)) (by decide +kernel))
set_option maxRecDepth 20000 in
theorem gX5_column_X5_requirePlace : GoodIn wsX5_column (va_wsS RX5 16 yX5_requirePlace wsX5_requirePlace) := goodIn_app (goodIn_of _ (by decide +kernel)) ggX5_column_X5_requirePlace
set_option maxRecDepth 20000 in
theorem ggX5_column_X0_columnOf : GoodIn wsX5_column wsX0_columnOf := goodIn_r _ [10, 11, 12] (by decide +kernel) (by decide +kernel)
set_option maxRecDepth 20000 in
theorem gX5_column_X0_columnOf : GoodIn wsX5_column (va_wsS RX5 71 yX0_columnOf wsX0_columnOf) := goodIn_app (goodIn_of _ (by decide +kernel)) ggX5_column_X0_columnOf
theorem dX5_column_0 : decode cX5_column 0 = .ok (.iload_n 1, 1) := by decide +kernel
theorem dX5_column_1 : decode cX5_column 1 = .ok (.iconst 3, 1) := by decide +kernel
theorem dX5_column_2 : decode cX5_column 2 = .ok (.invokestatic 16, 3) := by decide +kernel
theorem dX5_column_5 : decode cX5_column 5 = .ok (.iload_n 2, 1) := by decide +kernel
theorem dX5_column_6 : decode cX5_column 6 = .ok (.bipush 64, 2) := by decide +kernel
theorem dX5_column_8 : decode cX5_column 8 = .ok (.invokestatic 16, 3) := by decide +kernel
theorem dX5_column_11 : decode cX5_column 11 = .ok (.iload_n 1, 1) := by decide +kernel
theorem dX5_column_12 : decode cX5_column 12 = .ok (.iload_n 2, 1) := by decide +kernel
theorem dX5_column_13 : decode cX5_column 13 = .ok (.invokestatic 71, 3) := by decide +kernel
theorem dX5_column_16 : decode cX5_column 16 = .ok (.ireturn, 1) := by decide +kernel
set_option maxRecDepth 20000 in
theorem ggX5_cell_X5_requirePlace : GoodIn wsX5_cell wsX5_requirePlace := goodIn_ca (goodIn_r _ [6, 7, 8] (by decide +kernel) (by decide +kernel)) (goodIn_sub (fun _ h => List.mem_cons_of_mem _ (List.mem_append_right _ h)) (by decide +kernel))
set_option maxRecDepth 20000 in
theorem gX5_cell_X5_requirePlace : GoodIn wsX5_cell (va_wsS RX5 16 yX5_requirePlace wsX5_requirePlace) := goodIn_app (goodIn_of _ (by decide +kernel)) ggX5_cell_X5_requirePlace
set_option maxRecDepth 20000 in
theorem ggX5_cell_X0_cellAt : GoodIn wsX5_cell wsX0_cellAt := goodIn_r _ [13, 14, 20] (by decide +kernel) (by decide +kernel)
set_option maxRecDepth 20000 in
theorem gX5_cell_X0_cellAt : GoodIn wsX5_cell (wsV RX5 78 RX0 yX0_cellAt wsX0_cellAt) := goodIn_app (goodIn_of _ (by decide +kernel)) ggX5_cell_X0_cellAt
theorem dX5_cell_0 : decode cX5_cell 0 = .ok (.iload_n 1, 1) := by decide +kernel
theorem dX5_cell_1 : decode cX5_cell 1 = .ok (.iconst 4, 1) := by decide +kernel
theorem dX5_cell_2 : decode cX5_cell 2 = .ok (.invokestatic 16, 3) := by decide +kernel
theorem dX5_cell_5 : decode cX5_cell 5 = .ok (.iload_n 2, 1) := by decide +kernel
theorem dX5_cell_6 : decode cX5_cell 6 = .ok (.iconst 3, 1) := by decide +kernel
theorem dX5_cell_7 : decode cX5_cell 7 = .ok (.invokestatic 16, 3) := by decide +kernel
theorem dX5_cell_10 : decode cX5_cell 10 = .ok (.iload_n 3, 1) := by decide +kernel
theorem dX5_cell_11 : decode cX5_cell 11 = .ok (.iconst 3, 1) := by decide +kernel
theorem dX5_cell_12 : decode cX5_cell 12 = .ok (.invokestatic 16, 3) := by decide +kernel
theorem dX5_cell_15 : decode cX5_cell 15 = .ok (.iload 4, 2) := by decide +kernel
theorem dX5_cell_17 : decode cX5_cell 17 = .ok (.bipush 8, 2) := by decide +kernel
theorem dX5_cell_19 : decode cX5_cell 19 = .ok (.invokestatic 16, 3) := by decide +kernel
theorem dX5_cell_22 : decode cX5_cell 22 = .ok (.aload_n 0, 1) := by decide +kernel
theorem dX5_cell_23 : decode cX5_cell 23 = .ok (.getfield 11, 3) := by decide +kernel
theorem dX5_cell_26 : decode cX5_cell 26 = .ok (.iload_n 1, 1) := by decide +kernel
theorem dX5_cell_27 : decode cX5_cell 27 = .ok (.aaload, 1) := by decide +kernel
theorem dX5_cell_28 : decode cX5_cell 28 = .ok (.getfield 74, 3) := by decide +kernel
theorem dX5_cell_31 : decode cX5_cell 31 = .ok (.iload_n 2, 1) := by decide +kernel
theorem dX5_cell_32 : decode cX5_cell 32 = .ok (.aaload, 1) := by decide +kernel
theorem dX5_cell_33 : decode cX5_cell 33 = .ok (.iload_n 3, 1) := by decide +kernel
theorem dX5_cell_34 : decode cX5_cell 34 = .ok (.iload 4, 2) := by decide +kernel
theorem dX5_cell_36 : decode cX5_cell 36 = .ok (.invokevirtual 78, 3) := by decide +kernel
theorem dX5_cell_39 : decode cX5_cell 39 = .ok (.ireturn, 1) := by decide +kernel
set_option maxRecDepth 20000 in
theorem ggX5_estimate_X5_requirePlace : GoodIn wsX5_estimate wsX5_requirePlace := goodIn_ca (goodIn_r _ [5, 6, 7] (by decide +kernel) (by decide +kernel)) (goodIn_sub (fun _ h => List.mem_cons_of_mem _ (List.mem_append_right _ h)) (by decide +kernel))
set_option maxRecDepth 20000 in
theorem gX5_estimate_X5_requirePlace : GoodIn wsX5_estimate (va_wsS RX5 16 yX5_requirePlace wsX5_requirePlace) := goodIn_app (goodIn_of _ (by decide +kernel)) ggX5_estimate_X5_requirePlace
set_option maxRecDepth 20000 in
theorem ggX5_estimate_X4_estimateOf : GoodIn wsX5_estimate wsX4_estimateOf := goodIn_r _ [12, 13, 14, 15, 16, 17, 18, 19, 20, 21, 22, 23, 24, 25, 26, 27, 28, 29, 30, 31, 32, 33, 34, 35, 36, 37, 38, 40, 41, 42, 43, 44, 45] (by decide +kernel) (by decide +kernel)
set_option maxRecDepth 20000 in
theorem gX5_estimate_X4_estimateOf : GoodIn wsX5_estimate (wsV RX5 81 RX4 yX4_estimateOf wsX4_estimateOf) := goodIn_app (goodIn_of _ (by decide +kernel)) ggX5_estimate_X4_estimateOf
theorem dX5_estimate_0 : decode cX5_estimate 0 = .ok (.iload_n 1, 1) := by decide +kernel
theorem dX5_estimate_1 : decode cX5_estimate 1 = .ok (.iconst 4, 1) := by decide +kernel
theorem dX5_estimate_2 : decode cX5_estimate 2 = .ok (.invokestatic 16, 3) := by decide +kernel
theorem dX5_estimate_5 : decode cX5_estimate 5 = .ok (.iload_n 2, 1) := by decide +kernel
theorem dX5_estimate_6 : decode cX5_estimate 6 = .ok (.bipush 7, 2) := by decide +kernel
theorem dX5_estimate_8 : decode cX5_estimate 8 = .ok (.invokestatic 16, 3) := by decide +kernel
theorem dX5_estimate_11 : decode cX5_estimate 11 = .ok (.iload_n 3, 1) := by decide +kernel
theorem dX5_estimate_12 : decode cX5_estimate 12 = .ok (.bipush 64, 2) := by decide +kernel
theorem dX5_estimate_14 : decode cX5_estimate 14 = .ok (.iload_n 2, 1) := by decide +kernel
theorem dX5_estimate_15 : decode cX5_estimate 15 = .ok (.ishr, 1) := by decide +kernel
theorem dX5_estimate_16 : decode cX5_estimate 16 = .ok (.invokestatic 16, 3) := by decide +kernel
theorem dX5_estimate_19 : decode cX5_estimate 19 = .ok (.aload_n 0, 1) := by decide +kernel
theorem dX5_estimate_20 : decode cX5_estimate 20 = .ok (.getfield 11, 3) := by decide +kernel
theorem dX5_estimate_23 : decode cX5_estimate 23 = .ok (.iload_n 1, 1) := by decide +kernel
theorem dX5_estimate_24 : decode cX5_estimate 24 = .ok (.aaload, 1) := by decide +kernel
theorem dX5_estimate_25 : decode cX5_estimate 25 = .ok (.iload_n 2, 1) := by decide +kernel
theorem dX5_estimate_26 : decode cX5_estimate 26 = .ok (.iload_n 3, 1) := by decide +kernel
theorem dX5_estimate_27 : decode cX5_estimate 27 = .ok (.invokevirtual 81, 3) := by decide +kernel
theorem dX5_estimate_30 : decode cX5_estimate 30 = .ok (.ireturn, 1) := by decide +kernel
set_option maxRecDepth 20000 in
theorem ggX5_share_X5_requirePlace : GoodIn wsX5_share wsX5_requirePlace := goodIn_ca (goodIn_r _ [6, 7, 8] (by decide +kernel) (by decide +kernel)) (goodIn_sub (fun _ h => List.mem_cons_of_mem _ (List.mem_append_right _ h)) (by decide +kernel))
set_option maxRecDepth 20000 in
theorem gX5_share_X5_requirePlace : GoodIn wsX5_share (va_wsS RX5 16 yX5_requirePlace wsX5_requirePlace) := goodIn_app (goodIn_of _ (by decide +kernel)) ggX5_share_X5_requirePlace
set_option maxRecDepth 20000 in
theorem ggX5_share_X2_sum : GoodIn wsX5_share wsX2_sum := goodIn_r _ [13, 14, 49] (by decide +kernel) (by decide +kernel)
set_option maxRecDepth 20000 in
theorem gX5_share_X2_sum : GoodIn wsX5_share (wsV RX5 28 RX2 yX2_sum wsX2_sum) := goodIn_app (goodIn_of _ (by decide +kernel)) ggX5_share_X2_sum
set_option maxRecDepth 20000 in
theorem ggX5_share_X4_estimateOf : GoodIn wsX5_share wsX4_estimateOf := goodIn_r _ [19, 20, 21, 22, 23, 24, 25, 26, 27, 28, 29, 30, 31, 32, 33, 34, 35, 36, 37, 38, 39, 40, 41, 42, 12, 43, 14, 45, 46, 47, 48, 50, 49] (by decide +kernel) (by decide +kernel)
set_option maxRecDepth 20000 in
theorem gX5_share_X4_estimateOf : GoodIn wsX5_share (wsV RX5 81 RX4 yX4_estimateOf wsX4_estimateOf) := goodIn_app (goodIn_of _ (by decide +kernel)) ggX5_share_X4_estimateOf
theorem dX5_share_0 : decode cX5_share 0 = .ok (.iload_n 1, 1) := by decide +kernel
theorem dX5_share_1 : decode cX5_share 1 = .ok (.iconst 4, 1) := by decide +kernel
theorem dX5_share_2 : decode cX5_share 2 = .ok (.invokestatic 16, 3) := by decide +kernel
theorem dX5_share_5 : decode cX5_share 5 = .ok (.iload_n 2, 1) := by decide +kernel
theorem dX5_share_6 : decode cX5_share 6 = .ok (.bipush 64, 2) := by decide +kernel
theorem dX5_share_8 : decode cX5_share 8 = .ok (.invokestatic 16, 3) := by decide +kernel
theorem dX5_share_11 : decode cX5_share 11 = .ok (.aload_n 0, 1) := by decide +kernel
theorem dX5_share_12 : decode cX5_share 12 = .ok (.getfield 11, 3) := by decide +kernel
theorem dX5_share_15 : decode cX5_share 15 = .ok (.iload_n 1, 1) := by decide +kernel
theorem dX5_share_16 : decode cX5_share 16 = .ok (.aaload, 1) := by decide +kernel
theorem dX5_share_17 : decode cX5_share 17 = .ok (.getfield 24, 3) := by decide +kernel
theorem dX5_share_20 : decode cX5_share 20 = .ok (.invokevirtual 28, 3) := by decide +kernel
theorem dX5_share_23 : decode cX5_share 23 = .ok (.istore_n 3, 1) := by decide +kernel
theorem dX5_share_24 : decode cX5_share 24 = .ok (.iload_n 3, 1) := by decide +kernel
theorem dX5_share_25 : decode cX5_share 25 = .ok (.ifCond .ne 5, 3) := by decide +kernel
theorem dX5_share_28 : decode cX5_share 28 = .ok (.dconst 0, 1) := by decide +kernel
theorem dX5_share_29 : decode cX5_share 29 = .ok (.dreturn, 1) := by decide +kernel
theorem dX5_share_30 : decode cX5_share 30 = .ok (.aload_n 0, 1) := by decide +kernel
theorem dX5_share_31 : decode cX5_share 31 = .ok (.getfield 11, 3) := by decide +kernel
theorem dX5_share_34 : decode cX5_share 34 = .ok (.iload_n 1, 1) := by decide +kernel
theorem dX5_share_35 : decode cX5_share 35 = .ok (.aaload, 1) := by decide +kernel
theorem dX5_share_36 : decode cX5_share 36 = .ok (.iconst 0, 1) := by decide +kernel
theorem dX5_share_37 : decode cX5_share 37 = .ok (.iload_n 2, 1) := by decide +kernel
theorem dX5_share_38 : decode cX5_share 38 = .ok (.invokevirtual 81, 3) := by decide +kernel
theorem dX5_share_41 : decode cX5_share 41 = .ok (.i2d, 1) := by decide +kernel
theorem dX5_share_42 : decode cX5_share 42 = .ok (.iload_n 3, 1) := by decide +kernel
theorem dX5_share_43 : decode cX5_share 43 = .ok (.i2d, 1) := by decide +kernel
theorem dX5_share_44 : decode cX5_share 44 = .ok (.ddiv, 1) := by decide +kernel
theorem dX5_share_45 : decode cX5_share 45 = .ok (.dreturn, 1) := by decide +kernel
set_option maxRecDepth 20000 in
theorem ggX5_parts_X5_requireRange : GoodIn wsX5_parts wsX5_requireRange := goodIn_ca (goodIn_ca (goodIn_r _ [4, 5, 6, 7, 8, 3, 9, 10, 11] (by decide +kernel) (by decide +kernel)) (goodIn_sub (fun _ h => List.mem_cons_of_mem _ (List.mem_append_left _ (List.mem_append_right _ h))) (by decide +kernel))) (goodIn_sub (fun _ h => List.mem_cons_of_mem _ (List.mem_append_right _ h)) (by decide +kernel))
set_option maxRecDepth 20000 in
theorem gX5_parts_X5_requireRange : GoodIn wsX5_parts (va_wsS RX5 59 yX5_requireRange wsX5_requireRange) := goodIn_app (goodIn_of _ (by decide +kernel)) ggX5_parts_X5_requireRange
set_option maxRecDepth 20000 in
theorem ggX5_parts_X5_greatestLevel : GoodIn wsX5_parts wsX5_greatestLevel := goodIn_r _ [14, 15, 16, 3, 17] (by decide +kernel) (by decide +kernel)
set_option maxRecDepth 20000 in
theorem gX5_parts_X5_greatestLevel : GoodIn wsX5_parts (va_wsS RX5 84 yX5_greatestLevel wsX5_greatestLevel) := goodIn_app (goodIn_of _ (by decide +kernel)) ggX5_parts_X5_greatestLevel
theorem dX5_parts_0 : decode cX5_parts 0 = .ok (.iload_n 1, 1) := by decide +kernel
theorem dX5_parts_1 : decode cX5_parts 1 = .ok (.iload_n 2, 1) := by decide +kernel
theorem dX5_parts_2 : decode cX5_parts 2 = .ok (.invokestatic 59, 3) := by decide +kernel
theorem dX5_parts_5 : decode cX5_parts 5 = .ok (.iconst 0, 1) := by decide +kernel
theorem dX5_parts_6 : decode cX5_parts 6 = .ok (.istore_n 3, 1) := by decide +kernel
theorem dX5_parts_7 : decode cX5_parts 7 = .ok (.iload_n 1, 1) := by decide +kernel
theorem dX5_parts_8 : decode cX5_parts 8 = .ok (.istore 4, 2) := by decide +kernel
theorem dX5_parts_10 : decode cX5_parts 10 = .ok (.iload 4, 2) := by decide +kernel
theorem dX5_parts_12 : decode cX5_parts 12 = .ok (.iload_n 2, 1) := by decide +kernel
theorem dX5_parts_13 : decode cX5_parts 13 = .ok (.if_icmp .gt 22, 3) := by decide +kernel
theorem dX5_parts_16 : decode cX5_parts 16 = .ok (.iload 4, 2) := by decide +kernel
theorem dX5_parts_18 : decode cX5_parts 18 = .ok (.iconst 1, 1) := by decide +kernel
theorem dX5_parts_19 : decode cX5_parts 19 = .ok (.iload 4, 2) := by decide +kernel
theorem dX5_parts_21 : decode cX5_parts 21 = .ok (.iload_n 2, 1) := by decide +kernel
theorem dX5_parts_22 : decode cX5_parts 22 = .ok (.invokestatic 84, 3) := by decide +kernel
theorem dX5_parts_25 : decode cX5_parts 25 = .ok (.ishl, 1) := by decide +kernel
theorem dX5_parts_26 : decode cX5_parts 26 = .ok (.iadd, 1) := by decide +kernel
theorem dX5_parts_27 : decode cX5_parts 27 = .ok (.istore 4, 2) := by decide +kernel
theorem dX5_parts_29 : decode cX5_parts 29 = .ok (.iinc 3 1, 3) := by decide +kernel
theorem dX5_parts_32 : decode cX5_parts 32 = .ok (.goto (-22), 3) := by decide +kernel
theorem dX5_parts_35 : decode cX5_parts 35 = .ok (.iload_n 3, 1) := by decide +kernel
theorem dX5_parts_36 : decode cX5_parts 36 = .ok (.ireturn, 1) := by decide +kernel
set_option maxRecDepth 20000 in
theorem ggX5_estimateOfRange_X5_requirePlace : GoodIn wsX5_estimateOfRange wsX5_requirePlace := goodIn_ca (goodIn_r _ [5, 6, 7] (by decide +kernel) (by decide +kernel)) (goodIn_sub (fun _ h => List.mem_cons_of_mem _ (List.mem_append_left _ (List.mem_append_right _ h))) (by decide +kernel))
set_option maxRecDepth 20000 in
theorem gX5_estimateOfRange_X5_requirePlace : GoodIn wsX5_estimateOfRange (va_wsS RX5 16 yX5_requirePlace wsX5_requirePlace) := goodIn_app (goodIn_of _ (by decide +kernel)) ggX5_estimateOfRange_X5_requirePlace
set_option maxRecDepth 20000 in
theorem ggX5_estimateOfRange_X5_requireRange : GoodIn wsX5_estimateOfRange wsX5_requireRange := goodIn_ca (goodIn_ca (goodIn_r _ [10, 11, 12, 2, 3, 4, 5, 6, 7] (by decide +kernel) (by decide +kernel)) (goodIn_sub (fun _ h => List.mem_cons_of_mem _ (List.mem_append_right _ h)) (by decide +kernel))) (goodIn_sub (fun _ h => List.mem_cons_of_mem _ (List.mem_append_left _ (List.mem_append_right _ h))) (by decide +kernel))
set_option maxRecDepth 20000 in
theorem gX5_estimateOfRange_X5_requireRange : GoodIn wsX5_estimateOfRange (va_wsS RX5 59 yX5_requireRange wsX5_requireRange) := goodIn_app (goodIn_of _ (by decide +kernel)) ggX5_estimateOfRange_X5_requireRange
set_option maxRecDepth 20000 in
theorem ggX5_estimateOfRange_X5_greatestLevel : GoodIn wsX5_estimateOfRange wsX5_greatestLevel := goodIn_r _ [15, 16, 17, 4, 18] (by decide +kernel) (by decide +kernel)
set_option maxRecDepth 20000 in
theorem gX5_estimateOfRange_X5_greatestLevel : GoodIn wsX5_estimateOfRange (va_wsS RX5 84 yX5_greatestLevel wsX5_greatestLevel) := goodIn_app (goodIn_of _ (by decide +kernel)) ggX5_estimateOfRange_X5_greatestLevel
set_option maxRecDepth 20000 in
theorem ggX5_estimateOfRange_X4_estimateOf : GoodIn wsX5_estimateOfRange wsX4_estimateOf := goodIn_r _ [23, 24, 25, 26, 27, 28, 29, 30, 31, 32, 33, 34, 35, 36, 37, 38, 39, 40, 41, 42, 43, 44, 45, 46, 47, 48, 49, 51, 52, 53, 54, 55, 56] (by decide +kernel) (by decide +kernel)
set_option maxRecDepth 20000 in
theorem gX5_estimateOfRange_X4_estimateOf : GoodIn wsX5_estimateOfRange (wsV RX5 81 RX4 yX4_estimateOf wsX4_estimateOf) := goodIn_app (goodIn_of _ (by decide +kernel)) ggX5_estimateOfRange_X4_estimateOf
theorem dX5_estimateOfRange_0 : decode cX5_estimateOfRange 0 = .ok (.iload_n 1, 1) := by decide +kernel
theorem dX5_estimateOfRange_1 : decode cX5_estimateOfRange 1 = .ok (.iconst 4, 1) := by decide +kernel
theorem dX5_estimateOfRange_2 : decode cX5_estimateOfRange 2 = .ok (.invokestatic 16, 3) := by decide +kernel
theorem dX5_estimateOfRange_5 : decode cX5_estimateOfRange 5 = .ok (.iload_n 2, 1) := by decide +kernel
theorem dX5_estimateOfRange_6 : decode cX5_estimateOfRange 6 = .ok (.iload_n 3, 1) := by decide +kernel
theorem dX5_estimateOfRange_7 : decode cX5_estimateOfRange 7 = .ok (.invokestatic 59, 3) := by decide +kernel
theorem dX5_estimateOfRange_10 : decode cX5_estimateOfRange 10 = .ok (.iconst 0, 1) := by decide +kernel
theorem dX5_estimateOfRange_11 : decode cX5_estimateOfRange 11 = .ok (.istore 4, 2) := by decide +kernel
theorem dX5_estimateOfRange_13 : decode cX5_estimateOfRange 13 = .ok (.iload_n 2, 1) := by decide +kernel
theorem dX5_estimateOfRange_14 : decode cX5_estimateOfRange 14 = .ok (.istore 5, 2) := by decide +kernel
theorem dX5_estimateOfRange_16 : decode cX5_estimateOfRange 16 = .ok (.iload 5, 2) := by decide +kernel
theorem dX5_estimateOfRange_18 : decode cX5_estimateOfRange 18 = .ok (.iload_n 3, 1) := by decide +kernel
theorem dX5_estimateOfRange_19 : decode cX5_estimateOfRange 19 = .ok (.if_icmp .gt 44, 3) := by decide +kernel
theorem dX5_estimateOfRange_22 : decode cX5_estimateOfRange 22 = .ok (.iload 5, 2) := by decide +kernel
theorem dX5_estimateOfRange_24 : decode cX5_estimateOfRange 24 = .ok (.iload_n 3, 1) := by decide +kernel
theorem dX5_estimateOfRange_25 : decode cX5_estimateOfRange 25 = .ok (.invokestatic 84, 3) := by decide +kernel
theorem dX5_estimateOfRange_28 : decode cX5_estimateOfRange 28 = .ok (.istore 6, 2) := by decide +kernel
theorem dX5_estimateOfRange_30 : decode cX5_estimateOfRange 30 = .ok (.iload 4, 2) := by decide +kernel
theorem dX5_estimateOfRange_32 : decode cX5_estimateOfRange 32 = .ok (.aload_n 0, 1) := by decide +kernel
theorem dX5_estimateOfRange_33 : decode cX5_estimateOfRange 33 = .ok (.getfield 11, 3) := by decide +kernel
theorem dX5_estimateOfRange_36 : decode cX5_estimateOfRange 36 = .ok (.iload_n 1, 1) := by decide +kernel
theorem dX5_estimateOfRange_37 : decode cX5_estimateOfRange 37 = .ok (.aaload, 1) := by decide +kernel
theorem dX5_estimateOfRange_38 : decode cX5_estimateOfRange 38 = .ok (.iload 6, 2) := by decide +kernel
theorem dX5_estimateOfRange_40 : decode cX5_estimateOfRange 40 = .ok (.iload 5, 2) := by decide +kernel
theorem dX5_estimateOfRange_42 : decode cX5_estimateOfRange 42 = .ok (.iload 6, 2) := by decide +kernel
theorem dX5_estimateOfRange_44 : decode cX5_estimateOfRange 44 = .ok (.ishr, 1) := by decide +kernel
theorem dX5_estimateOfRange_45 : decode cX5_estimateOfRange 45 = .ok (.invokevirtual 81, 3) := by decide +kernel
theorem dX5_estimateOfRange_48 : decode cX5_estimateOfRange 48 = .ok (.iadd, 1) := by decide +kernel
theorem dX5_estimateOfRange_49 : decode cX5_estimateOfRange 49 = .ok (.istore 4, 2) := by decide +kernel
theorem dX5_estimateOfRange_51 : decode cX5_estimateOfRange 51 = .ok (.iload 5, 2) := by decide +kernel
theorem dX5_estimateOfRange_53 : decode cX5_estimateOfRange 53 = .ok (.iconst 1, 1) := by decide +kernel
theorem dX5_estimateOfRange_54 : decode cX5_estimateOfRange 54 = .ok (.iload 6, 2) := by decide +kernel
theorem dX5_estimateOfRange_56 : decode cX5_estimateOfRange 56 = .ok (.ishl, 1) := by decide +kernel
theorem dX5_estimateOfRange_57 : decode cX5_estimateOfRange 57 = .ok (.iadd, 1) := by decide +kernel
theorem dX5_estimateOfRange_58 : decode cX5_estimateOfRange 58 = .ok (.istore 5, 2) := by decide +kernel
theorem dX5_estimateOfRange_60 : decode cX5_estimateOfRange 60 = .ok (.goto (-44), 3) := by decide +kernel
theorem dX5_estimateOfRange_63 : decode cX5_estimateOfRange 63 = .ok (.iload 4, 2) := by decide +kernel
theorem dX5_estimateOfRange_65 : decode cX5_estimateOfRange 65 = .ok (.ireturn, 1) := by decide +kernel
set_option maxRecDepth 20000 in
theorem ggX5_frequent_X5_requirePlace : GoodIn wsX5_frequent wsX5_requirePlace := goodIn_ca (goodIn_r _ [6, 7, 8] (by decide +kernel) (by decide +kernel)) (goodIn_sub (fun _ h => List.mem_cons_of_mem _ (List.mem_append_left _ (List.mem_append_right _ h))) (by decide +kernel))
set_option maxRecDepth 20000 in
theorem gX5_frequent_X5_requirePlace : GoodIn wsX5_frequent (va_wsS RX5 16 yX5_requirePlace wsX5_requirePlace) := goodIn_app (goodIn_of _ (by decide +kernel)) ggX5_frequent_X5_requirePlace
set_option maxRecDepth 20000 in
theorem ggX5_frequent_X5_requireWithin : GoodIn wsX5_frequent wsX5_requireWithin := goodIn_ca (goodIn_r _ [11, 12, 13] (by decide +kernel) (by decide +kernel)) (goodIn_sub (fun _ h => List.mem_cons_of_mem _ (List.mem_append_right _ h)) (by decide +kernel))
set_option maxRecDepth 20000 in
theorem gX5_frequent_X5_requireWithin : GoodIn wsX5_frequent (va_wsS RX5 20 yX5_requireWithin wsX5_requireWithin) := goodIn_app (goodIn_of _ (by decide +kernel)) ggX5_frequent_X5_requireWithin
set_option maxRecDepth 20000 in
theorem ggX5_frequent_X4_reaches : GoodIn wsX5_frequent wsX4_reaches := goodIn_r _ [18, 19, 20, 21, 17, 22, 23, 24, 25, 26, 27, 28, 29, 30, 31, 32, 33, 34, 35, 36, 37, 38, 39, 40, 41, 42, 43, 44, 45, 46, 47, 48, 50, 51, 52, 53, 54, 55] (by decide +kernel) (by decide +kernel)
set_option maxRecDepth 20000 in
theorem gX5_frequent_X4_reaches : GoodIn wsX5_frequent (wsV RX5 88 RX4 yX4_reaches wsX4_reaches) := goodIn_app (goodIn_of _ (by decide +kernel)) ggX5_frequent_X4_reaches
theorem dX5_frequent_0 : decode cX5_frequent 0 = .ok (.iload_n 1, 1) := by decide +kernel
theorem dX5_frequent_1 : decode cX5_frequent 1 = .ok (.iconst 4, 1) := by decide +kernel
theorem dX5_frequent_2 : decode cX5_frequent 2 = .ok (.invokestatic 16, 3) := by decide +kernel
theorem dX5_frequent_5 : decode cX5_frequent 5 = .ok (.iload_n 2, 1) := by decide +kernel
theorem dX5_frequent_6 : decode cX5_frequent 6 = .ok (.iconst 1, 1) := by decide +kernel
theorem dX5_frequent_7 : decode cX5_frequent 7 = .ok (.ldc 87, 2) := by decide +kernel
theorem dX5_frequent_9 : decode cX5_frequent 9 = .ok (.invokestatic 20, 3) := by decide +kernel
theorem dX5_frequent_12 : decode cX5_frequent 12 = .ok (.iconst 0, 1) := by decide +kernel
theorem dX5_frequent_13 : decode cX5_frequent 13 = .ok (.istore_n 3, 1) := by decide +kernel
theorem dX5_frequent_14 : decode cX5_frequent 14 = .ok (.iconst 0, 1) := by decide +kernel
theorem dX5_frequent_15 : decode cX5_frequent 15 = .ok (.istore 4, 2) := by decide +kernel
theorem dX5_frequent_17 : decode cX5_frequent 17 = .ok (.iload 4, 2) := by decide +kernel
theorem dX5_frequent_19 : decode cX5_frequent 19 = .ok (.bipush 64, 2) := by decide +kernel
theorem dX5_frequent_21 : decode cX5_frequent 21 = .ok (.if_icmp .ge 27, 3) := by decide +kernel
theorem dX5_frequent_24 : decode cX5_frequent 24 = .ok (.aload_n 0, 1) := by decide +kernel
theorem dX5_frequent_25 : decode cX5_frequent 25 = .ok (.getfield 11, 3) := by decide +kernel
theorem dX5_frequent_28 : decode cX5_frequent 28 = .ok (.iload_n 1, 1) := by decide +kernel
theorem dX5_frequent_29 : decode cX5_frequent 29 = .ok (.aaload, 1) := by decide +kernel
theorem dX5_frequent_30 : decode cX5_frequent 30 = .ok (.iload 4, 2) := by decide +kernel
theorem dX5_frequent_32 : decode cX5_frequent 32 = .ok (.iload_n 2, 1) := by decide +kernel
theorem dX5_frequent_33 : decode cX5_frequent 33 = .ok (.invokevirtual 88, 3) := by decide +kernel
theorem dX5_frequent_36 : decode cX5_frequent 36 = .ok (.ifCond .eq 6, 3) := by decide +kernel
theorem dX5_frequent_39 : decode cX5_frequent 39 = .ok (.iinc 3 1, 3) := by decide +kernel
theorem dX5_frequent_42 : decode cX5_frequent 42 = .ok (.iinc 4 1, 3) := by decide +kernel
theorem dX5_frequent_45 : decode cX5_frequent 45 = .ok (.goto (-28), 3) := by decide +kernel
theorem dX5_frequent_48 : decode cX5_frequent 48 = .ok (.iload_n 3, 1) := by decide +kernel
theorem dX5_frequent_49 : decode cX5_frequent 49 = .ok (.ireturn, 1) := by decide +kernel
set_option maxRecDepth 20000 in
theorem ggX5_frequentAt_X5_requirePlace : GoodIn wsX5_frequentAt wsX5_requirePlace := goodIn_ca (goodIn_r _ [8, 9, 10] (by decide +kernel) (by decide +kernel)) (goodIn_sub (fun _ h => List.mem_cons_of_mem _ (List.mem_append_left _ (List.mem_append_right _ h))) (by decide +kernel))
set_option maxRecDepth 20000 in
theorem gX5_frequentAt_X5_requirePlace : GoodIn wsX5_frequentAt (va_wsS RX5 16 yX5_requirePlace wsX5_requirePlace) := goodIn_app (goodIn_of _ (by decide +kernel)) ggX5_frequentAt_X5_requirePlace
set_option maxRecDepth 20000 in
theorem ggX5_frequentAt_X5_requireWithin : GoodIn wsX5_frequentAt wsX5_requireWithin := goodIn_ca (goodIn_r _ [13, 14, 15] (by decide +kernel) (by decide +kernel)) (goodIn_sub (fun _ h => List.mem_cons_of_mem _ (List.mem_append_right _ h)) (by decide +kernel))
set_option maxRecDepth 20000 in
theorem gX5_frequentAt_X5_requireWithin : GoodIn wsX5_frequentAt (va_wsS RX5 20 yX5_requireWithin wsX5_requireWithin) := goodIn_app (goodIn_of _ (by decide +kernel)) ggX5_frequentAt_X5_requireWithin
set_option maxRecDepth 20000 in
theorem ggX5_frequentAt_X4_reaches : GoodIn wsX5_frequentAt wsX4_reaches := goodIn_r _ [20, 21, 22, 23, 19, 24, 25, 26, 27, 28, 29, 30, 31, 32, 33, 34, 35, 36, 37, 38, 39, 40, 41, 42, 43, 44, 45, 46, 47, 48, 49, 50, 52, 53, 54, 55, 56, 57] (by decide +kernel) (by decide +kernel)
set_option maxRecDepth 20000 in
theorem gX5_frequentAt_X4_reaches : GoodIn wsX5_frequentAt (wsV RX5 88 RX4 yX4_reaches wsX4_reaches) := goodIn_app (goodIn_of _ (by decide +kernel)) ggX5_frequentAt_X4_reaches
theorem dX5_frequentAt_0 : decode cX5_frequentAt 0 = .ok (.iload_n 1, 1) := by decide +kernel
theorem dX5_frequentAt_1 : decode cX5_frequentAt 1 = .ok (.iconst 4, 1) := by decide +kernel
theorem dX5_frequentAt_2 : decode cX5_frequentAt 2 = .ok (.invokestatic 16, 3) := by decide +kernel
theorem dX5_frequentAt_5 : decode cX5_frequentAt 5 = .ok (.iload_n 2, 1) := by decide +kernel
theorem dX5_frequentAt_6 : decode cX5_frequentAt 6 = .ok (.iconst 1, 1) := by decide +kernel
theorem dX5_frequentAt_7 : decode cX5_frequentAt 7 = .ok (.ldc 87, 2) := by decide +kernel
theorem dX5_frequentAt_9 : decode cX5_frequentAt 9 = .ok (.invokestatic 20, 3) := by decide +kernel
theorem dX5_frequentAt_12 : decode cX5_frequentAt 12 = .ok (.iconst 0, 1) := by decide +kernel
theorem dX5_frequentAt_13 : decode cX5_frequentAt 13 = .ok (.istore 4, 2) := by decide +kernel
theorem dX5_frequentAt_15 : decode cX5_frequentAt 15 = .ok (.iconst 0, 1) := by decide +kernel
theorem dX5_frequentAt_16 : decode cX5_frequentAt 16 = .ok (.istore 5, 2) := by decide +kernel
theorem dX5_frequentAt_18 : decode cX5_frequentAt 18 = .ok (.iload 5, 2) := by decide +kernel
theorem dX5_frequentAt_20 : decode cX5_frequentAt 20 = .ok (.bipush 64, 2) := by decide +kernel
theorem dX5_frequentAt_22 : decode cX5_frequentAt 22 = .ok (.if_icmp .ge 36, 3) := by decide +kernel
theorem dX5_frequentAt_25 : decode cX5_frequentAt 25 = .ok (.aload_n 0, 1) := by decide +kernel
theorem dX5_frequentAt_26 : decode cX5_frequentAt 26 = .ok (.getfield 11, 3) := by decide +kernel
theorem dX5_frequentAt_29 : decode cX5_frequentAt 29 = .ok (.iload_n 1, 1) := by decide +kernel
theorem dX5_frequentAt_30 : decode cX5_frequentAt 30 = .ok (.aaload, 1) := by decide +kernel
theorem dX5_frequentAt_31 : decode cX5_frequentAt 31 = .ok (.iload 5, 2) := by decide +kernel
theorem dX5_frequentAt_33 : decode cX5_frequentAt 33 = .ok (.iload_n 2, 1) := by decide +kernel
theorem dX5_frequentAt_34 : decode cX5_frequentAt 34 = .ok (.invokevirtual 88, 3) := by decide +kernel
theorem dX5_frequentAt_37 : decode cX5_frequentAt 37 = .ok (.ifCond .eq 15, 3) := by decide +kernel
theorem dX5_frequentAt_40 : decode cX5_frequentAt 40 = .ok (.iload 4, 2) := by decide +kernel
theorem dX5_frequentAt_42 : decode cX5_frequentAt 42 = .ok (.iload_n 3, 1) := by decide +kernel
theorem dX5_frequentAt_43 : decode cX5_frequentAt 43 = .ok (.if_icmp .ne 6, 3) := by decide +kernel
theorem dX5_frequentAt_46 : decode cX5_frequentAt 46 = .ok (.iload 5, 2) := by decide +kernel
theorem dX5_frequentAt_48 : decode cX5_frequentAt 48 = .ok (.ireturn, 1) := by decide +kernel
theorem dX5_frequentAt_49 : decode cX5_frequentAt 49 = .ok (.iinc 4 1, 3) := by decide +kernel
theorem dX5_frequentAt_52 : decode cX5_frequentAt 52 = .ok (.iinc 5 1, 3) := by decide +kernel
theorem dX5_frequentAt_55 : decode cX5_frequentAt 55 = .ok (.goto (-37), 3) := by decide +kernel
theorem dX5_frequentAt_58 : decode cX5_frequentAt 58 = .ok (.new 92, 3) := by decide +kernel
theorem dX5_frequentAt_61 : decode cX5_frequentAt 61 = .ok (.dup, 1) := by decide +kernel
theorem dX5_frequentAt_62 : decode cX5_frequentAt 62 = .ok (.ldc 94, 2) := by decide +kernel
theorem dX5_frequentAt_64 : decode cX5_frequentAt 64 = .ok (.invokespecial 96, 3) := by decide +kernel
theorem dX5_frequentAt_67 : decode cX5_frequentAt 67 = .ok (.athrow, 1) := by decide +kernel
set_option maxRecDepth 20000 in
theorem ggX5_itemOfRank_X5_requirePlace : GoodIn wsX5_itemOfRank wsX5_requirePlace := goodIn_ca (goodIn_r _ [6, 7, 8] (by decide +kernel) (by decide +kernel)) (goodIn_sub (fun _ h => List.mem_cons_of_mem _ (List.mem_append_left _ (List.mem_append_right _ h))) (by decide +kernel))
set_option maxRecDepth 20000 in
theorem gX5_itemOfRank_X5_requirePlace : GoodIn wsX5_itemOfRank (va_wsS RX5 16 yX5_requirePlace wsX5_requirePlace) := goodIn_app (goodIn_of _ (by decide +kernel)) ggX5_itemOfRank_X5_requirePlace
set_option maxRecDepth 20000 in
theorem ggX5_itemOfRank_X2_sum : GoodIn wsX5_itemOfRank wsX2_sum := goodIn_r _ [13, 14, 54] (by decide +kernel) (by decide +kernel)
set_option maxRecDepth 20000 in
theorem gX5_itemOfRank_X2_sum : GoodIn wsX5_itemOfRank (wsV RX5 28 RX2 yX2_sum wsX2_sum) := goodIn_app (goodIn_of _ (by decide +kernel)) ggX5_itemOfRank_X2_sum
set_option maxRecDepth 20000 in
theorem ggX5_itemOfRank_X5_requireWithin : GoodIn wsX5_itemOfRank wsX5_requireWithin := goodIn_ca (goodIn_r _ [17, 18, 19] (by decide +kernel) (by decide +kernel)) (goodIn_sub (fun _ h => List.mem_cons_of_mem _ (List.mem_append_right _ h)) (by decide +kernel))
set_option maxRecDepth 20000 in
theorem gX5_itemOfRank_X5_requireWithin : GoodIn wsX5_itemOfRank (va_wsS RX5 20 yX5_requireWithin wsX5_requireWithin) := goodIn_app (goodIn_of _ (by decide +kernel)) ggX5_itemOfRank_X5_requireWithin
set_option maxRecDepth 20000 in
theorem ggX5_itemOfRank_X4_estimateOf : GoodIn wsX5_itemOfRank wsX4_estimateOf := goodIn_r _ [24, 25, 26, 27, 28, 29, 30, 31, 32, 33, 34, 35, 36, 37, 38, 39, 40, 41, 42, 43, 44, 45, 46, 47, 12, 48, 14, 50, 51, 52, 53, 55, 54] (by decide +kernel) (by decide +kernel)
set_option maxRecDepth 20000 in
theorem gX5_itemOfRank_X4_estimateOf : GoodIn wsX5_itemOfRank (wsV RX5 81 RX4 yX4_estimateOf wsX4_estimateOf) := goodIn_app (goodIn_of _ (by decide +kernel)) ggX5_itemOfRank_X4_estimateOf
theorem dX5_itemOfRank_0 : decode cX5_itemOfRank 0 = .ok (.iload_n 1, 1) := by decide +kernel
theorem dX5_itemOfRank_1 : decode cX5_itemOfRank 1 = .ok (.iconst 4, 1) := by decide +kernel
theorem dX5_itemOfRank_2 : decode cX5_itemOfRank 2 = .ok (.invokestatic 16, 3) := by decide +kernel
theorem dX5_itemOfRank_5 : decode cX5_itemOfRank 5 = .ok (.iload_n 2, 1) := by decide +kernel
theorem dX5_itemOfRank_6 : decode cX5_itemOfRank 6 = .ok (.iconst 1, 1) := by decide +kernel
theorem dX5_itemOfRank_7 : decode cX5_itemOfRank 7 = .ok (.aload_n 0, 1) := by decide +kernel
theorem dX5_itemOfRank_8 : decode cX5_itemOfRank 8 = .ok (.getfield 11, 3) := by decide +kernel
theorem dX5_itemOfRank_11 : decode cX5_itemOfRank 11 = .ok (.iload_n 1, 1) := by decide +kernel
theorem dX5_itemOfRank_12 : decode cX5_itemOfRank 12 = .ok (.aaload, 1) := by decide +kernel
theorem dX5_itemOfRank_13 : decode cX5_itemOfRank 13 = .ok (.getfield 24, 3) := by decide +kernel
theorem dX5_itemOfRank_16 : decode cX5_itemOfRank 16 = .ok (.invokevirtual 28, 3) := by decide +kernel
theorem dX5_itemOfRank_19 : decode cX5_itemOfRank 19 = .ok (.invokestatic 20, 3) := by decide +kernel
theorem dX5_itemOfRank_22 : decode cX5_itemOfRank 22 = .ok (.iload_n 2, 1) := by decide +kernel
theorem dX5_itemOfRank_23 : decode cX5_itemOfRank 23 = .ok (.istore_n 3, 1) := by decide +kernel
theorem dX5_itemOfRank_24 : decode cX5_itemOfRank 24 = .ok (.iconst 0, 1) := by decide +kernel
theorem dX5_itemOfRank_25 : decode cX5_itemOfRank 25 = .ok (.istore 4, 2) := by decide +kernel
theorem dX5_itemOfRank_27 : decode cX5_itemOfRank 27 = .ok (.iconst 5, 1) := by decide +kernel
theorem dX5_itemOfRank_28 : decode cX5_itemOfRank 28 = .ok (.istore 5, 2) := by decide +kernel
theorem dX5_itemOfRank_30 : decode cX5_itemOfRank 30 = .ok (.iload 5, 2) := by decide +kernel
theorem dX5_itemOfRank_32 : decode cX5_itemOfRank 32 = .ok (.ifCond .lt 44, 3) := by decide +kernel
theorem dX5_itemOfRank_35 : decode cX5_itemOfRank 35 = .ok (.iconst 2, 1) := by decide +kernel
theorem dX5_itemOfRank_36 : decode cX5_itemOfRank 36 = .ok (.iload 4, 2) := by decide +kernel
theorem dX5_itemOfRank_38 : decode cX5_itemOfRank 38 = .ok (.imul, 1) := by decide +kernel
theorem dX5_itemOfRank_39 : decode cX5_itemOfRank 39 = .ok (.istore 4, 2) := by decide +kernel
theorem dX5_itemOfRank_41 : decode cX5_itemOfRank 41 = .ok (.aload_n 0, 1) := by decide +kernel
theorem dX5_itemOfRank_42 : decode cX5_itemOfRank 42 = .ok (.getfield 11, 3) := by decide +kernel
theorem dX5_itemOfRank_45 : decode cX5_itemOfRank 45 = .ok (.iload_n 1, 1) := by decide +kernel
theorem dX5_itemOfRank_46 : decode cX5_itemOfRank 46 = .ok (.aaload, 1) := by decide +kernel
theorem dX5_itemOfRank_47 : decode cX5_itemOfRank 47 = .ok (.iload 5, 2) := by decide +kernel
theorem dX5_itemOfRank_49 : decode cX5_itemOfRank 49 = .ok (.iload 4, 2) := by decide +kernel
theorem dX5_itemOfRank_51 : decode cX5_itemOfRank 51 = .ok (.invokevirtual 81, 3) := by decide +kernel
theorem dX5_itemOfRank_54 : decode cX5_itemOfRank 54 = .ok (.istore 6, 2) := by decide +kernel
theorem dX5_itemOfRank_56 : decode cX5_itemOfRank 56 = .ok (.iload_n 3, 1) := by decide +kernel
theorem dX5_itemOfRank_57 : decode cX5_itemOfRank 57 = .ok (.iload 6, 2) := by decide +kernel
theorem dX5_itemOfRank_59 : decode cX5_itemOfRank 59 = .ok (.if_icmp .le 11, 3) := by decide +kernel
theorem dX5_itemOfRank_62 : decode cX5_itemOfRank 62 = .ok (.iload_n 3, 1) := by decide +kernel
theorem dX5_itemOfRank_63 : decode cX5_itemOfRank 63 = .ok (.iload 6, 2) := by decide +kernel
theorem dX5_itemOfRank_65 : decode cX5_itemOfRank 65 = .ok (.isub, 1) := by decide +kernel
theorem dX5_itemOfRank_66 : decode cX5_itemOfRank 66 = .ok (.istore_n 3, 1) := by decide +kernel
theorem dX5_itemOfRank_67 : decode cX5_itemOfRank 67 = .ok (.iinc 4 1, 3) := by decide +kernel
theorem dX5_itemOfRank_70 : decode cX5_itemOfRank 70 = .ok (.iinc 5 (-1), 3) := by decide +kernel
theorem dX5_itemOfRank_73 : decode cX5_itemOfRank 73 = .ok (.goto (-43), 3) := by decide +kernel
theorem dX5_itemOfRank_76 : decode cX5_itemOfRank 76 = .ok (.iload 4, 2) := by decide +kernel
theorem dX5_itemOfRank_78 : decode cX5_itemOfRank 78 = .ok (.ireturn, 1) := by decide +kernel
set_option maxRecDepth 20000 in
theorem ggX5_signedColumn_X5_requirePlace : GoodIn wsX5_signedColumn wsX5_requirePlace := goodIn_ca (goodIn_r _ [4, 5, 6] (by decide +kernel) (by decide +kernel)) (goodIn_sub (fun _ h => List.mem_cons_of_mem _ (List.mem_append_right _ h)) (by decide +kernel))
set_option maxRecDepth 20000 in
theorem gX5_signedColumn_X5_requirePlace : GoodIn wsX5_signedColumn (va_wsS RX5 16 yX5_requirePlace wsX5_requirePlace) := goodIn_app (goodIn_of _ (by decide +kernel)) ggX5_signedColumn_X5_requirePlace
set_option maxRecDepth 20000 in
theorem ggX5_signedColumn_X3_columnOf : GoodIn wsX5_signedColumn wsX3_columnOf := goodIn_r _ [10, 11, 12] (by decide +kernel) (by decide +kernel)
set_option maxRecDepth 20000 in
theorem gX5_signedColumn_X3_columnOf : GoodIn wsX5_signedColumn (va_wsS RX5 99 yX3_columnOf wsX3_columnOf) := goodIn_app (goodIn_of _ (by decide +kernel)) ggX5_signedColumn_X3_columnOf
theorem dX5_signedColumn_0 : decode cX5_signedColumn 0 = .ok (.iload_n 1, 1) := by decide +kernel
theorem dX5_signedColumn_1 : decode cX5_signedColumn 1 = .ok (.iconst 5, 1) := by decide +kernel
theorem dX5_signedColumn_2 : decode cX5_signedColumn 2 = .ok (.invokestatic 16, 3) := by decide +kernel
theorem dX5_signedColumn_5 : decode cX5_signedColumn 5 = .ok (.iload_n 2, 1) := by decide +kernel
theorem dX5_signedColumn_6 : decode cX5_signedColumn 6 = .ok (.bipush 64, 2) := by decide +kernel
theorem dX5_signedColumn_8 : decode cX5_signedColumn 8 = .ok (.invokestatic 16, 3) := by decide +kernel
theorem dX5_signedColumn_11 : decode cX5_signedColumn 11 = .ok (.iload_n 1, 1) := by decide +kernel
theorem dX5_signedColumn_12 : decode cX5_signedColumn 12 = .ok (.iload_n 2, 1) := by decide +kernel
theorem dX5_signedColumn_13 : decode cX5_signedColumn 13 = .ok (.invokestatic 99, 3) := by decide +kernel
theorem dX5_signedColumn_16 : decode cX5_signedColumn 16 = .ok (.ireturn, 1) := by decide +kernel
set_option maxRecDepth 20000 in
theorem ggX5_sign_X5_requirePlace : GoodIn wsX5_sign wsX5_requirePlace := goodIn_ca (goodIn_r _ [4, 5, 6] (by decide +kernel) (by decide +kernel)) (goodIn_sub (fun _ h => List.mem_cons_of_mem _ (List.mem_append_right _ h)) (by decide +kernel))
set_option maxRecDepth 20000 in
theorem gX5_sign_X5_requirePlace : GoodIn wsX5_sign (va_wsS RX5 16 yX5_requirePlace wsX5_requirePlace) := goodIn_app (goodIn_of _ (by decide +kernel)) ggX5_sign_X5_requirePlace
set_option maxRecDepth 20000 in
theorem ggX5_sign_X3_signOf : GoodIn wsX5_sign wsX3_signOf := goodIn_r _ [10, 11, 12] (by decide +kernel) (by decide +kernel)
set_option maxRecDepth 20000 in
theorem gX5_sign_X3_signOf : GoodIn wsX5_sign (va_wsS RX5 100 yX3_signOf wsX3_signOf) := goodIn_app (goodIn_of _ (by decide +kernel)) ggX5_sign_X3_signOf
theorem dX5_sign_0 : decode cX5_sign 0 = .ok (.iload_n 1, 1) := by decide +kernel
theorem dX5_sign_1 : decode cX5_sign 1 = .ok (.iconst 5, 1) := by decide +kernel
theorem dX5_sign_2 : decode cX5_sign 2 = .ok (.invokestatic 16, 3) := by decide +kernel
theorem dX5_sign_5 : decode cX5_sign 5 = .ok (.iload_n 2, 1) := by decide +kernel
theorem dX5_sign_6 : decode cX5_sign 6 = .ok (.bipush 64, 2) := by decide +kernel
theorem dX5_sign_8 : decode cX5_sign 8 = .ok (.invokestatic 16, 3) := by decide +kernel
theorem dX5_sign_11 : decode cX5_sign 11 = .ok (.iload_n 1, 1) := by decide +kernel
theorem dX5_sign_12 : decode cX5_sign 12 = .ok (.iload_n 2, 1) := by decide +kernel
theorem dX5_sign_13 : decode cX5_sign 13 = .ok (.invokestatic 100, 3) := by decide +kernel
theorem dX5_sign_16 : decode cX5_sign 16 = .ok (.ireturn, 1) := by decide +kernel
set_option maxRecDepth 20000 in
theorem ggX5_signedCell_X5_requirePlace : GoodIn wsX5_signedCell wsX5_requirePlace := goodIn_ca (goodIn_r _ [6, 7, 8] (by decide +kernel) (by decide +kernel)) (goodIn_sub (fun _ h => List.mem_cons_of_mem _ (List.mem_append_right _ h)) (by decide +kernel))
set_option maxRecDepth 20000 in
theorem gX5_signedCell_X5_requirePlace : GoodIn wsX5_signedCell (va_wsS RX5 16 yX5_requirePlace wsX5_requirePlace) := goodIn_app (goodIn_of _ (by decide +kernel)) ggX5_signedCell_X5_requirePlace
set_option maxRecDepth 20000 in
theorem ggX5_signedCell_X3_cellAt : GoodIn wsX5_signedCell wsX3_cellAt := goodIn_r _ [13, 14, 20, 21] (by decide +kernel) (by decide +kernel)
set_option maxRecDepth 20000 in
theorem gX5_signedCell_X3_cellAt : GoodIn wsX5_signedCell (wsV RX5 107 RX3 yX3_cellAt wsX3_cellAt) := goodIn_app (goodIn_of _ (by decide +kernel)) ggX5_signedCell_X3_cellAt
theorem dX5_signedCell_0 : decode cX5_signedCell 0 = .ok (.iload_n 1, 1) := by decide +kernel
theorem dX5_signedCell_1 : decode cX5_signedCell 1 = .ok (.iconst 4, 1) := by decide +kernel
theorem dX5_signedCell_2 : decode cX5_signedCell 2 = .ok (.invokestatic 16, 3) := by decide +kernel
theorem dX5_signedCell_5 : decode cX5_signedCell 5 = .ok (.iload_n 2, 1) := by decide +kernel
theorem dX5_signedCell_6 : decode cX5_signedCell 6 = .ok (.iconst 5, 1) := by decide +kernel
theorem dX5_signedCell_7 : decode cX5_signedCell 7 = .ok (.invokestatic 16, 3) := by decide +kernel
theorem dX5_signedCell_10 : decode cX5_signedCell 10 = .ok (.iload_n 3, 1) := by decide +kernel
theorem dX5_signedCell_11 : decode cX5_signedCell 11 = .ok (.bipush 8, 2) := by decide +kernel
theorem dX5_signedCell_13 : decode cX5_signedCell 13 = .ok (.invokestatic 16, 3) := by decide +kernel
theorem dX5_signedCell_16 : decode cX5_signedCell 16 = .ok (.aload_n 0, 1) := by decide +kernel
theorem dX5_signedCell_17 : decode cX5_signedCell 17 = .ok (.getfield 11, 3) := by decide +kernel
theorem dX5_signedCell_20 : decode cX5_signedCell 20 = .ok (.iload_n 1, 1) := by decide +kernel
theorem dX5_signedCell_21 : decode cX5_signedCell 21 = .ok (.aaload, 1) := by decide +kernel
theorem dX5_signedCell_22 : decode cX5_signedCell 22 = .ok (.getfield 103, 3) := by decide +kernel
theorem dX5_signedCell_25 : decode cX5_signedCell 25 = .ok (.iload_n 2, 1) := by decide +kernel
theorem dX5_signedCell_26 : decode cX5_signedCell 26 = .ok (.iload_n 3, 1) := by decide +kernel
theorem dX5_signedCell_27 : decode cX5_signedCell 27 = .ok (.invokevirtual 107, 3) := by decide +kernel
theorem dX5_signedCell_30 : decode cX5_signedCell 30 = .ok (.ireturn, 1) := by decide +kernel
set_option maxRecDepth 20000 in
theorem ggX5_signedProduct_X5_requirePlace : GoodIn wsX5_signedProduct wsX5_requirePlace := goodIn_ca (goodIn_r _ [6, 7, 8] (by decide +kernel) (by decide +kernel)) (goodIn_sub (fun _ h => List.mem_cons_of_mem _ (List.mem_append_right _ h)) (by decide +kernel))
set_option maxRecDepth 20000 in
theorem gX5_signedProduct_X5_requirePlace : GoodIn wsX5_signedProduct (va_wsS RX5 16 yX5_requirePlace wsX5_requirePlace) := goodIn_app (goodIn_of _ (by decide +kernel)) ggX5_signedProduct_X5_requirePlace
set_option maxRecDepth 20000 in
theorem ggX5_signedProduct_X3_middleProduct : GoodIn wsX5_signedProduct wsX3_middleProduct := goodIn_r _ [13, 14, 15, 16, 17, 12, 18, 19, 20, 21, 22, 23, 24, 25, 26, 27, 33, 34] (by decide +kernel) (by decide +kernel)
set_option maxRecDepth 20000 in
theorem gX5_signedProduct_X3_middleProduct : GoodIn wsX5_signedProduct (wsV RX5 112 RX3 yX3_middleProduct wsX3_middleProduct) := goodIn_app (goodIn_of _ (by decide +kernel)) ggX5_signedProduct_X3_middleProduct
theorem dX5_signedProduct_0 : decode cX5_signedProduct 0 = .ok (.iload_n 1, 1) := by decide +kernel
theorem dX5_signedProduct_1 : decode cX5_signedProduct 1 = .ok (.iconst 4, 1) := by decide +kernel
theorem dX5_signedProduct_2 : decode cX5_signedProduct 2 = .ok (.invokestatic 16, 3) := by decide +kernel
theorem dX5_signedProduct_5 : decode cX5_signedProduct 5 = .ok (.iload_n 2, 1) := by decide +kernel
theorem dX5_signedProduct_6 : decode cX5_signedProduct 6 = .ok (.iconst 4, 1) := by decide +kernel
theorem dX5_signedProduct_7 : decode cX5_signedProduct 7 = .ok (.invokestatic 16, 3) := by decide +kernel
theorem dX5_signedProduct_10 : decode cX5_signedProduct 10 = .ok (.aload_n 0, 1) := by decide +kernel
theorem dX5_signedProduct_11 : decode cX5_signedProduct 11 = .ok (.getfield 11, 3) := by decide +kernel
theorem dX5_signedProduct_14 : decode cX5_signedProduct 14 = .ok (.iload_n 1, 1) := by decide +kernel
theorem dX5_signedProduct_15 : decode cX5_signedProduct 15 = .ok (.aaload, 1) := by decide +kernel
theorem dX5_signedProduct_16 : decode cX5_signedProduct 16 = .ok (.getfield 103, 3) := by decide +kernel
theorem dX5_signedProduct_19 : decode cX5_signedProduct 19 = .ok (.aload_n 0, 1) := by decide +kernel
theorem dX5_signedProduct_20 : decode cX5_signedProduct 20 = .ok (.getfield 11, 3) := by decide +kernel
theorem dX5_signedProduct_23 : decode cX5_signedProduct 23 = .ok (.iload_n 2, 1) := by decide +kernel
theorem dX5_signedProduct_24 : decode cX5_signedProduct 24 = .ok (.aaload, 1) := by decide +kernel
theorem dX5_signedProduct_25 : decode cX5_signedProduct 25 = .ok (.getfield 103, 3) := by decide +kernel
theorem dX5_signedProduct_28 : decode cX5_signedProduct 28 = .ok (.invokevirtual 112, 3) := by decide +kernel
theorem dX5_signedProduct_31 : decode cX5_signedProduct 31 = .ok (.lreturn, 1) := by decide +kernel
set_option maxRecDepth 20000 in
theorem ggX5_counters_X5_requirePlace : GoodIn wsX5_counters wsX5_requirePlace := goodIn_ca (goodIn_r _ [6, 7, 8] (by decide +kernel) (by decide +kernel)) (goodIn_sub (fun _ h => List.mem_cons_of_mem _ (List.mem_append_right _ h)) (by decide +kernel))
set_option maxRecDepth 20000 in
theorem gX5_counters_X5_requirePlace : GoodIn wsX5_counters (va_wsS RX5 16 yX5_requirePlace wsX5_requirePlace) := goodIn_app (goodIn_of _ (by decide +kernel)) ggX5_counters_X5_requirePlace
theorem dX5_counters_0 : decode cX5_counters 0 = .ok (.iload_n 1, 1) := by decide +kernel
theorem dX5_counters_1 : decode cX5_counters 1 = .ok (.iconst 4, 1) := by decide +kernel
theorem dX5_counters_2 : decode cX5_counters 2 = .ok (.invokestatic 16, 3) := by decide +kernel
theorem dX5_counters_5 : decode cX5_counters 5 = .ok (.aload_n 0, 1) := by decide +kernel
theorem dX5_counters_6 : decode cX5_counters 6 = .ok (.getfield 11, 3) := by decide +kernel
theorem dX5_counters_9 : decode cX5_counters 9 = .ok (.iload_n 1, 1) := by decide +kernel
theorem dX5_counters_10 : decode cX5_counters 10 = .ok (.aaload, 1) := by decide +kernel
theorem dX5_counters_11 : decode cX5_counters 11 = .ok (.getfield 116, 3) := by decide +kernel
theorem dX5_counters_14 : decode cX5_counters 14 = .ok (.getfield 120, 3) := by decide +kernel
theorem dX5_counters_17 : decode cX5_counters 17 = .ok (.ireturn, 1) := by decide +kernel
set_option maxRecDepth 20000 in
theorem ggX5_counterItem_X5_requirePlace : GoodIn wsX5_counterItem wsX5_requirePlace := goodIn_ca (goodIn_r _ [6, 7, 8] (by decide +kernel) (by decide +kernel)) (goodIn_sub (fun _ h => List.mem_cons_of_mem _ (List.mem_append_right _ h)) (by decide +kernel))
set_option maxRecDepth 20000 in
theorem gX5_counterItem_X5_requirePlace : GoodIn wsX5_counterItem (va_wsS RX5 16 yX5_requirePlace wsX5_requirePlace) := goodIn_app (goodIn_of _ (by decide +kernel)) ggX5_counterItem_X5_requirePlace
theorem dX5_counterItem_0 : decode cX5_counterItem 0 = .ok (.iload_n 1, 1) := by decide +kernel
theorem dX5_counterItem_1 : decode cX5_counterItem 1 = .ok (.iconst 4, 1) := by decide +kernel
theorem dX5_counterItem_2 : decode cX5_counterItem 2 = .ok (.invokestatic 16, 3) := by decide +kernel
theorem dX5_counterItem_5 : decode cX5_counterItem 5 = .ok (.iload_n 2, 1) := by decide +kernel
theorem dX5_counterItem_6 : decode cX5_counterItem 6 = .ok (.aload_n 0, 1) := by decide +kernel
theorem dX5_counterItem_7 : decode cX5_counterItem 7 = .ok (.getfield 11, 3) := by decide +kernel
theorem dX5_counterItem_10 : decode cX5_counterItem 10 = .ok (.iload_n 1, 1) := by decide +kernel
theorem dX5_counterItem_11 : decode cX5_counterItem 11 = .ok (.aaload, 1) := by decide +kernel
theorem dX5_counterItem_12 : decode cX5_counterItem 12 = .ok (.getfield 116, 3) := by decide +kernel
theorem dX5_counterItem_15 : decode cX5_counterItem 15 = .ok (.getfield 120, 3) := by decide +kernel
theorem dX5_counterItem_18 : decode cX5_counterItem 18 = .ok (.invokestatic 16, 3) := by decide +kernel
theorem dX5_counterItem_21 : decode cX5_counterItem 21 = .ok (.aload_n 0, 1) := by decide +kernel
theorem dX5_counterItem_22 : decode cX5_counterItem 22 = .ok (.getfield 11, 3) := by decide +kernel
theorem dX5_counterItem_25 : decode cX5_counterItem 25 = .ok (.iload_n 1, 1) := by decide +kernel
theorem dX5_counterItem_26 : decode cX5_counterItem 26 = .ok (.aaload, 1) := by decide +kernel
theorem dX5_counterItem_27 : decode cX5_counterItem 27 = .ok (.getfield 116, 3) := by decide +kernel
theorem dX5_counterItem_30 : decode cX5_counterItem 30 = .ok (.getfield 126, 3) := by decide +kernel
theorem dX5_counterItem_33 : decode cX5_counterItem 33 = .ok (.iload_n 2, 1) := by decide +kernel
theorem dX5_counterItem_34 : decode cX5_counterItem 34 = .ok (.iaload, 1) := by decide +kernel
theorem dX5_counterItem_35 : decode cX5_counterItem 35 = .ok (.ireturn, 1) := by decide +kernel
set_option maxRecDepth 20000 in
theorem ggX5_counterOf_X5_requirePlace : GoodIn wsX5_counterOf wsX5_requirePlace := goodIn_ca (goodIn_r _ [6, 7, 8] (by decide +kernel) (by decide +kernel)) (goodIn_sub (fun _ h => List.mem_cons_of_mem _ (List.mem_append_right _ h)) (by decide +kernel))
set_option maxRecDepth 20000 in
theorem gX5_counterOf_X5_requirePlace : GoodIn wsX5_counterOf (va_wsS RX5 16 yX5_requirePlace wsX5_requirePlace) := goodIn_app (goodIn_of _ (by decide +kernel)) ggX5_counterOf_X5_requirePlace
set_option maxRecDepth 20000 in
theorem ggX5_counterOf_X1_weightOf : GoodIn wsX5_counterOf wsX1_weightOf := goodIn_r _ [13, 14, 15, 16, 17, 12, 18, 19, 20, 26, 27, 28, 29] (by decide +kernel) (by decide +kernel)
set_option maxRecDepth 20000 in
theorem gX5_counterOf_X1_weightOf : GoodIn wsX5_counterOf (wsV RX5 130 RX1 yX1_weightOf wsX1_weightOf) := goodIn_app (goodIn_of _ (by decide +kernel)) ggX5_counterOf_X1_weightOf
theorem dX5_counterOf_0 : decode cX5_counterOf 0 = .ok (.iload_n 1, 1) := by decide +kernel
theorem dX5_counterOf_1 : decode cX5_counterOf 1 = .ok (.iconst 4, 1) := by decide +kernel
theorem dX5_counterOf_2 : decode cX5_counterOf 2 = .ok (.invokestatic 16, 3) := by decide +kernel
theorem dX5_counterOf_5 : decode cX5_counterOf 5 = .ok (.iload_n 2, 1) := by decide +kernel
theorem dX5_counterOf_6 : decode cX5_counterOf 6 = .ok (.bipush 64, 2) := by decide +kernel
theorem dX5_counterOf_8 : decode cX5_counterOf 8 = .ok (.invokestatic 16, 3) := by decide +kernel
theorem dX5_counterOf_11 : decode cX5_counterOf 11 = .ok (.aload_n 0, 1) := by decide +kernel
theorem dX5_counterOf_12 : decode cX5_counterOf 12 = .ok (.getfield 11, 3) := by decide +kernel
theorem dX5_counterOf_15 : decode cX5_counterOf 15 = .ok (.iload_n 1, 1) := by decide +kernel
theorem dX5_counterOf_16 : decode cX5_counterOf 16 = .ok (.aaload, 1) := by decide +kernel
theorem dX5_counterOf_17 : decode cX5_counterOf 17 = .ok (.getfield 116, 3) := by decide +kernel
theorem dX5_counterOf_20 : decode cX5_counterOf 20 = .ok (.iload_n 2, 1) := by decide +kernel
theorem dX5_counterOf_21 : decode cX5_counterOf 21 = .ok (.invokevirtual 130, 3) := by decide +kernel
theorem dX5_counterOf_24 : decode cX5_counterOf 24 = .ok (.ireturn, 1) := by decide +kernel
set_option maxRecDepth 20000 in
theorem ggX5_taken_X5_requirePlace : GoodIn wsX5_taken wsX5_requirePlace := goodIn_ca (goodIn_r _ [6, 7, 8] (by decide +kernel) (by decide +kernel)) (goodIn_sub (fun _ h => List.mem_cons_of_mem _ (List.mem_append_right _ h)) (by decide +kernel))
set_option maxRecDepth 20000 in
theorem gX5_taken_X5_requirePlace : GoodIn wsX5_taken (va_wsS RX5 16 yX5_requirePlace wsX5_requirePlace) := goodIn_app (goodIn_of _ (by decide +kernel)) ggX5_taken_X5_requirePlace
theorem dX5_taken_0 : decode cX5_taken 0 = .ok (.iload_n 1, 1) := by decide +kernel
theorem dX5_taken_1 : decode cX5_taken 1 = .ok (.iconst 4, 1) := by decide +kernel
theorem dX5_taken_2 : decode cX5_taken 2 = .ok (.invokestatic 16, 3) := by decide +kernel
theorem dX5_taken_5 : decode cX5_taken 5 = .ok (.aload_n 0, 1) := by decide +kernel
theorem dX5_taken_6 : decode cX5_taken 6 = .ok (.getfield 11, 3) := by decide +kernel
theorem dX5_taken_9 : decode cX5_taken 9 = .ok (.iload_n 1, 1) := by decide +kernel
theorem dX5_taken_10 : decode cX5_taken 10 = .ok (.aaload, 1) := by decide +kernel
theorem dX5_taken_11 : decode cX5_taken 11 = .ok (.getfield 116, 3) := by decide +kernel
theorem dX5_taken_14 : decode cX5_taken 14 = .ok (.getfield 133, 3) := by decide +kernel
theorem dX5_taken_17 : decode cX5_taken 17 = .ok (.ireturn, 1) := by decide +kernel
theorem dX5_requirePlace_0 : decode cX5_requirePlace 0 = .ok (.iload_n 0, 1) := by decide +kernel
theorem dX5_requirePlace_1 : decode cX5_requirePlace 1 = .ok (.ifCond .lt 8, 3) := by decide +kernel
theorem dX5_requirePlace_4 : decode cX5_requirePlace 4 = .ok (.iload_n 0, 1) := by decide +kernel
theorem dX5_requirePlace_5 : decode cX5_requirePlace 5 = .ok (.iload_n 1, 1) := by decide +kernel
theorem dX5_requirePlace_6 : decode cX5_requirePlace 6 = .ok (.if_icmp .lt 13, 3) := by decide +kernel
theorem dX5_requirePlace_9 : decode cX5_requirePlace 9 = .ok (.new 136, 3) := by decide +kernel
theorem dX5_requirePlace_12 : decode cX5_requirePlace 12 = .ok (.dup, 1) := by decide +kernel
theorem dX5_requirePlace_13 : decode cX5_requirePlace 13 = .ok (.ldc 138, 2) := by decide +kernel
theorem dX5_requirePlace_15 : decode cX5_requirePlace 15 = .ok (.invokespecial 140, 3) := by decide +kernel
theorem dX5_requirePlace_18 : decode cX5_requirePlace 18 = .ok (.athrow, 1) := by decide +kernel
theorem dX5_requirePlace_19 : decode cX5_requirePlace 19 = .ok (.return_, 1) := by decide +kernel
set_option maxRecDepth 20000 in
theorem ggX5_requireRange_X5_requirePlace : GoodIn wsX5_requireRange wsX5_requirePlace := goodIn_ca (goodIn_r _ [6, 7, 8] (by decide +kernel) (by decide +kernel)) (goodIn_sub (fun _ h => List.mem_cons_of_mem _ (List.mem_append_right _ h)) (by decide +kernel))
set_option maxRecDepth 20000 in
theorem gX5_requireRange_X5_requirePlace : GoodIn wsX5_requireRange (va_wsS RX5 16 yX5_requirePlace wsX5_requirePlace) := goodIn_app (goodIn_of _ (by decide +kernel)) ggX5_requireRange_X5_requirePlace
theorem dX5_requireRange_0 : decode cX5_requireRange 0 = .ok (.iload_n 0, 1) := by decide +kernel
theorem dX5_requireRange_1 : decode cX5_requireRange 1 = .ok (.bipush 64, 2) := by decide +kernel
theorem dX5_requireRange_3 : decode cX5_requireRange 3 = .ok (.invokestatic 16, 3) := by decide +kernel
theorem dX5_requireRange_6 : decode cX5_requireRange 6 = .ok (.iload_n 1, 1) := by decide +kernel
theorem dX5_requireRange_7 : decode cX5_requireRange 7 = .ok (.bipush 64, 2) := by decide +kernel
theorem dX5_requireRange_9 : decode cX5_requireRange 9 = .ok (.invokestatic 16, 3) := by decide +kernel
theorem dX5_requireRange_12 : decode cX5_requireRange 12 = .ok (.iload_n 1, 1) := by decide +kernel
theorem dX5_requireRange_13 : decode cX5_requireRange 13 = .ok (.iload_n 0, 1) := by decide +kernel
theorem dX5_requireRange_14 : decode cX5_requireRange 14 = .ok (.if_icmp .ge 13, 3) := by decide +kernel
theorem dX5_requireRange_17 : decode cX5_requireRange 17 = .ok (.new 41, 3) := by decide +kernel
theorem dX5_requireRange_20 : decode cX5_requireRange 20 = .ok (.dup, 1) := by decide +kernel
theorem dX5_requireRange_21 : decode cX5_requireRange 21 = .ok (.ldc 141, 2) := by decide +kernel
theorem dX5_requireRange_23 : decode cX5_requireRange 23 = .ok (.invokespecial 45, 3) := by decide +kernel
theorem dX5_requireRange_26 : decode cX5_requireRange 26 = .ok (.athrow, 1) := by decide +kernel
theorem dX5_requireRange_27 : decode cX5_requireRange 27 = .ok (.return_, 1) := by decide +kernel
theorem dX5_requireWithin_0 : decode cX5_requireWithin 0 = .ok (.iload_n 0, 1) := by decide +kernel
theorem dX5_requireWithin_1 : decode cX5_requireWithin 1 = .ok (.iload_n 1, 1) := by decide +kernel
theorem dX5_requireWithin_2 : decode cX5_requireWithin 2 = .ok (.if_icmp .lt 8, 3) := by decide +kernel
theorem dX5_requireWithin_5 : decode cX5_requireWithin 5 = .ok (.iload_n 0, 1) := by decide +kernel
theorem dX5_requireWithin_6 : decode cX5_requireWithin 6 = .ok (.iload_n 2, 1) := by decide +kernel
theorem dX5_requireWithin_7 : decode cX5_requireWithin 7 = .ok (.if_icmp .le 13, 3) := by decide +kernel
theorem dX5_requireWithin_10 : decode cX5_requireWithin 10 = .ok (.new 41, 3) := by decide +kernel
theorem dX5_requireWithin_13 : decode cX5_requireWithin 13 = .ok (.dup, 1) := by decide +kernel
theorem dX5_requireWithin_14 : decode cX5_requireWithin 14 = .ok (.ldc 143, 2) := by decide +kernel
theorem dX5_requireWithin_16 : decode cX5_requireWithin 16 = .ok (.invokespecial 45, 3) := by decide +kernel
theorem dX5_requireWithin_19 : decode cX5_requireWithin 19 = .ok (.athrow, 1) := by decide +kernel
theorem dX5_requireWithin_20 : decode cX5_requireWithin 20 = .ok (.return_, 1) := by decide +kernel
theorem dX5_requireRoom_0 : decode cX5_requireRoom 0 = .ok (.iload_n 0, 1) := by decide +kernel
theorem dX5_requireRoom_1 : decode cX5_requireRoom 1 = .ok (.ldc 87, 2) := by decide +kernel
theorem dX5_requireRoom_3 : decode cX5_requireRoom 3 = .ok (.if_icmp .le 13, 3) := by decide +kernel
theorem dX5_requireRoom_6 : decode cX5_requireRoom 6 = .ok (.new 145, 3) := by decide +kernel
theorem dX5_requireRoom_9 : decode cX5_requireRoom 9 = .ok (.dup, 1) := by decide +kernel
theorem dX5_requireRoom_10 : decode cX5_requireRoom 10 = .ok (.ldc 147, 2) := by decide +kernel
theorem dX5_requireRoom_12 : decode cX5_requireRoom 12 = .ok (.invokespecial 149, 3) := by decide +kernel
theorem dX5_requireRoom_15 : decode cX5_requireRoom 15 = .ok (.athrow, 1) := by decide +kernel
theorem dX5_requireRoom_16 : decode cX5_requireRoom 16 = .ok (.return_, 1) := by decide +kernel
set_option maxRecDepth 20000 in
theorem ggX5_greatestLevel_X5_isHalfWithin : GoodIn wsX5_greatestLevel wsX5_isHalfWithin := goodIn_r _ [4] (by decide +kernel) (by decide +kernel)
set_option maxRecDepth 20000 in
theorem gX5_greatestLevel_X5_isHalfWithin : GoodIn wsX5_greatestLevel (va_wsS RX5 150 yX5_isHalfWithin wsX5_isHalfWithin) := goodIn_app (goodIn_of _ (by decide +kernel)) ggX5_greatestLevel_X5_isHalfWithin
theorem dX5_greatestLevel_0 : decode cX5_greatestLevel 0 = .ok (.iconst 0, 1) := by decide +kernel
theorem dX5_greatestLevel_1 : decode cX5_greatestLevel 1 = .ok (.istore_n 2, 1) := by decide +kernel
theorem dX5_greatestLevel_2 : decode cX5_greatestLevel 2 = .ok (.iload_n 2, 1) := by decide +kernel
theorem dX5_greatestLevel_3 : decode cX5_greatestLevel 3 = .ok (.bipush 6, 2) := by decide +kernel
theorem dX5_greatestLevel_5 : decode cX5_greatestLevel 5 = .ok (.if_icmp .ge 20, 3) := by decide +kernel
theorem dX5_greatestLevel_8 : decode cX5_greatestLevel 8 = .ok (.iload_n 2, 1) := by decide +kernel
theorem dX5_greatestLevel_9 : decode cX5_greatestLevel 9 = .ok (.iconst 1, 1) := by decide +kernel
theorem dX5_greatestLevel_10 : decode cX5_greatestLevel 10 = .ok (.iadd, 1) := by decide +kernel
theorem dX5_greatestLevel_11 : decode cX5_greatestLevel 11 = .ok (.iload_n 0, 1) := by decide +kernel
theorem dX5_greatestLevel_12 : decode cX5_greatestLevel 12 = .ok (.iload_n 1, 1) := by decide +kernel
theorem dX5_greatestLevel_13 : decode cX5_greatestLevel 13 = .ok (.invokestatic 150, 3) := by decide +kernel
theorem dX5_greatestLevel_16 : decode cX5_greatestLevel 16 = .ok (.ifCond .eq 9, 3) := by decide +kernel
theorem dX5_greatestLevel_19 : decode cX5_greatestLevel 19 = .ok (.iinc 2 1, 3) := by decide +kernel
theorem dX5_greatestLevel_22 : decode cX5_greatestLevel 22 = .ok (.goto (-20), 3) := by decide +kernel
theorem dX5_greatestLevel_25 : decode cX5_greatestLevel 25 = .ok (.iload_n 2, 1) := by decide +kernel
theorem dX5_greatestLevel_26 : decode cX5_greatestLevel 26 = .ok (.ireturn, 1) := by decide +kernel
theorem dX5_isHalfWithin_0 : decode cX5_isHalfWithin 0 = .ok (.iconst 1, 1) := by decide +kernel
theorem dX5_isHalfWithin_1 : decode cX5_isHalfWithin 1 = .ok (.iload_n 0, 1) := by decide +kernel
theorem dX5_isHalfWithin_2 : decode cX5_isHalfWithin 2 = .ok (.ishl, 1) := by decide +kernel
theorem dX5_isHalfWithin_3 : decode cX5_isHalfWithin 3 = .ok (.istore_n 3, 1) := by decide +kernel
theorem dX5_isHalfWithin_4 : decode cX5_isHalfWithin 4 = .ok (.iload_n 1, 1) := by decide +kernel
theorem dX5_isHalfWithin_5 : decode cX5_isHalfWithin 5 = .ok (.iload_n 3, 1) := by decide +kernel
theorem dX5_isHalfWithin_6 : decode cX5_isHalfWithin 6 = .ok (.iconst 1, 1) := by decide +kernel
theorem dX5_isHalfWithin_7 : decode cX5_isHalfWithin 7 = .ok (.isub, 1) := by decide +kernel
theorem dX5_isHalfWithin_8 : decode cX5_isHalfWithin 8 = .ok (.iand, 1) := by decide +kernel
theorem dX5_isHalfWithin_9 : decode cX5_isHalfWithin 9 = .ok (.ifCond .ne 16, 3) := by decide +kernel
theorem dX5_isHalfWithin_12 : decode cX5_isHalfWithin 12 = .ok (.iload_n 1, 1) := by decide +kernel
theorem dX5_isHalfWithin_13 : decode cX5_isHalfWithin 13 = .ok (.iload_n 3, 1) := by decide +kernel
theorem dX5_isHalfWithin_14 : decode cX5_isHalfWithin 14 = .ok (.iadd, 1) := by decide +kernel
theorem dX5_isHalfWithin_15 : decode cX5_isHalfWithin 15 = .ok (.iconst 1, 1) := by decide +kernel
theorem dX5_isHalfWithin_16 : decode cX5_isHalfWithin 16 = .ok (.isub, 1) := by decide +kernel
theorem dX5_isHalfWithin_17 : decode cX5_isHalfWithin 17 = .ok (.iload_n 2, 1) := by decide +kernel
theorem dX5_isHalfWithin_18 : decode cX5_isHalfWithin 18 = .ok (.if_icmp .gt 7, 3) := by decide +kernel
theorem dX5_isHalfWithin_21 : decode cX5_isHalfWithin 21 = .ok (.iconst 1, 1) := by decide +kernel
theorem dX5_isHalfWithin_22 : decode cX5_isHalfWithin 22 = .ok (.goto 4, 3) := by decide +kernel
theorem dX5_isHalfWithin_25 : decode cX5_isHalfWithin 25 = .ok (.iconst 0, 1) := by decide +kernel
theorem dX5_isHalfWithin_26 : decode cX5_isHalfWithin 26 = .ok (.ireturn, 1) := by decide +kernel
