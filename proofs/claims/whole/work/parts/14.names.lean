theorem dX6_init_0 : decode cX6_init 0 = .ok (.aload_n 0, 1) := by decide +kernel
theorem dX6_init_1 : decode cX6_init 1 = .ok (.invokespecial 1, 3) := by decide +kernel
theorem dX6_init_4 : decode cX6_init 4 = .ok (.aload_n 0, 1) := by decide +kernel
theorem dX6_init_5 : decode cX6_init 5 = .ok (.sipush 256, 3) := by decide +kernel
theorem dX6_init_8 : decode cX6_init 8 = .ok (.newarray .int, 2) := by decide +kernel
theorem dX6_init_10 : decode cX6_init 10 = .ok (.putfield 7, 3) := by decide +kernel
theorem dX6_init_13 : decode cX6_init 13 = .ok (.aload_n 0, 1) := by decide +kernel
theorem dX6_init_14 : decode cX6_init 14 = .ok (.iconst 4, 1) := by decide +kernel
theorem dX6_init_15 : decode cX6_init 15 = .ok (.newarray .int, 2) := by decide +kernel
theorem dX6_init_17 : decode cX6_init 17 = .ok (.putfield 13, 3) := by decide +kernel
theorem dX6_init_20 : decode cX6_init 20 = .ok (.aload_n 0, 1) := by decide +kernel
theorem dX6_init_21 : decode cX6_init 21 = .ok (.sipush 288, 3) := by decide +kernel
theorem dX6_init_24 : decode cX6_init 24 = .ok (.newarray .int, 2) := by decide +kernel
theorem dX6_init_26 : decode cX6_init 26 = .ok (.putfield 16, 3) := by decide +kernel
theorem dX6_init_29 : decode cX6_init 29 = .ok (.aload_n 0, 1) := by decide +kernel
theorem dX6_init_30 : decode cX6_init 30 = .ok (.iconst 4, 1) := by decide +kernel
theorem dX6_init_31 : decode cX6_init 31 = .ok (.newarray .int, 2) := by decide +kernel
theorem dX6_init_33 : decode cX6_init 33 = .ok (.putfield 19, 3) := by decide +kernel
theorem dX6_init_36 : decode cX6_init 36 = .ok (.aload_n 0, 1) := by decide +kernel
theorem dX6_init_37 : decode cX6_init 37 = .ok (.bipush 32, 2) := by decide +kernel
theorem dX6_init_39 : decode cX6_init 39 = .ok (.newarray .int, 2) := by decide +kernel
theorem dX6_init_41 : decode cX6_init 41 = .ok (.putfield 22, 3) := by decide +kernel
theorem dX6_init_44 : decode cX6_init 44 = .ok (.aload_n 0, 1) := by decide +kernel
theorem dX6_init_45 : decode cX6_init 45 = .ok (.bipush 32, 2) := by decide +kernel
theorem dX6_init_47 : decode cX6_init 47 = .ok (.newarray .int, 2) := by decide +kernel
theorem dX6_init_49 : decode cX6_init 49 = .ok (.putfield 25, 3) := by decide +kernel
theorem dX6_init_52 : decode cX6_init 52 = .ok (.aload_n 0, 1) := by decide +kernel
theorem dX6_init_53 : decode cX6_init 53 = .ok (.iconst 4, 1) := by decide +kernel
theorem dX6_init_54 : decode cX6_init 54 = .ok (.newarray .int, 2) := by decide +kernel
theorem dX6_init_56 : decode cX6_init 56 = .ok (.putfield 28, 3) := by decide +kernel
theorem dX6_init_59 : decode cX6_init 59 = .ok (.aload_n 0, 1) := by decide +kernel
theorem dX6_init_60 : decode cX6_init 60 = .ok (.iconst 5, 1) := by decide +kernel
theorem dX6_init_61 : decode cX6_init 61 = .ok (.newarray .long, 2) := by decide +kernel
theorem dX6_init_63 : decode cX6_init 63 = .ok (.putfield 31, 3) := by decide +kernel
theorem dX6_init_66 : decode cX6_init 66 = .ok (.return_, 1) := by decide +kernel
theorem dX6_thrown_0 : decode cX6_thrown 0 = .ok (.aload_n 0, 1) := by decide +kernel
theorem dX6_thrown_1 : decode cX6_thrown 1 = .ok (.getfield 35, 3) := by decide +kernel
theorem dX6_thrown_4 : decode cX6_thrown 4 = .ok (.ireturn, 1) := by decide +kernel
theorem dX6_holds_0 : decode cX6_holds 0 = .ok (.aload_n 0, 1) := by decide +kernel
theorem dX6_holds_1 : decode cX6_holds 1 = .ok (.iload_n 1, 1) := by decide +kernel
theorem dX6_holds_2 : decode cX6_holds 2 = .ok (.putfield 35, 3) := by decide +kernel
theorem dX6_holds_5 : decode cX6_holds 5 = .ok (.iload_n 1, 1) := by decide +kernel
theorem dX6_holds_6 : decode cX6_holds 6 = .ok (.ifCond .ne 7, 3) := by decide +kernel
theorem dX6_holds_9 : decode cX6_holds 9 = .ok (.iconst 1, 1) := by decide +kernel
theorem dX6_holds_10 : decode cX6_holds 10 = .ok (.goto 4, 3) := by decide +kernel
theorem dX6_holds_13 : decode cX6_holds 13 = .ok (.iconst 0, 1) := by decide +kernel
theorem dX6_holds_14 : decode cX6_holds 14 = .ok (.ireturn, 1) := by decide +kernel
theorem dX6_isIn_0 : decode cX6_isIn 0 = .ok (.iload_n 0, 1) := by decide +kernel
theorem dX6_isIn_1 : decode cX6_isIn 1 = .ok (.ifCond .lt 12, 3) := by decide +kernel
theorem dX6_isIn_4 : decode cX6_isIn 4 = .ok (.iload_n 0, 1) := by decide +kernel
theorem dX6_isIn_5 : decode cX6_isIn 5 = .ok (.iload_n 1, 1) := by decide +kernel
theorem dX6_isIn_6 : decode cX6_isIn 6 = .ok (.if_icmp .ge 7, 3) := by decide +kernel
theorem dX6_isIn_9 : decode cX6_isIn 9 = .ok (.iconst 1, 1) := by decide +kernel
theorem dX6_isIn_10 : decode cX6_isIn 10 = .ok (.goto 4, 3) := by decide +kernel
theorem dX6_isIn_13 : decode cX6_isIn 13 = .ok (.iconst 0, 1) := by decide +kernel
theorem dX6_isIn_14 : decode cX6_isIn 14 = .ok (.ireturn, 1) := by decide +kernel
set_option maxRecDepth 20000 in
theorem ggX6_isStream_X6_isIn : GoodIn wsX6_isStream wsX6_isIn := goodIn_r _ [4] (by decide +kernel) (by decide +kernel)
set_option maxRecDepth 20000 in
theorem gX6_isStream_X6_isIn : GoodIn wsX6_isStream (va_wsS RX6 39 yX6_isIn wsX6_isIn) := goodIn_app (goodIn_of _ (by decide +kernel)) ggX6_isStream_X6_isIn
theorem dX6_isStream_0 : decode cX6_isStream 0 = .ok (.iload_n 0, 1) := by decide +kernel
theorem dX6_isStream_1 : decode cX6_isStream 1 = .ok (.iconst 4, 1) := by decide +kernel
theorem dX6_isStream_2 : decode cX6_isStream 2 = .ok (.invokestatic 39, 3) := by decide +kernel
theorem dX6_isStream_5 : decode cX6_isStream 5 = .ok (.ireturn, 1) := by decide +kernel
theorem dX6_multiplier_0 : decode cX6_multiplier 0 = .ok (.iload_n 0, 1) := by decide +kernel
theorem dX6_multiplier_1 : decode cX6_multiplier 1 = .ok (.ifCond .ne 8, 3) := by decide +kernel
theorem dX6_multiplier_4 : decode cX6_multiplier 4 = .ok (.bipush 7, 2) := by decide +kernel
theorem dX6_multiplier_6 : decode cX6_multiplier 6 = .ok (.goto 15, 3) := by decide +kernel
theorem dX6_multiplier_9 : decode cX6_multiplier 9 = .ok (.iload_n 0, 1) := by decide +kernel
theorem dX6_multiplier_10 : decode cX6_multiplier 10 = .ok (.iconst 1, 1) := by decide +kernel
theorem dX6_multiplier_11 : decode cX6_multiplier 11 = .ok (.if_icmp .ne 8, 3) := by decide +kernel
theorem dX6_multiplier_14 : decode cX6_multiplier 14 = .ok (.bipush 11, 2) := by decide +kernel
theorem dX6_multiplier_16 : decode cX6_multiplier 16 = .ok (.goto 5, 3) := by decide +kernel
theorem dX6_multiplier_19 : decode cX6_multiplier 19 = .ok (.bipush 23, 2) := by decide +kernel
theorem dX6_multiplier_21 : decode cX6_multiplier 21 = .ok (.ireturn, 1) := by decide +kernel
theorem dX6_shift_0 : decode cX6_shift 0 = .ok (.iload_n 0, 1) := by decide +kernel
theorem dX6_shift_1 : decode cX6_shift 1 = .ok (.ifCond .ne 7, 3) := by decide +kernel
theorem dX6_shift_4 : decode cX6_shift 4 = .ok (.iconst 3, 1) := by decide +kernel
theorem dX6_shift_5 : decode cX6_shift 5 = .ok (.goto 14, 3) := by decide +kernel
theorem dX6_shift_8 : decode cX6_shift 8 = .ok (.iload_n 0, 1) := by decide +kernel
theorem dX6_shift_9 : decode cX6_shift 9 = .ok (.iconst 1, 1) := by decide +kernel
theorem dX6_shift_10 : decode cX6_shift 10 = .ok (.if_icmp .ne 8, 3) := by decide +kernel
theorem dX6_shift_13 : decode cX6_shift 13 = .ok (.bipush 19, 2) := by decide +kernel
theorem dX6_shift_15 : decode cX6_shift 15 = .ok (.goto 4, 3) := by decide +kernel
theorem dX6_shift_18 : decode cX6_shift 18 = .ok (.iconst 5, 1) := by decide +kernel
theorem dX6_shift_19 : decode cX6_shift 19 = .ok (.ireturn, 1) := by decide +kernel
set_option maxRecDepth 20000 in
theorem ggX6_columnOf_X6_multiplier : GoodIn wsX6_columnOf wsX6_multiplier := goodIn_r _ [4] (by decide +kernel) (by decide +kernel)
set_option maxRecDepth 20000 in
theorem gX6_columnOf_X6_multiplier : GoodIn wsX6_columnOf (va_wsS RX6 43 yX6_multiplier wsX6_multiplier) := goodIn_app (goodIn_of _ (by decide +kernel)) ggX6_columnOf_X6_multiplier
set_option maxRecDepth 20000 in
theorem ggX6_columnOf_X6_shift : GoodIn wsX6_columnOf wsX6_shift := goodIn_r _ [7] (by decide +kernel) (by decide +kernel)
set_option maxRecDepth 20000 in
theorem gX6_columnOf_X6_shift : GoodIn wsX6_columnOf (va_wsS RX6 47 yX6_shift wsX6_shift) := goodIn_app (goodIn_of _ (by decide +kernel)) ggX6_columnOf_X6_shift
theorem dX6_columnOf_0 : decode cX6_columnOf 0 = .ok (.iload_n 0, 1) := by decide +kernel
theorem dX6_columnOf_1 : decode cX6_columnOf 1 = .ok (.invokestatic 43, 3) := by decide +kernel
theorem dX6_columnOf_4 : decode cX6_columnOf 4 = .ok (.iload_n 1, 1) := by decide +kernel
theorem dX6_columnOf_5 : decode cX6_columnOf 5 = .ok (.imul, 1) := by decide +kernel
theorem dX6_columnOf_6 : decode cX6_columnOf 6 = .ok (.iload_n 0, 1) := by decide +kernel
theorem dX6_columnOf_7 : decode cX6_columnOf 7 = .ok (.invokestatic 47, 3) := by decide +kernel
theorem dX6_columnOf_10 : decode cX6_columnOf 10 = .ok (.iadd, 1) := by decide +kernel
theorem dX6_columnOf_11 : decode cX6_columnOf 11 = .ok (.bipush 61, 2) := by decide +kernel
theorem dX6_columnOf_13 : decode cX6_columnOf 13 = .ok (.irem, 1) := by decide +kernel
theorem dX6_columnOf_14 : decode cX6_columnOf 14 = .ok (.bipush 8, 2) := by decide +kernel
theorem dX6_columnOf_16 : decode cX6_columnOf 16 = .ok (.irem, 1) := by decide +kernel
theorem dX6_columnOf_17 : decode cX6_columnOf 17 = .ok (.ireturn, 1) := by decide +kernel
theorem dX6_signedColumnOf_0 : decode cX6_signedColumnOf 0 = .ok (.iload_n 0, 1) := by decide +kernel
theorem dX6_signedColumnOf_1 : decode cX6_signedColumnOf 1 = .ok (.ifCond .ne 7, 3) := by decide +kernel
theorem dX6_signedColumnOf_4 : decode cX6_signedColumnOf 4 = .ok (.iconst 5, 1) := by decide +kernel
theorem dX6_signedColumnOf_5 : decode cX6_signedColumnOf 5 = .ok (.goto 35, 3) := by decide +kernel
theorem dX6_signedColumnOf_8 : decode cX6_signedColumnOf 8 = .ok (.iload_n 0, 1) := by decide +kernel
theorem dX6_signedColumnOf_9 : decode cX6_signedColumnOf 9 = .ok (.iconst 1, 1) := by decide +kernel
theorem dX6_signedColumnOf_10 : decode cX6_signedColumnOf 10 = .ok (.if_icmp .ne 8, 3) := by decide +kernel
theorem dX6_signedColumnOf_13 : decode cX6_signedColumnOf 13 = .ok (.bipush 9, 2) := by decide +kernel
theorem dX6_signedColumnOf_15 : decode cX6_signedColumnOf 15 = .ok (.goto 25, 3) := by decide +kernel
theorem dX6_signedColumnOf_18 : decode cX6_signedColumnOf 18 = .ok (.iload_n 0, 1) := by decide +kernel
theorem dX6_signedColumnOf_19 : decode cX6_signedColumnOf 19 = .ok (.iconst 2, 1) := by decide +kernel
theorem dX6_signedColumnOf_20 : decode cX6_signedColumnOf 20 = .ok (.if_icmp .ne 8, 3) := by decide +kernel
theorem dX6_signedColumnOf_23 : decode cX6_signedColumnOf 23 = .ok (.bipush 14, 2) := by decide +kernel
theorem dX6_signedColumnOf_25 : decode cX6_signedColumnOf 25 = .ok (.goto 15, 3) := by decide +kernel
theorem dX6_signedColumnOf_28 : decode cX6_signedColumnOf 28 = .ok (.iload_n 0, 1) := by decide +kernel
theorem dX6_signedColumnOf_29 : decode cX6_signedColumnOf 29 = .ok (.iconst 3, 1) := by decide +kernel
theorem dX6_signedColumnOf_30 : decode cX6_signedColumnOf 30 = .ok (.if_icmp .ne 8, 3) := by decide +kernel
theorem dX6_signedColumnOf_33 : decode cX6_signedColumnOf 33 = .ok (.bipush 27, 2) := by decide +kernel
theorem dX6_signedColumnOf_35 : decode cX6_signedColumnOf 35 = .ok (.goto 5, 3) := by decide +kernel
theorem dX6_signedColumnOf_38 : decode cX6_signedColumnOf 38 = .ok (.bipush 33, 2) := by decide +kernel
theorem dX6_signedColumnOf_40 : decode cX6_signedColumnOf 40 = .ok (.istore_n 2, 1) := by decide +kernel
theorem dX6_signedColumnOf_41 : decode cX6_signedColumnOf 41 = .ok (.iload_n 0, 1) := by decide +kernel
theorem dX6_signedColumnOf_42 : decode cX6_signedColumnOf 42 = .ok (.ifCond .ne 7, 3) := by decide +kernel
theorem dX6_signedColumnOf_45 : decode cX6_signedColumnOf 45 = .ok (.iconst 1, 1) := by decide +kernel
theorem dX6_signedColumnOf_46 : decode cX6_signedColumnOf 46 = .ok (.goto 34, 3) := by decide +kernel
theorem dX6_signedColumnOf_49 : decode cX6_signedColumnOf 49 = .ok (.iload_n 0, 1) := by decide +kernel
theorem dX6_signedColumnOf_50 : decode cX6_signedColumnOf 50 = .ok (.iconst 1, 1) := by decide +kernel
theorem dX6_signedColumnOf_51 : decode cX6_signedColumnOf 51 = .ok (.if_icmp .ne 8, 3) := by decide +kernel
theorem dX6_signedColumnOf_54 : decode cX6_signedColumnOf 54 = .ok (.bipush 8, 2) := by decide +kernel
theorem dX6_signedColumnOf_56 : decode cX6_signedColumnOf 56 = .ok (.goto 24, 3) := by decide +kernel
theorem dX6_signedColumnOf_59 : decode cX6_signedColumnOf 59 = .ok (.iload_n 0, 1) := by decide +kernel
theorem dX6_signedColumnOf_60 : decode cX6_signedColumnOf 60 = .ok (.iconst 2, 1) := by decide +kernel
theorem dX6_signedColumnOf_61 : decode cX6_signedColumnOf 61 = .ok (.if_icmp .ne 7, 3) := by decide +kernel
theorem dX6_signedColumnOf_64 : decode cX6_signedColumnOf 64 = .ok (.iconst 2, 1) := by decide +kernel
theorem dX6_signedColumnOf_65 : decode cX6_signedColumnOf 65 = .ok (.goto 15, 3) := by decide +kernel
theorem dX6_signedColumnOf_68 : decode cX6_signedColumnOf 68 = .ok (.iload_n 0, 1) := by decide +kernel
theorem dX6_signedColumnOf_69 : decode cX6_signedColumnOf 69 = .ok (.iconst 3, 1) := by decide +kernel
theorem dX6_signedColumnOf_70 : decode cX6_signedColumnOf 70 = .ok (.if_icmp .ne 8, 3) := by decide +kernel
theorem dX6_signedColumnOf_73 : decode cX6_signedColumnOf 73 = .ok (.bipush 40, 2) := by decide +kernel
theorem dX6_signedColumnOf_75 : decode cX6_signedColumnOf 75 = .ok (.goto 5, 3) := by decide +kernel
theorem dX6_signedColumnOf_78 : decode cX6_signedColumnOf 78 = .ok (.bipush 17, 2) := by decide +kernel
theorem dX6_signedColumnOf_80 : decode cX6_signedColumnOf 80 = .ok (.istore_n 3, 1) := by decide +kernel
theorem dX6_signedColumnOf_81 : decode cX6_signedColumnOf 81 = .ok (.iload_n 2, 1) := by decide +kernel
theorem dX6_signedColumnOf_82 : decode cX6_signedColumnOf 82 = .ok (.iload_n 1, 1) := by decide +kernel
theorem dX6_signedColumnOf_83 : decode cX6_signedColumnOf 83 = .ok (.imul, 1) := by decide +kernel
theorem dX6_signedColumnOf_84 : decode cX6_signedColumnOf 84 = .ok (.iload_n 3, 1) := by decide +kernel
theorem dX6_signedColumnOf_85 : decode cX6_signedColumnOf 85 = .ok (.iadd, 1) := by decide +kernel
theorem dX6_signedColumnOf_86 : decode cX6_signedColumnOf 86 = .ok (.bipush 67, 2) := by decide +kernel
theorem dX6_signedColumnOf_88 : decode cX6_signedColumnOf 88 = .ok (.irem, 1) := by decide +kernel
theorem dX6_signedColumnOf_89 : decode cX6_signedColumnOf 89 = .ok (.bipush 8, 2) := by decide +kernel
theorem dX6_signedColumnOf_91 : decode cX6_signedColumnOf 91 = .ok (.irem, 1) := by decide +kernel
theorem dX6_signedColumnOf_92 : decode cX6_signedColumnOf 92 = .ok (.ireturn, 1) := by decide +kernel
theorem dX6_signOf_0 : decode cX6_signOf 0 = .ok (.iload_n 0, 1) := by decide +kernel
theorem dX6_signOf_1 : decode cX6_signOf 1 = .ok (.ifCond .ne 7, 3) := by decide +kernel
theorem dX6_signOf_4 : decode cX6_signOf 4 = .ok (.iconst 3, 1) := by decide +kernel
theorem dX6_signOf_5 : decode cX6_signOf 5 = .ok (.goto 35, 3) := by decide +kernel
theorem dX6_signOf_8 : decode cX6_signOf 8 = .ok (.iload_n 0, 1) := by decide +kernel
theorem dX6_signOf_9 : decode cX6_signOf 9 = .ok (.iconst 1, 1) := by decide +kernel
theorem dX6_signOf_10 : decode cX6_signOf 10 = .ok (.if_icmp .ne 8, 3) := by decide +kernel
theorem dX6_signOf_13 : decode cX6_signOf 13 = .ok (.bipush 10, 2) := by decide +kernel
theorem dX6_signOf_15 : decode cX6_signOf 15 = .ok (.goto 25, 3) := by decide +kernel
theorem dX6_signOf_18 : decode cX6_signOf 18 = .ok (.iload_n 0, 1) := by decide +kernel
theorem dX6_signOf_19 : decode cX6_signOf 19 = .ok (.iconst 2, 1) := by decide +kernel
theorem dX6_signOf_20 : decode cX6_signOf 20 = .ok (.if_icmp .ne 8, 3) := by decide +kernel
theorem dX6_signOf_23 : decode cX6_signOf 23 = .ok (.bipush 21, 2) := by decide +kernel
theorem dX6_signOf_25 : decode cX6_signOf 25 = .ok (.goto 15, 3) := by decide +kernel
theorem dX6_signOf_28 : decode cX6_signOf 28 = .ok (.iload_n 0, 1) := by decide +kernel
theorem dX6_signOf_29 : decode cX6_signOf 29 = .ok (.iconst 3, 1) := by decide +kernel
theorem dX6_signOf_30 : decode cX6_signOf 30 = .ok (.if_icmp .ne 8, 3) := by decide +kernel
theorem dX6_signOf_33 : decode cX6_signOf 33 = .ok (.bipush 29, 2) := by decide +kernel
theorem dX6_signOf_35 : decode cX6_signOf 35 = .ok (.goto 5, 3) := by decide +kernel
theorem dX6_signOf_38 : decode cX6_signOf 38 = .ok (.bipush 44, 2) := by decide +kernel
theorem dX6_signOf_40 : decode cX6_signOf 40 = .ok (.istore_n 2, 1) := by decide +kernel
theorem dX6_signOf_41 : decode cX6_signOf 41 = .ok (.iload_n 0, 1) := by decide +kernel
theorem dX6_signOf_42 : decode cX6_signOf 42 = .ok (.ifCond .ne 8, 3) := by decide +kernel
theorem dX6_signOf_45 : decode cX6_signOf 45 = .ok (.bipush 7, 2) := by decide +kernel
theorem dX6_signOf_47 : decode cX6_signOf 47 = .ok (.goto 33, 3) := by decide +kernel
theorem dX6_signOf_50 : decode cX6_signOf 50 = .ok (.iload_n 0, 1) := by decide +kernel
theorem dX6_signOf_51 : decode cX6_signOf 51 = .ok (.iconst 1, 1) := by decide +kernel
theorem dX6_signOf_52 : decode cX6_signOf 52 = .ok (.if_icmp .ne 7, 3) := by decide +kernel
theorem dX6_signOf_55 : decode cX6_signOf 55 = .ok (.iconst 0, 1) := by decide +kernel
theorem dX6_signOf_56 : decode cX6_signOf 56 = .ok (.goto 24, 3) := by decide +kernel
theorem dX6_signOf_59 : decode cX6_signOf 59 = .ok (.iload_n 0, 1) := by decide +kernel
theorem dX6_signOf_60 : decode cX6_signOf 60 = .ok (.iconst 2, 1) := by decide +kernel
theorem dX6_signOf_61 : decode cX6_signOf 61 = .ok (.if_icmp .ne 8, 3) := by decide +kernel
theorem dX6_signOf_64 : decode cX6_signOf 64 = .ok (.bipush 13, 2) := by decide +kernel
theorem dX6_signOf_66 : decode cX6_signOf 66 = .ok (.goto 14, 3) := by decide +kernel
theorem dX6_signOf_69 : decode cX6_signOf 69 = .ok (.iload_n 0, 1) := by decide +kernel
theorem dX6_signOf_70 : decode cX6_signOf 70 = .ok (.iconst 3, 1) := by decide +kernel
theorem dX6_signOf_71 : decode cX6_signOf 71 = .ok (.if_icmp .ne 7, 3) := by decide +kernel
theorem dX6_signOf_74 : decode cX6_signOf 74 = .ok (.iconst 5, 1) := by decide +kernel
theorem dX6_signOf_75 : decode cX6_signOf 75 = .ok (.goto 5, 3) := by decide +kernel
theorem dX6_signOf_78 : decode cX6_signOf 78 = .ok (.bipush 30, 2) := by decide +kernel
theorem dX6_signOf_80 : decode cX6_signOf 80 = .ok (.istore_n 3, 1) := by decide +kernel
theorem dX6_signOf_81 : decode cX6_signOf 81 = .ok (.iload_n 2, 1) := by decide +kernel
theorem dX6_signOf_82 : decode cX6_signOf 82 = .ok (.iload_n 1, 1) := by decide +kernel
theorem dX6_signOf_83 : decode cX6_signOf 83 = .ok (.imul, 1) := by decide +kernel
theorem dX6_signOf_84 : decode cX6_signOf 84 = .ok (.iload_n 3, 1) := by decide +kernel
theorem dX6_signOf_85 : decode cX6_signOf 85 = .ok (.iadd, 1) := by decide +kernel
theorem dX6_signOf_86 : decode cX6_signOf 86 = .ok (.bipush 71, 2) := by decide +kernel
theorem dX6_signOf_88 : decode cX6_signOf 88 = .ok (.irem, 1) := by decide +kernel
theorem dX6_signOf_89 : decode cX6_signOf 89 = .ok (.iconst 2, 1) := by decide +kernel
theorem dX6_signOf_90 : decode cX6_signOf 90 = .ok (.irem, 1) := by decide +kernel
theorem dX6_signOf_91 : decode cX6_signOf 91 = .ok (.ifCond .ne 7, 3) := by decide +kernel
theorem dX6_signOf_94 : decode cX6_signOf 94 = .ok (.iconst 1, 1) := by decide +kernel
theorem dX6_signOf_95 : decode cX6_signOf 95 = .ok (.goto 4, 3) := by decide +kernel
theorem dX6_signOf_98 : decode cX6_signOf 98 = .ok (.iconst (-1), 1) := by decide +kernel
theorem dX6_signOf_99 : decode cX6_signOf 99 = .ok (.ireturn, 1) := by decide +kernel
theorem dX6_placeOf_0 : decode cX6_placeOf 0 = .ok (.bipush 72, 2) := by decide +kernel
theorem dX6_placeOf_2 : decode cX6_placeOf 2 = .ok (.iload_n 0, 1) := by decide +kernel
theorem dX6_placeOf_3 : decode cX6_placeOf 3 = .ok (.imul, 1) := by decide +kernel
theorem dX6_placeOf_4 : decode cX6_placeOf 4 = .ok (.bipush 24, 2) := by decide +kernel
theorem dX6_placeOf_6 : decode cX6_placeOf 6 = .ok (.iload_n 1, 1) := by decide +kernel
theorem dX6_placeOf_7 : decode cX6_placeOf 7 = .ok (.imul, 1) := by decide +kernel
theorem dX6_placeOf_8 : decode cX6_placeOf 8 = .ok (.iadd, 1) := by decide +kernel
theorem dX6_placeOf_9 : decode cX6_placeOf 9 = .ok (.bipush 8, 2) := by decide +kernel
theorem dX6_placeOf_11 : decode cX6_placeOf 11 = .ok (.iload_n 2, 1) := by decide +kernel
theorem dX6_placeOf_12 : decode cX6_placeOf 12 = .ok (.imul, 1) := by decide +kernel
theorem dX6_placeOf_13 : decode cX6_placeOf 13 = .ok (.iadd, 1) := by decide +kernel
theorem dX6_placeOf_14 : decode cX6_placeOf 14 = .ok (.iload_n 3, 1) := by decide +kernel
theorem dX6_placeOf_15 : decode cX6_placeOf 15 = .ok (.iadd, 1) := by decide +kernel
theorem dX6_placeOf_16 : decode cX6_placeOf 16 = .ok (.ireturn, 1) := by decide +kernel
theorem dX6_sum_0 : decode cX6_sum 0 = .ok (.iconst 0, 1) := by decide +kernel
theorem dX6_sum_1 : decode cX6_sum 1 = .ok (.istore 4, 2) := by decide +kernel
theorem dX6_sum_3 : decode cX6_sum 3 = .ok (.iload_n 2, 1) := by decide +kernel
theorem dX6_sum_4 : decode cX6_sum 4 = .ok (.istore 5, 2) := by decide +kernel
theorem dX6_sum_6 : decode cX6_sum 6 = .ok (.iload 5, 2) := by decide +kernel
theorem dX6_sum_8 : decode cX6_sum 8 = .ok (.iload_n 3, 1) := by decide +kernel
theorem dX6_sum_9 : decode cX6_sum 9 = .ok (.if_icmp .gt 26, 3) := by decide +kernel
theorem dX6_sum_12 : decode cX6_sum 12 = .ok (.iload 4, 2) := by decide +kernel
theorem dX6_sum_14 : decode cX6_sum 14 = .ok (.aload_n 0, 1) := by decide +kernel
theorem dX6_sum_15 : decode cX6_sum 15 = .ok (.getfield 7, 3) := by decide +kernel
theorem dX6_sum_18 : decode cX6_sum 18 = .ok (.bipush 64, 2) := by decide +kernel
theorem dX6_sum_20 : decode cX6_sum 20 = .ok (.iload_n 1, 1) := by decide +kernel
theorem dX6_sum_21 : decode cX6_sum 21 = .ok (.imul, 1) := by decide +kernel
theorem dX6_sum_22 : decode cX6_sum 22 = .ok (.iload 5, 2) := by decide +kernel
theorem dX6_sum_24 : decode cX6_sum 24 = .ok (.iadd, 1) := by decide +kernel
theorem dX6_sum_25 : decode cX6_sum 25 = .ok (.iaload, 1) := by decide +kernel
theorem dX6_sum_26 : decode cX6_sum 26 = .ok (.iadd, 1) := by decide +kernel
theorem dX6_sum_27 : decode cX6_sum 27 = .ok (.istore 4, 2) := by decide +kernel
theorem dX6_sum_29 : decode cX6_sum 29 = .ok (.iinc 5 1, 3) := by decide +kernel
theorem dX6_sum_32 : decode cX6_sum 32 = .ok (.goto (-26), 3) := by decide +kernel
theorem dX6_sum_35 : decode cX6_sum 35 = .ok (.iload 4, 2) := by decide +kernel
theorem dX6_sum_37 : decode cX6_sum 37 = .ok (.ireturn, 1) := by decide +kernel
set_option maxRecDepth 20000 in
theorem ggX6_estimateOf_X6_sum : GoodIn wsX6_estimateOf wsX6_sum := goodIn_r _ [6, 7, 20, 21, 22, 23, 24, 25, 26, 27, 28] (by decide +kernel) (by decide +kernel)
set_option maxRecDepth 20000 in
theorem gX6_estimateOf_X6_sum : GoodIn wsX6_estimateOf (wsV RX6 50 RX6 yX6_sum wsX6_sum) := goodIn_app (goodIn_of _ (by decide +kernel)) ggX6_estimateOf_X6_sum
set_option maxRecDepth 20000 in
theorem ggX6_estimateOf_X6_columnOf : GoodIn wsX6_estimateOf wsX6_columnOf := goodIn_r _ [10, 11, 12, 5, 13, 14, 15, 16] (by decide +kernel) (by decide +kernel)
set_option maxRecDepth 20000 in
theorem gX6_estimateOf_X6_columnOf : GoodIn wsX6_estimateOf (va_wsS RX6 54 yX6_columnOf wsX6_columnOf) := goodIn_app (goodIn_of _ (by decide +kernel)) ggX6_estimateOf_X6_columnOf
set_option maxRecDepth 20000 in
theorem ggX6_estimateOf_X6_placeOf : GoodIn wsX6_estimateOf wsX6_placeOf := goodIn_r _ [19] (by decide +kernel) (by decide +kernel)
set_option maxRecDepth 20000 in
theorem gX6_estimateOf_X6_placeOf : GoodIn wsX6_estimateOf (va_wsS RX6 58 yX6_placeOf wsX6_placeOf) := goodIn_app (goodIn_of _ (by decide +kernel)) ggX6_estimateOf_X6_placeOf
theorem dX6_estimateOf_0 : decode cX6_estimateOf 0 = .ok (.iload_n 2, 1) := by decide +kernel
theorem dX6_estimateOf_1 : decode cX6_estimateOf 1 = .ok (.iconst 3, 1) := by decide +kernel
theorem dX6_estimateOf_2 : decode cX6_estimateOf 2 = .ok (.if_icmp .lt 19, 3) := by decide +kernel
theorem dX6_estimateOf_5 : decode cX6_estimateOf 5 = .ok (.aload_n 0, 1) := by decide +kernel
theorem dX6_estimateOf_6 : decode cX6_estimateOf 6 = .ok (.iload_n 1, 1) := by decide +kernel
theorem dX6_estimateOf_7 : decode cX6_estimateOf 7 = .ok (.iload_n 3, 1) := by decide +kernel
theorem dX6_estimateOf_8 : decode cX6_estimateOf 8 = .ok (.iload_n 2, 1) := by decide +kernel
theorem dX6_estimateOf_9 : decode cX6_estimateOf 9 = .ok (.ishl, 1) := by decide +kernel
theorem dX6_estimateOf_10 : decode cX6_estimateOf 10 = .ok (.iload_n 3, 1) := by decide +kernel
theorem dX6_estimateOf_11 : decode cX6_estimateOf 11 = .ok (.iconst 1, 1) := by decide +kernel
theorem dX6_estimateOf_12 : decode cX6_estimateOf 12 = .ok (.iadd, 1) := by decide +kernel
theorem dX6_estimateOf_13 : decode cX6_estimateOf 13 = .ok (.iload_n 2, 1) := by decide +kernel
theorem dX6_estimateOf_14 : decode cX6_estimateOf 14 = .ok (.ishl, 1) := by decide +kernel
theorem dX6_estimateOf_15 : decode cX6_estimateOf 15 = .ok (.iconst 1, 1) := by decide +kernel
theorem dX6_estimateOf_16 : decode cX6_estimateOf 16 = .ok (.isub, 1) := by decide +kernel
theorem dX6_estimateOf_17 : decode cX6_estimateOf 17 = .ok (.invokevirtual 50, 3) := by decide +kernel
theorem dX6_estimateOf_20 : decode cX6_estimateOf 20 = .ok (.ireturn, 1) := by decide +kernel
theorem dX6_estimateOf_21 : decode cX6_estimateOf 21 = .ok (.aload_n 0, 1) := by decide +kernel
theorem dX6_estimateOf_22 : decode cX6_estimateOf 22 = .ok (.getfield 16, 3) := by decide +kernel
theorem dX6_estimateOf_25 : decode cX6_estimateOf 25 = .ok (.iload_n 1, 1) := by decide +kernel
theorem dX6_estimateOf_26 : decode cX6_estimateOf 26 = .ok (.iload_n 2, 1) := by decide +kernel
theorem dX6_estimateOf_27 : decode cX6_estimateOf 27 = .ok (.iconst 0, 1) := by decide +kernel
theorem dX6_estimateOf_28 : decode cX6_estimateOf 28 = .ok (.iconst 0, 1) := by decide +kernel
theorem dX6_estimateOf_29 : decode cX6_estimateOf 29 = .ok (.iload_n 3, 1) := by decide +kernel
theorem dX6_estimateOf_30 : decode cX6_estimateOf 30 = .ok (.invokestatic 54, 3) := by decide +kernel
theorem dX6_estimateOf_33 : decode cX6_estimateOf 33 = .ok (.invokestatic 58, 3) := by decide +kernel
theorem dX6_estimateOf_36 : decode cX6_estimateOf 36 = .ok (.iaload, 1) := by decide +kernel
theorem dX6_estimateOf_37 : decode cX6_estimateOf 37 = .ok (.istore 4, 2) := by decide +kernel
theorem dX6_estimateOf_39 : decode cX6_estimateOf 39 = .ok (.iconst 1, 1) := by decide +kernel
theorem dX6_estimateOf_40 : decode cX6_estimateOf 40 = .ok (.istore 5, 2) := by decide +kernel
theorem dX6_estimateOf_42 : decode cX6_estimateOf 42 = .ok (.iload 5, 2) := by decide +kernel
theorem dX6_estimateOf_44 : decode cX6_estimateOf 44 = .ok (.iconst 3, 1) := by decide +kernel
theorem dX6_estimateOf_45 : decode cX6_estimateOf 45 = .ok (.if_icmp .ge 45, 3) := by decide +kernel
theorem dX6_estimateOf_48 : decode cX6_estimateOf 48 = .ok (.aload_n 0, 1) := by decide +kernel
theorem dX6_estimateOf_49 : decode cX6_estimateOf 49 = .ok (.getfield 16, 3) := by decide +kernel
theorem dX6_estimateOf_52 : decode cX6_estimateOf 52 = .ok (.iload_n 1, 1) := by decide +kernel
theorem dX6_estimateOf_53 : decode cX6_estimateOf 53 = .ok (.iload_n 2, 1) := by decide +kernel
theorem dX6_estimateOf_54 : decode cX6_estimateOf 54 = .ok (.iload 5, 2) := by decide +kernel
theorem dX6_estimateOf_56 : decode cX6_estimateOf 56 = .ok (.iload 5, 2) := by decide +kernel
theorem dX6_estimateOf_58 : decode cX6_estimateOf 58 = .ok (.iload_n 3, 1) := by decide +kernel
theorem dX6_estimateOf_59 : decode cX6_estimateOf 59 = .ok (.invokestatic 54, 3) := by decide +kernel
theorem dX6_estimateOf_62 : decode cX6_estimateOf 62 = .ok (.invokestatic 58, 3) := by decide +kernel
theorem dX6_estimateOf_65 : decode cX6_estimateOf 65 = .ok (.iaload, 1) := by decide +kernel
theorem dX6_estimateOf_66 : decode cX6_estimateOf 66 = .ok (.istore 6, 2) := by decide +kernel
theorem dX6_estimateOf_68 : decode cX6_estimateOf 68 = .ok (.iload 6, 2) := by decide +kernel
theorem dX6_estimateOf_70 : decode cX6_estimateOf 70 = .ok (.iload 4, 2) := by decide +kernel
theorem dX6_estimateOf_72 : decode cX6_estimateOf 72 = .ok (.if_icmp .ge 8, 3) := by decide +kernel
theorem dX6_estimateOf_75 : decode cX6_estimateOf 75 = .ok (.iload 6, 2) := by decide +kernel
theorem dX6_estimateOf_77 : decode cX6_estimateOf 77 = .ok (.goto 5, 3) := by decide +kernel
theorem dX6_estimateOf_80 : decode cX6_estimateOf 80 = .ok (.iload 4, 2) := by decide +kernel
theorem dX6_estimateOf_82 : decode cX6_estimateOf 82 = .ok (.istore 4, 2) := by decide +kernel
theorem dX6_estimateOf_84 : decode cX6_estimateOf 84 = .ok (.iinc 5 1, 3) := by decide +kernel
theorem dX6_estimateOf_87 : decode cX6_estimateOf 87 = .ok (.goto (-45), 3) := by decide +kernel
theorem dX6_estimateOf_90 : decode cX6_estimateOf 90 = .ok (.iload 4, 2) := by decide +kernel
theorem dX6_estimateOf_92 : decode cX6_estimateOf 92 = .ok (.ireturn, 1) := by decide +kernel
set_option maxRecDepth 20000 in
theorem ggX6_addsCarefully_X6_estimateOf : GoodIn wsX6_addsCarefully wsX6_estimateOf := goodIn_r _ [6, 1, 7, 8, 9, 5, 10, 11, 12, 13, 14, 15, 16, 17, 18, 19, 20, 21, 22, 23, 24, 25, 26, 27, 28, 29, 30, 31, 32] (by decide +kernel) (by decide +kernel)
set_option maxRecDepth 20000 in
theorem gX6_addsCarefully_X6_estimateOf : GoodIn wsX6_addsCarefully (wsV RX6 62 RX6 yX6_estimateOf wsX6_estimateOf) := goodIn_app (goodIn_of _ (by decide +kernel)) ggX6_addsCarefully_X6_estimateOf
set_option maxRecDepth 20000 in
theorem ggX6_addsCarefully_X6_columnOf : GoodIn wsX6_addsCarefully wsX6_columnOf := goodIn_r _ [14, 15, 16, 5, 17, 18, 19, 20] (by decide +kernel) (by decide +kernel)
set_option maxRecDepth 20000 in
theorem gX6_addsCarefully_X6_columnOf : GoodIn wsX6_addsCarefully (va_wsS RX6 54 yX6_columnOf wsX6_columnOf) := goodIn_app (goodIn_of _ (by decide +kernel)) ggX6_addsCarefully_X6_columnOf
set_option maxRecDepth 20000 in
theorem ggX6_addsCarefully_X6_placeOf : GoodIn wsX6_addsCarefully wsX6_placeOf := goodIn_r _ [23] (by decide +kernel) (by decide +kernel)
set_option maxRecDepth 20000 in
theorem gX6_addsCarefully_X6_placeOf : GoodIn wsX6_addsCarefully (va_wsS RX6 58 yX6_placeOf wsX6_placeOf) := goodIn_app (goodIn_of _ (by decide +kernel)) ggX6_addsCarefully_X6_placeOf
theorem dX6_addsCarefully_0 : decode cX6_addsCarefully 0 = .ok (.iconst 0, 1) := by decide +kernel
theorem dX6_addsCarefully_1 : decode cX6_addsCarefully 1 = .ok (.istore 4, 2) := by decide +kernel
theorem dX6_addsCarefully_3 : decode cX6_addsCarefully 3 = .ok (.iload 4, 2) := by decide +kernel
theorem dX6_addsCarefully_5 : decode cX6_addsCarefully 5 = .ok (.iconst 3, 1) := by decide +kernel
theorem dX6_addsCarefully_6 : decode cX6_addsCarefully 6 = .ok (.if_icmp .ge 91, 3) := by decide +kernel
theorem dX6_addsCarefully_9 : decode cX6_addsCarefully 9 = .ok (.iload_n 2, 1) := by decide +kernel
theorem dX6_addsCarefully_10 : decode cX6_addsCarefully 10 = .ok (.iload 4, 2) := by decide +kernel
theorem dX6_addsCarefully_12 : decode cX6_addsCarefully 12 = .ok (.ishr, 1) := by decide +kernel
theorem dX6_addsCarefully_13 : decode cX6_addsCarefully 13 = .ok (.istore 5, 2) := by decide +kernel
theorem dX6_addsCarefully_15 : decode cX6_addsCarefully 15 = .ok (.aload_n 0, 1) := by decide +kernel
theorem dX6_addsCarefully_16 : decode cX6_addsCarefully 16 = .ok (.iload_n 1, 1) := by decide +kernel
theorem dX6_addsCarefully_17 : decode cX6_addsCarefully 17 = .ok (.iload 4, 2) := by decide +kernel
theorem dX6_addsCarefully_19 : decode cX6_addsCarefully 19 = .ok (.iload 5, 2) := by decide +kernel
theorem dX6_addsCarefully_21 : decode cX6_addsCarefully 21 = .ok (.invokevirtual 62, 3) := by decide +kernel
theorem dX6_addsCarefully_24 : decode cX6_addsCarefully 24 = .ok (.iload_n 3, 1) := by decide +kernel
theorem dX6_addsCarefully_25 : decode cX6_addsCarefully 25 = .ok (.iadd, 1) := by decide +kernel
theorem dX6_addsCarefully_26 : decode cX6_addsCarefully 26 = .ok (.istore 6, 2) := by decide +kernel
theorem dX6_addsCarefully_28 : decode cX6_addsCarefully 28 = .ok (.iconst 0, 1) := by decide +kernel
theorem dX6_addsCarefully_29 : decode cX6_addsCarefully 29 = .ok (.istore 7, 2) := by decide +kernel
theorem dX6_addsCarefully_31 : decode cX6_addsCarefully 31 = .ok (.iload 7, 2) := by decide +kernel
theorem dX6_addsCarefully_33 : decode cX6_addsCarefully 33 = .ok (.iconst 3, 1) := by decide +kernel
theorem dX6_addsCarefully_34 : decode cX6_addsCarefully 34 = .ok (.if_icmp .ge 57, 3) := by decide +kernel
theorem dX6_addsCarefully_37 : decode cX6_addsCarefully 37 = .ok (.iload_n 1, 1) := by decide +kernel
theorem dX6_addsCarefully_38 : decode cX6_addsCarefully 38 = .ok (.iload 4, 2) := by decide +kernel
theorem dX6_addsCarefully_40 : decode cX6_addsCarefully 40 = .ok (.iload 7, 2) := by decide +kernel
theorem dX6_addsCarefully_42 : decode cX6_addsCarefully 42 = .ok (.iload 7, 2) := by decide +kernel
theorem dX6_addsCarefully_44 : decode cX6_addsCarefully 44 = .ok (.iload 5, 2) := by decide +kernel
theorem dX6_addsCarefully_46 : decode cX6_addsCarefully 46 = .ok (.invokestatic 54, 3) := by decide +kernel
theorem dX6_addsCarefully_49 : decode cX6_addsCarefully 49 = .ok (.invokestatic 58, 3) := by decide +kernel
theorem dX6_addsCarefully_52 : decode cX6_addsCarefully 52 = .ok (.istore 8, 2) := by decide +kernel
theorem dX6_addsCarefully_54 : decode cX6_addsCarefully 54 = .ok (.aload_n 0, 1) := by decide +kernel
theorem dX6_addsCarefully_55 : decode cX6_addsCarefully 55 = .ok (.getfield 16, 3) := by decide +kernel
theorem dX6_addsCarefully_58 : decode cX6_addsCarefully 58 = .ok (.iload 8, 2) := by decide +kernel
theorem dX6_addsCarefully_60 : decode cX6_addsCarefully 60 = .ok (.aload_n 0, 1) := by decide +kernel
theorem dX6_addsCarefully_61 : decode cX6_addsCarefully 61 = .ok (.getfield 16, 3) := by decide +kernel
theorem dX6_addsCarefully_64 : decode cX6_addsCarefully 64 = .ok (.iload 8, 2) := by decide +kernel
theorem dX6_addsCarefully_66 : decode cX6_addsCarefully 66 = .ok (.iaload, 1) := by decide +kernel
theorem dX6_addsCarefully_67 : decode cX6_addsCarefully 67 = .ok (.iload 6, 2) := by decide +kernel
theorem dX6_addsCarefully_69 : decode cX6_addsCarefully 69 = .ok (.if_icmp .le 13, 3) := by decide +kernel
theorem dX6_addsCarefully_72 : decode cX6_addsCarefully 72 = .ok (.aload_n 0, 1) := by decide +kernel
theorem dX6_addsCarefully_73 : decode cX6_addsCarefully 73 = .ok (.getfield 16, 3) := by decide +kernel
theorem dX6_addsCarefully_76 : decode cX6_addsCarefully 76 = .ok (.iload 8, 2) := by decide +kernel
theorem dX6_addsCarefully_78 : decode cX6_addsCarefully 78 = .ok (.iaload, 1) := by decide +kernel
theorem dX6_addsCarefully_79 : decode cX6_addsCarefully 79 = .ok (.goto 5, 3) := by decide +kernel
theorem dX6_addsCarefully_82 : decode cX6_addsCarefully 82 = .ok (.iload 6, 2) := by decide +kernel
theorem dX6_addsCarefully_84 : decode cX6_addsCarefully 84 = .ok (.iastore, 1) := by decide +kernel
theorem dX6_addsCarefully_85 : decode cX6_addsCarefully 85 = .ok (.iinc 7 1, 3) := by decide +kernel
theorem dX6_addsCarefully_88 : decode cX6_addsCarefully 88 = .ok (.goto (-57), 3) := by decide +kernel
theorem dX6_addsCarefully_91 : decode cX6_addsCarefully 91 = .ok (.iinc 4 1, 3) := by decide +kernel
theorem dX6_addsCarefully_94 : decode cX6_addsCarefully 94 = .ok (.goto (-91), 3) := by decide +kernel
theorem dX6_addsCarefully_97 : decode cX6_addsCarefully 97 = .ok (.return_, 1) := by decide +kernel
theorem dX6_placeOfCounter_0 : decode cX6_placeOfCounter 0 = .ok (.iconst (-1), 1) := by decide +kernel
theorem dX6_placeOfCounter_1 : decode cX6_placeOfCounter 1 = .ok (.istore_n 3, 1) := by decide +kernel
theorem dX6_placeOfCounter_2 : decode cX6_placeOfCounter 2 = .ok (.iconst 0, 1) := by decide +kernel
theorem dX6_placeOfCounter_3 : decode cX6_placeOfCounter 3 = .ok (.istore 4, 2) := by decide +kernel
theorem dX6_placeOfCounter_5 : decode cX6_placeOfCounter 5 = .ok (.iload 4, 2) := by decide +kernel
theorem dX6_placeOfCounter_7 : decode cX6_placeOfCounter 7 = .ok (.aload_n 0, 1) := by decide +kernel
theorem dX6_placeOfCounter_8 : decode cX6_placeOfCounter 8 = .ok (.getfield 19, 3) := by decide +kernel
theorem dX6_placeOfCounter_11 : decode cX6_placeOfCounter 11 = .ok (.iload_n 1, 1) := by decide +kernel
theorem dX6_placeOfCounter_12 : decode cX6_placeOfCounter 12 = .ok (.iaload, 1) := by decide +kernel
theorem dX6_placeOfCounter_13 : decode cX6_placeOfCounter 13 = .ok (.if_icmp .ge 32, 3) := by decide +kernel
theorem dX6_placeOfCounter_16 : decode cX6_placeOfCounter 16 = .ok (.aload_n 0, 1) := by decide +kernel
theorem dX6_placeOfCounter_17 : decode cX6_placeOfCounter 17 = .ok (.getfield 22, 3) := by decide +kernel
theorem dX6_placeOfCounter_20 : decode cX6_placeOfCounter 20 = .ok (.bipush 8, 2) := by decide +kernel
theorem dX6_placeOfCounter_22 : decode cX6_placeOfCounter 22 = .ok (.iload_n 1, 1) := by decide +kernel
theorem dX6_placeOfCounter_23 : decode cX6_placeOfCounter 23 = .ok (.imul, 1) := by decide +kernel
theorem dX6_placeOfCounter_24 : decode cX6_placeOfCounter 24 = .ok (.iload 4, 2) := by decide +kernel
theorem dX6_placeOfCounter_26 : decode cX6_placeOfCounter 26 = .ok (.iadd, 1) := by decide +kernel
theorem dX6_placeOfCounter_27 : decode cX6_placeOfCounter 27 = .ok (.iaload, 1) := by decide +kernel
theorem dX6_placeOfCounter_28 : decode cX6_placeOfCounter 28 = .ok (.iload_n 2, 1) := by decide +kernel
theorem dX6_placeOfCounter_29 : decode cX6_placeOfCounter 29 = .ok (.if_icmp .ne 8, 3) := by decide +kernel
theorem dX6_placeOfCounter_32 : decode cX6_placeOfCounter 32 = .ok (.iload 4, 2) := by decide +kernel
theorem dX6_placeOfCounter_34 : decode cX6_placeOfCounter 34 = .ok (.goto 4, 3) := by decide +kernel
theorem dX6_placeOfCounter_37 : decode cX6_placeOfCounter 37 = .ok (.iload_n 3, 1) := by decide +kernel
theorem dX6_placeOfCounter_38 : decode cX6_placeOfCounter 38 = .ok (.istore_n 3, 1) := by decide +kernel
theorem dX6_placeOfCounter_39 : decode cX6_placeOfCounter 39 = .ok (.iinc 4 1, 3) := by decide +kernel
theorem dX6_placeOfCounter_42 : decode cX6_placeOfCounter 42 = .ok (.goto (-37), 3) := by decide +kernel
theorem dX6_placeOfCounter_45 : decode cX6_placeOfCounter 45 = .ok (.iload_n 3, 1) := by decide +kernel
theorem dX6_placeOfCounter_46 : decode cX6_placeOfCounter 46 = .ok (.ireturn, 1) := by decide +kernel
theorem dX6_takes_0 : decode cX6_takes 0 = .ok (.iconst 0, 1) := by decide +kernel
theorem dX6_takes_1 : decode cX6_takes 1 = .ok (.istore_n 3, 1) := by decide +kernel
theorem dX6_takes_2 : decode cX6_takes 2 = .ok (.iconst 0, 1) := by decide +kernel
theorem dX6_takes_3 : decode cX6_takes 3 = .ok (.istore 4, 2) := by decide +kernel
theorem dX6_takes_5 : decode cX6_takes 5 = .ok (.iload 4, 2) := by decide +kernel
theorem dX6_takes_7 : decode cX6_takes 7 = .ok (.aload_n 0, 1) := by decide +kernel
theorem dX6_takes_8 : decode cX6_takes 8 = .ok (.getfield 19, 3) := by decide +kernel
theorem dX6_takes_11 : decode cX6_takes 11 = .ok (.iload_n 1, 1) := by decide +kernel
theorem dX6_takes_12 : decode cX6_takes 12 = .ok (.iaload, 1) := by decide +kernel
theorem dX6_takes_13 : decode cX6_takes 13 = .ok (.if_icmp .ge 74, 3) := by decide +kernel
theorem dX6_takes_16 : decode cX6_takes 16 = .ok (.aload_n 0, 1) := by decide +kernel
theorem dX6_takes_17 : decode cX6_takes 17 = .ok (.getfield 25, 3) := by decide +kernel
theorem dX6_takes_20 : decode cX6_takes 20 = .ok (.bipush 8, 2) := by decide +kernel
theorem dX6_takes_22 : decode cX6_takes 22 = .ok (.iload_n 1, 1) := by decide +kernel
theorem dX6_takes_23 : decode cX6_takes 23 = .ok (.imul, 1) := by decide +kernel
theorem dX6_takes_24 : decode cX6_takes 24 = .ok (.iload 4, 2) := by decide +kernel
theorem dX6_takes_26 : decode cX6_takes 26 = .ok (.iadd, 1) := by decide +kernel
theorem dX6_takes_27 : decode cX6_takes 27 = .ok (.iaload, 1) := by decide +kernel
theorem dX6_takes_28 : decode cX6_takes 28 = .ok (.iload_n 2, 1) := by decide +kernel
theorem dX6_takes_29 : decode cX6_takes 29 = .ok (.isub, 1) := by decide +kernel
theorem dX6_takes_30 : decode cX6_takes 30 = .ok (.istore 5, 2) := by decide +kernel
theorem dX6_takes_32 : decode cX6_takes 32 = .ok (.aload_n 0, 1) := by decide +kernel
theorem dX6_takes_33 : decode cX6_takes 33 = .ok (.getfield 22, 3) := by decide +kernel
theorem dX6_takes_36 : decode cX6_takes 36 = .ok (.bipush 8, 2) := by decide +kernel
theorem dX6_takes_38 : decode cX6_takes 38 = .ok (.iload_n 1, 1) := by decide +kernel
theorem dX6_takes_39 : decode cX6_takes 39 = .ok (.imul, 1) := by decide +kernel
theorem dX6_takes_40 : decode cX6_takes 40 = .ok (.iload_n 3, 1) := by decide +kernel
theorem dX6_takes_41 : decode cX6_takes 41 = .ok (.iadd, 1) := by decide +kernel
theorem dX6_takes_42 : decode cX6_takes 42 = .ok (.aload_n 0, 1) := by decide +kernel
theorem dX6_takes_43 : decode cX6_takes 43 = .ok (.getfield 22, 3) := by decide +kernel
theorem dX6_takes_46 : decode cX6_takes 46 = .ok (.bipush 8, 2) := by decide +kernel
theorem dX6_takes_48 : decode cX6_takes 48 = .ok (.iload_n 1, 1) := by decide +kernel
theorem dX6_takes_49 : decode cX6_takes 49 = .ok (.imul, 1) := by decide +kernel
theorem dX6_takes_50 : decode cX6_takes 50 = .ok (.iload 4, 2) := by decide +kernel
theorem dX6_takes_52 : decode cX6_takes 52 = .ok (.iadd, 1) := by decide +kernel
theorem dX6_takes_53 : decode cX6_takes 53 = .ok (.iaload, 1) := by decide +kernel
theorem dX6_takes_54 : decode cX6_takes 54 = .ok (.iastore, 1) := by decide +kernel
theorem dX6_takes_55 : decode cX6_takes 55 = .ok (.aload_n 0, 1) := by decide +kernel
theorem dX6_takes_56 : decode cX6_takes 56 = .ok (.getfield 25, 3) := by decide +kernel
theorem dX6_takes_59 : decode cX6_takes 59 = .ok (.bipush 8, 2) := by decide +kernel
theorem dX6_takes_61 : decode cX6_takes 61 = .ok (.iload_n 1, 1) := by decide +kernel
theorem dX6_takes_62 : decode cX6_takes 62 = .ok (.imul, 1) := by decide +kernel
theorem dX6_takes_63 : decode cX6_takes 63 = .ok (.iload_n 3, 1) := by decide +kernel
theorem dX6_takes_64 : decode cX6_takes 64 = .ok (.iadd, 1) := by decide +kernel
theorem dX6_takes_65 : decode cX6_takes 65 = .ok (.iload 5, 2) := by decide +kernel
theorem dX6_takes_67 : decode cX6_takes 67 = .ok (.iastore, 1) := by decide +kernel
theorem dX6_takes_68 : decode cX6_takes 68 = .ok (.iload_n 3, 1) := by decide +kernel
theorem dX6_takes_69 : decode cX6_takes 69 = .ok (.iload 5, 2) := by decide +kernel
theorem dX6_takes_71 : decode cX6_takes 71 = .ok (.ifCond .le 7, 3) := by decide +kernel
theorem dX6_takes_74 : decode cX6_takes 74 = .ok (.iconst 1, 1) := by decide +kernel
theorem dX6_takes_75 : decode cX6_takes 75 = .ok (.goto 4, 3) := by decide +kernel
theorem dX6_takes_78 : decode cX6_takes 78 = .ok (.iconst 0, 1) := by decide +kernel
theorem dX6_takes_79 : decode cX6_takes 79 = .ok (.iadd, 1) := by decide +kernel
theorem dX6_takes_80 : decode cX6_takes 80 = .ok (.istore_n 3, 1) := by decide +kernel
theorem dX6_takes_81 : decode cX6_takes 81 = .ok (.iinc 4 1, 3) := by decide +kernel
theorem dX6_takes_84 : decode cX6_takes 84 = .ok (.goto (-79), 3) := by decide +kernel
theorem dX6_takes_87 : decode cX6_takes 87 = .ok (.aload_n 0, 1) := by decide +kernel
theorem dX6_takes_88 : decode cX6_takes 88 = .ok (.getfield 19, 3) := by decide +kernel
theorem dX6_takes_91 : decode cX6_takes 91 = .ok (.iload_n 1, 1) := by decide +kernel
theorem dX6_takes_92 : decode cX6_takes 92 = .ok (.iload_n 3, 1) := by decide +kernel
theorem dX6_takes_93 : decode cX6_takes 93 = .ok (.iastore, 1) := by decide +kernel
theorem dX6_takes_94 : decode cX6_takes 94 = .ok (.aload_n 0, 1) := by decide +kernel
theorem dX6_takes_95 : decode cX6_takes 95 = .ok (.getfield 28, 3) := by decide +kernel
theorem dX6_takes_98 : decode cX6_takes 98 = .ok (.iload_n 1, 1) := by decide +kernel
theorem dX6_takes_99 : decode cX6_takes 99 = .ok (.dup2, 1) := by decide +kernel
theorem dX6_takes_100 : decode cX6_takes 100 = .ok (.iaload, 1) := by decide +kernel
theorem dX6_takes_101 : decode cX6_takes 101 = .ok (.iload_n 2, 1) := by decide +kernel
theorem dX6_takes_102 : decode cX6_takes 102 = .ok (.iadd, 1) := by decide +kernel
theorem dX6_takes_103 : decode cX6_takes 103 = .ok (.iastore, 1) := by decide +kernel
theorem dX6_takes_104 : decode cX6_takes 104 = .ok (.return_, 1) := by decide +kernel
theorem dX6_opens_0 : decode cX6_opens 0 = .ok (.aload_n 0, 1) := by decide +kernel
theorem dX6_opens_1 : decode cX6_opens 1 = .ok (.getfield 22, 3) := by decide +kernel
theorem dX6_opens_4 : decode cX6_opens 4 = .ok (.bipush 8, 2) := by decide +kernel
theorem dX6_opens_6 : decode cX6_opens 6 = .ok (.iload_n 1, 1) := by decide +kernel
theorem dX6_opens_7 : decode cX6_opens 7 = .ok (.imul, 1) := by decide +kernel
theorem dX6_opens_8 : decode cX6_opens 8 = .ok (.aload_n 0, 1) := by decide +kernel
theorem dX6_opens_9 : decode cX6_opens 9 = .ok (.getfield 19, 3) := by decide +kernel
theorem dX6_opens_12 : decode cX6_opens 12 = .ok (.iload_n 1, 1) := by decide +kernel
theorem dX6_opens_13 : decode cX6_opens 13 = .ok (.iaload, 1) := by decide +kernel
theorem dX6_opens_14 : decode cX6_opens 14 = .ok (.iadd, 1) := by decide +kernel
theorem dX6_opens_15 : decode cX6_opens 15 = .ok (.iload_n 2, 1) := by decide +kernel
theorem dX6_opens_16 : decode cX6_opens 16 = .ok (.iastore, 1) := by decide +kernel
theorem dX6_opens_17 : decode cX6_opens 17 = .ok (.aload_n 0, 1) := by decide +kernel
theorem dX6_opens_18 : decode cX6_opens 18 = .ok (.getfield 25, 3) := by decide +kernel
theorem dX6_opens_21 : decode cX6_opens 21 = .ok (.bipush 8, 2) := by decide +kernel
theorem dX6_opens_23 : decode cX6_opens 23 = .ok (.iload_n 1, 1) := by decide +kernel
theorem dX6_opens_24 : decode cX6_opens 24 = .ok (.imul, 1) := by decide +kernel
theorem dX6_opens_25 : decode cX6_opens 25 = .ok (.aload_n 0, 1) := by decide +kernel
theorem dX6_opens_26 : decode cX6_opens 26 = .ok (.getfield 19, 3) := by decide +kernel
theorem dX6_opens_29 : decode cX6_opens 29 = .ok (.iload_n 1, 1) := by decide +kernel
theorem dX6_opens_30 : decode cX6_opens 30 = .ok (.iaload, 1) := by decide +kernel
theorem dX6_opens_31 : decode cX6_opens 31 = .ok (.iadd, 1) := by decide +kernel
theorem dX6_opens_32 : decode cX6_opens 32 = .ok (.iload_n 3, 1) := by decide +kernel
theorem dX6_opens_33 : decode cX6_opens 33 = .ok (.iastore, 1) := by decide +kernel
theorem dX6_opens_34 : decode cX6_opens 34 = .ok (.aload_n 0, 1) := by decide +kernel
theorem dX6_opens_35 : decode cX6_opens 35 = .ok (.getfield 19, 3) := by decide +kernel
theorem dX6_opens_38 : decode cX6_opens 38 = .ok (.iload_n 1, 1) := by decide +kernel
theorem dX6_opens_39 : decode cX6_opens 39 = .ok (.dup2, 1) := by decide +kernel
theorem dX6_opens_40 : decode cX6_opens 40 = .ok (.iaload, 1) := by decide +kernel
theorem dX6_opens_41 : decode cX6_opens 41 = .ok (.iconst 1, 1) := by decide +kernel
theorem dX6_opens_42 : decode cX6_opens 42 = .ok (.iadd, 1) := by decide +kernel
theorem dX6_opens_43 : decode cX6_opens 43 = .ok (.iastore, 1) := by decide +kernel
theorem dX6_opens_44 : decode cX6_opens 44 = .ok (.return_, 1) := by decide +kernel
set_option maxRecDepth 20000 in
theorem ggX6_addsToCounters_X6_placeOfCounter : GoodIn wsX6_addsToCounters wsX6_placeOfCounter := goodIn_r _ [7, 2, 8, 18, 19, 20, 21, 22, 23, 24, 25, 26] (by decide +kernel) (by decide +kernel)
set_option maxRecDepth 20000 in
theorem gX6_addsToCounters_X6_placeOfCounter : GoodIn wsX6_addsToCounters (wsV RX6 65 RX6 yX6_placeOfCounter wsX6_placeOfCounter) := goodIn_app (goodIn_of _ (by decide +kernel)) ggX6_addsToCounters_X6_placeOfCounter
set_option maxRecDepth 20000 in
theorem ggX6_addsToCounters_X6_takes : GoodIn wsX6_addsToCounters wsX6_takes := goodIn_r _ [12, 2, 1, 8, 13, 18, 19, 20, 21, 22, 23, 24, 25, 26] (by decide +kernel) (by decide +kernel)
set_option maxRecDepth 20000 in
theorem gX6_addsToCounters_X6_takes : GoodIn wsX6_addsToCounters (wsV RX6 68 RX6 yX6_takes wsX6_takes) := goodIn_app (goodIn_of _ (by decide +kernel)) ggX6_addsToCounters_X6_takes
set_option maxRecDepth 20000 in
theorem ggX6_addsToCounters_X6_opens : GoodIn wsX6_addsToCounters wsX6_opens := goodIn_r _ [17, 8, 2, 1, 18, 19, 20, 21, 22, 23, 24, 25, 26] (by decide +kernel) (by decide +kernel)
set_option maxRecDepth 20000 in
theorem gX6_addsToCounters_X6_opens : GoodIn wsX6_addsToCounters (wsV RX6 72 RX6 yX6_opens wsX6_opens) := goodIn_app (goodIn_of _ (by decide +kernel)) ggX6_addsToCounters_X6_opens
theorem dX6_addsToCounters_0 : decode cX6_addsToCounters 0 = .ok (.aload_n 0, 1) := by decide +kernel
theorem dX6_addsToCounters_1 : decode cX6_addsToCounters 1 = .ok (.iload_n 1, 1) := by decide +kernel
theorem dX6_addsToCounters_2 : decode cX6_addsToCounters 2 = .ok (.iload_n 2, 1) := by decide +kernel
theorem dX6_addsToCounters_3 : decode cX6_addsToCounters 3 = .ok (.invokevirtual 65, 3) := by decide +kernel
theorem dX6_addsToCounters_6 : decode cX6_addsToCounters 6 = .ok (.istore 4, 2) := by decide +kernel
theorem dX6_addsToCounters_8 : decode cX6_addsToCounters 8 = .ok (.iload 4, 2) := by decide +kernel
theorem dX6_addsToCounters_10 : decode cX6_addsToCounters 10 = .ok (.iconst (-1), 1) := by decide +kernel
theorem dX6_addsToCounters_11 : decode cX6_addsToCounters 11 = .ok (.if_icmp .eq 20, 3) := by decide +kernel
theorem dX6_addsToCounters_14 : decode cX6_addsToCounters 14 = .ok (.aload_n 0, 1) := by decide +kernel
theorem dX6_addsToCounters_15 : decode cX6_addsToCounters 15 = .ok (.getfield 25, 3) := by decide +kernel
theorem dX6_addsToCounters_18 : decode cX6_addsToCounters 18 = .ok (.bipush 8, 2) := by decide +kernel
theorem dX6_addsToCounters_20 : decode cX6_addsToCounters 20 = .ok (.iload_n 1, 1) := by decide +kernel
theorem dX6_addsToCounters_21 : decode cX6_addsToCounters 21 = .ok (.imul, 1) := by decide +kernel
theorem dX6_addsToCounters_22 : decode cX6_addsToCounters 22 = .ok (.iload 4, 2) := by decide +kernel
theorem dX6_addsToCounters_24 : decode cX6_addsToCounters 24 = .ok (.iadd, 1) := by decide +kernel
theorem dX6_addsToCounters_25 : decode cX6_addsToCounters 25 = .ok (.dup2, 1) := by decide +kernel
theorem dX6_addsToCounters_26 : decode cX6_addsToCounters 26 = .ok (.iaload, 1) := by decide +kernel
theorem dX6_addsToCounters_27 : decode cX6_addsToCounters 27 = .ok (.iload_n 3, 1) := by decide +kernel
theorem dX6_addsToCounters_28 : decode cX6_addsToCounters 28 = .ok (.iadd, 1) := by decide +kernel
theorem dX6_addsToCounters_29 : decode cX6_addsToCounters 29 = .ok (.iastore, 1) := by decide +kernel
theorem dX6_addsToCounters_30 : decode cX6_addsToCounters 30 = .ok (.return_, 1) := by decide +kernel
theorem dX6_addsToCounters_31 : decode cX6_addsToCounters 31 = .ok (.iload_n 3, 1) := by decide +kernel
theorem dX6_addsToCounters_32 : decode cX6_addsToCounters 32 = .ok (.istore 5, 2) := by decide +kernel
theorem dX6_addsToCounters_34 : decode cX6_addsToCounters 34 = .ok (.aload_n 0, 1) := by decide +kernel
theorem dX6_addsToCounters_35 : decode cX6_addsToCounters 35 = .ok (.getfield 19, 3) := by decide +kernel
theorem dX6_addsToCounters_38 : decode cX6_addsToCounters 38 = .ok (.iload_n 1, 1) := by decide +kernel
theorem dX6_addsToCounters_39 : decode cX6_addsToCounters 39 = .ok (.iaload, 1) := by decide +kernel
theorem dX6_addsToCounters_40 : decode cX6_addsToCounters 40 = .ok (.iconst 4, 1) := by decide +kernel
theorem dX6_addsToCounters_41 : decode cX6_addsToCounters 41 = .ok (.if_icmp .ne 71, 3) := by decide +kernel
theorem dX6_addsToCounters_44 : decode cX6_addsToCounters 44 = .ok (.iload_n 3, 1) := by decide +kernel
theorem dX6_addsToCounters_45 : decode cX6_addsToCounters 45 = .ok (.istore 6, 2) := by decide +kernel
theorem dX6_addsToCounters_47 : decode cX6_addsToCounters 47 = .ok (.iconst 0, 1) := by decide +kernel
theorem dX6_addsToCounters_48 : decode cX6_addsToCounters 48 = .ok (.istore 7, 2) := by decide +kernel
theorem dX6_addsToCounters_50 : decode cX6_addsToCounters 50 = .ok (.iload 7, 2) := by decide +kernel
theorem dX6_addsToCounters_52 : decode cX6_addsToCounters 52 = .ok (.iconst 4, 1) := by decide +kernel
theorem dX6_addsToCounters_53 : decode cX6_addsToCounters 53 = .ok (.if_icmp .ge 45, 3) := by decide +kernel
theorem dX6_addsToCounters_56 : decode cX6_addsToCounters 56 = .ok (.aload_n 0, 1) := by decide +kernel
theorem dX6_addsToCounters_57 : decode cX6_addsToCounters 57 = .ok (.getfield 25, 3) := by decide +kernel
theorem dX6_addsToCounters_60 : decode cX6_addsToCounters 60 = .ok (.bipush 8, 2) := by decide +kernel
theorem dX6_addsToCounters_62 : decode cX6_addsToCounters 62 = .ok (.iload_n 1, 1) := by decide +kernel
theorem dX6_addsToCounters_63 : decode cX6_addsToCounters 63 = .ok (.imul, 1) := by decide +kernel
theorem dX6_addsToCounters_64 : decode cX6_addsToCounters 64 = .ok (.iload 7, 2) := by decide +kernel
theorem dX6_addsToCounters_66 : decode cX6_addsToCounters 66 = .ok (.iadd, 1) := by decide +kernel
theorem dX6_addsToCounters_67 : decode cX6_addsToCounters 67 = .ok (.iaload, 1) := by decide +kernel
theorem dX6_addsToCounters_68 : decode cX6_addsToCounters 68 = .ok (.iload 6, 2) := by decide +kernel
theorem dX6_addsToCounters_70 : decode cX6_addsToCounters 70 = .ok (.if_icmp .ge 18, 3) := by decide +kernel
theorem dX6_addsToCounters_73 : decode cX6_addsToCounters 73 = .ok (.aload_n 0, 1) := by decide +kernel
theorem dX6_addsToCounters_74 : decode cX6_addsToCounters 74 = .ok (.getfield 25, 3) := by decide +kernel
theorem dX6_addsToCounters_77 : decode cX6_addsToCounters 77 = .ok (.bipush 8, 2) := by decide +kernel
theorem dX6_addsToCounters_79 : decode cX6_addsToCounters 79 = .ok (.iload_n 1, 1) := by decide +kernel
theorem dX6_addsToCounters_80 : decode cX6_addsToCounters 80 = .ok (.imul, 1) := by decide +kernel
theorem dX6_addsToCounters_81 : decode cX6_addsToCounters 81 = .ok (.iload 7, 2) := by decide +kernel
theorem dX6_addsToCounters_83 : decode cX6_addsToCounters 83 = .ok (.iadd, 1) := by decide +kernel
theorem dX6_addsToCounters_84 : decode cX6_addsToCounters 84 = .ok (.iaload, 1) := by decide +kernel
theorem dX6_addsToCounters_85 : decode cX6_addsToCounters 85 = .ok (.goto 5, 3) := by decide +kernel
theorem dX6_addsToCounters_88 : decode cX6_addsToCounters 88 = .ok (.iload 6, 2) := by decide +kernel
theorem dX6_addsToCounters_90 : decode cX6_addsToCounters 90 = .ok (.istore 6, 2) := by decide +kernel
theorem dX6_addsToCounters_92 : decode cX6_addsToCounters 92 = .ok (.iinc 7 1, 3) := by decide +kernel
theorem dX6_addsToCounters_95 : decode cX6_addsToCounters 95 = .ok (.goto (-45), 3) := by decide +kernel
theorem dX6_addsToCounters_98 : decode cX6_addsToCounters 98 = .ok (.aload_n 0, 1) := by decide +kernel
theorem dX6_addsToCounters_99 : decode cX6_addsToCounters 99 = .ok (.iload_n 1, 1) := by decide +kernel
theorem dX6_addsToCounters_100 : decode cX6_addsToCounters 100 = .ok (.iload 6, 2) := by decide +kernel
theorem dX6_addsToCounters_102 : decode cX6_addsToCounters 102 = .ok (.invokevirtual 68, 3) := by decide +kernel
theorem dX6_addsToCounters_105 : decode cX6_addsToCounters 105 = .ok (.iload 5, 2) := by decide +kernel
theorem dX6_addsToCounters_107 : decode cX6_addsToCounters 107 = .ok (.iload 6, 2) := by decide +kernel
theorem dX6_addsToCounters_109 : decode cX6_addsToCounters 109 = .ok (.isub, 1) := by decide +kernel
theorem dX6_addsToCounters_110 : decode cX6_addsToCounters 110 = .ok (.istore 5, 2) := by decide +kernel
theorem dX6_addsToCounters_112 : decode cX6_addsToCounters 112 = .ok (.iload 5, 2) := by decide +kernel
theorem dX6_addsToCounters_114 : decode cX6_addsToCounters 114 = .ok (.ifCond .le 11, 3) := by decide +kernel
theorem dX6_addsToCounters_117 : decode cX6_addsToCounters 117 = .ok (.aload_n 0, 1) := by decide +kernel
theorem dX6_addsToCounters_118 : decode cX6_addsToCounters 118 = .ok (.iload_n 1, 1) := by decide +kernel
theorem dX6_addsToCounters_119 : decode cX6_addsToCounters 119 = .ok (.iload_n 2, 1) := by decide +kernel
theorem dX6_addsToCounters_120 : decode cX6_addsToCounters 120 = .ok (.iload 5, 2) := by decide +kernel
theorem dX6_addsToCounters_122 : decode cX6_addsToCounters 122 = .ok (.invokevirtual 72, 3) := by decide +kernel
theorem dX6_addsToCounters_125 : decode cX6_addsToCounters 125 = .ok (.return_, 1) := by decide +kernel
theorem dX6_fifth_0 : decode cX6_fifth 0 = .ok (.iconst 0, 1) := by decide +kernel
theorem dX6_fifth_1 : decode cX6_fifth 1 = .ok (.istore_n 2, 1) := by decide +kernel
theorem dX6_fifth_2 : decode cX6_fifth 2 = .ok (.iconst 0, 1) := by decide +kernel
theorem dX6_fifth_3 : decode cX6_fifth 3 = .ok (.istore_n 3, 1) := by decide +kernel
theorem dX6_fifth_4 : decode cX6_fifth 4 = .ok (.iload_n 3, 1) := by decide +kernel
theorem dX6_fifth_5 : decode cX6_fifth 5 = .ok (.aload_n 0, 1) := by decide +kernel
theorem dX6_fifth_6 : decode cX6_fifth 6 = .ok (.getfield 19, 3) := by decide +kernel
theorem dX6_fifth_9 : decode cX6_fifth 9 = .ok (.iload_n 1, 1) := by decide +kernel
theorem dX6_fifth_10 : decode cX6_fifth 10 = .ok (.iaload, 1) := by decide +kernel
theorem dX6_fifth_11 : decode cX6_fifth 11 = .ok (.if_icmp .ge 124, 3) := by decide +kernel
theorem dX6_fifth_14 : decode cX6_fifth 14 = .ok (.aload_n 0, 1) := by decide +kernel
theorem dX6_fifth_15 : decode cX6_fifth 15 = .ok (.getfield 25, 3) := by decide +kernel
theorem dX6_fifth_18 : decode cX6_fifth 18 = .ok (.bipush 8, 2) := by decide +kernel
theorem dX6_fifth_20 : decode cX6_fifth 20 = .ok (.iload_n 1, 1) := by decide +kernel
theorem dX6_fifth_21 : decode cX6_fifth 21 = .ok (.imul, 1) := by decide +kernel
theorem dX6_fifth_22 : decode cX6_fifth 22 = .ok (.iload_n 3, 1) := by decide +kernel
theorem dX6_fifth_23 : decode cX6_fifth 23 = .ok (.iadd, 1) := by decide +kernel
theorem dX6_fifth_24 : decode cX6_fifth 24 = .ok (.iaload, 1) := by decide +kernel
theorem dX6_fifth_25 : decode cX6_fifth 25 = .ok (.istore 4, 2) := by decide +kernel
theorem dX6_fifth_27 : decode cX6_fifth 27 = .ok (.iconst 0, 1) := by decide +kernel
theorem dX6_fifth_28 : decode cX6_fifth 28 = .ok (.istore 5, 2) := by decide +kernel
theorem dX6_fifth_30 : decode cX6_fifth 30 = .ok (.iconst 0, 1) := by decide +kernel
theorem dX6_fifth_31 : decode cX6_fifth 31 = .ok (.istore 6, 2) := by decide +kernel
theorem dX6_fifth_33 : decode cX6_fifth 33 = .ok (.iconst 0, 1) := by decide +kernel
theorem dX6_fifth_34 : decode cX6_fifth 34 = .ok (.istore 7, 2) := by decide +kernel
theorem dX6_fifth_36 : decode cX6_fifth 36 = .ok (.iload 7, 2) := by decide +kernel
theorem dX6_fifth_38 : decode cX6_fifth 38 = .ok (.aload_n 0, 1) := by decide +kernel
theorem dX6_fifth_39 : decode cX6_fifth 39 = .ok (.getfield 19, 3) := by decide +kernel
theorem dX6_fifth_42 : decode cX6_fifth 42 = .ok (.iload_n 1, 1) := by decide +kernel
theorem dX6_fifth_43 : decode cX6_fifth 43 = .ok (.iaload, 1) := by decide +kernel
theorem dX6_fifth_44 : decode cX6_fifth 44 = .ok (.if_icmp .ge 63, 3) := by decide +kernel
theorem dX6_fifth_47 : decode cX6_fifth 47 = .ok (.iload 5, 2) := by decide +kernel
theorem dX6_fifth_49 : decode cX6_fifth 49 = .ok (.aload_n 0, 1) := by decide +kernel
theorem dX6_fifth_50 : decode cX6_fifth 50 = .ok (.getfield 25, 3) := by decide +kernel
theorem dX6_fifth_53 : decode cX6_fifth 53 = .ok (.bipush 8, 2) := by decide +kernel
theorem dX6_fifth_55 : decode cX6_fifth 55 = .ok (.iload_n 1, 1) := by decide +kernel
theorem dX6_fifth_56 : decode cX6_fifth 56 = .ok (.imul, 1) := by decide +kernel
theorem dX6_fifth_57 : decode cX6_fifth 57 = .ok (.iload 7, 2) := by decide +kernel
theorem dX6_fifth_59 : decode cX6_fifth 59 = .ok (.iadd, 1) := by decide +kernel
theorem dX6_fifth_60 : decode cX6_fifth 60 = .ok (.iaload, 1) := by decide +kernel
theorem dX6_fifth_61 : decode cX6_fifth 61 = .ok (.iload 4, 2) := by decide +kernel
theorem dX6_fifth_63 : decode cX6_fifth 63 = .ok (.if_icmp .le 7, 3) := by decide +kernel
theorem dX6_fifth_66 : decode cX6_fifth 66 = .ok (.iconst 1, 1) := by decide +kernel
theorem dX6_fifth_67 : decode cX6_fifth 67 = .ok (.goto 4, 3) := by decide +kernel
theorem dX6_fifth_70 : decode cX6_fifth 70 = .ok (.iconst 0, 1) := by decide +kernel
theorem dX6_fifth_71 : decode cX6_fifth 71 = .ok (.iadd, 1) := by decide +kernel
theorem dX6_fifth_72 : decode cX6_fifth 72 = .ok (.istore 5, 2) := by decide +kernel
theorem dX6_fifth_74 : decode cX6_fifth 74 = .ok (.iload 6, 2) := by decide +kernel
theorem dX6_fifth_76 : decode cX6_fifth 76 = .ok (.aload_n 0, 1) := by decide +kernel
theorem dX6_fifth_77 : decode cX6_fifth 77 = .ok (.getfield 25, 3) := by decide +kernel
theorem dX6_fifth_80 : decode cX6_fifth 80 = .ok (.bipush 8, 2) := by decide +kernel
theorem dX6_fifth_82 : decode cX6_fifth 82 = .ok (.iload_n 1, 1) := by decide +kernel
theorem dX6_fifth_83 : decode cX6_fifth 83 = .ok (.imul, 1) := by decide +kernel
theorem dX6_fifth_84 : decode cX6_fifth 84 = .ok (.iload 7, 2) := by decide +kernel
theorem dX6_fifth_86 : decode cX6_fifth 86 = .ok (.iadd, 1) := by decide +kernel
theorem dX6_fifth_87 : decode cX6_fifth 87 = .ok (.iaload, 1) := by decide +kernel
theorem dX6_fifth_88 : decode cX6_fifth 88 = .ok (.iload 4, 2) := by decide +kernel
theorem dX6_fifth_90 : decode cX6_fifth 90 = .ok (.if_icmp .ne 7, 3) := by decide +kernel
theorem dX6_fifth_93 : decode cX6_fifth 93 = .ok (.iconst 1, 1) := by decide +kernel
theorem dX6_fifth_94 : decode cX6_fifth 94 = .ok (.goto 4, 3) := by decide +kernel
theorem dX6_fifth_97 : decode cX6_fifth 97 = .ok (.iconst 0, 1) := by decide +kernel
theorem dX6_fifth_98 : decode cX6_fifth 98 = .ok (.iadd, 1) := by decide +kernel
theorem dX6_fifth_99 : decode cX6_fifth 99 = .ok (.istore 6, 2) := by decide +kernel
theorem dX6_fifth_101 : decode cX6_fifth 101 = .ok (.iinc 7 1, 3) := by decide +kernel
theorem dX6_fifth_104 : decode cX6_fifth 104 = .ok (.goto (-68), 3) := by decide +kernel
theorem dX6_fifth_107 : decode cX6_fifth 107 = .ok (.iload 5, 2) := by decide +kernel
theorem dX6_fifth_109 : decode cX6_fifth 109 = .ok (.iconst 4, 1) := by decide +kernel
theorem dX6_fifth_110 : decode cX6_fifth 110 = .ok (.if_icmp .gt 17, 3) := by decide +kernel
theorem dX6_fifth_113 : decode cX6_fifth 113 = .ok (.iload 5, 2) := by decide +kernel
theorem dX6_fifth_115 : decode cX6_fifth 115 = .ok (.iload 6, 2) := by decide +kernel
theorem dX6_fifth_117 : decode cX6_fifth 117 = .ok (.iadd, 1) := by decide +kernel
theorem dX6_fifth_118 : decode cX6_fifth 118 = .ok (.iconst 4, 1) := by decide +kernel
theorem dX6_fifth_119 : decode cX6_fifth 119 = .ok (.if_icmp .le 8, 3) := by decide +kernel
theorem dX6_fifth_122 : decode cX6_fifth 122 = .ok (.iload 4, 2) := by decide +kernel
theorem dX6_fifth_124 : decode cX6_fifth 124 = .ok (.goto 4, 3) := by decide +kernel
theorem dX6_fifth_127 : decode cX6_fifth 127 = .ok (.iload_n 2, 1) := by decide +kernel
theorem dX6_fifth_128 : decode cX6_fifth 128 = .ok (.istore_n 2, 1) := by decide +kernel
theorem dX6_fifth_129 : decode cX6_fifth 129 = .ok (.iinc 3 1, 3) := by decide +kernel
theorem dX6_fifth_132 : decode cX6_fifth 132 = .ok (.goto (-128), 3) := by decide +kernel
theorem dX6_fifth_135 : decode cX6_fifth 135 = .ok (.iload_n 2, 1) := by decide +kernel
theorem dX6_fifth_136 : decode cX6_fifth 136 = .ok (.ireturn, 1) := by decide +kernel
set_option maxRecDepth 20000 in
theorem ggX6_mergesCounters_X6_placeOfCounter : GoodIn wsX6_mergesCounters wsX6_placeOfCounter := goodIn_r _ [9, 1, 2, 22, 23, 24, 25, 26, 27, 28, 29, 30] (by decide +kernel) (by decide +kernel)
set_option maxRecDepth 20000 in
theorem gX6_mergesCounters_X6_placeOfCounter : GoodIn wsX6_mergesCounters (wsV RX6 65 RX6 yX6_placeOfCounter wsX6_placeOfCounter) := goodIn_app (goodIn_of _ (by decide +kernel)) ggX6_mergesCounters_X6_placeOfCounter
set_option maxRecDepth 20000 in
theorem ggX6_mergesCounters_X6_opens : GoodIn wsX6_mergesCounters wsX6_opens := goodIn_r _ [13, 2, 1, 3, 22, 23, 24, 25, 26, 27, 28, 29, 30] (by decide +kernel) (by decide +kernel)
set_option maxRecDepth 20000 in
theorem gX6_mergesCounters_X6_opens : GoodIn wsX6_mergesCounters (wsV RX6 72 RX6 yX6_opens wsX6_opens) := goodIn_app (goodIn_of _ (by decide +kernel)) ggX6_mergesCounters_X6_opens
set_option maxRecDepth 20000 in
theorem ggX6_mergesCounters_X6_fifth : GoodIn wsX6_mergesCounters wsX6_fifth := goodIn_r _ [17, 1, 3, 22, 23, 24, 25, 26, 27, 28, 29, 30] (by decide +kernel) (by decide +kernel)
set_option maxRecDepth 20000 in
theorem gX6_mergesCounters_X6_fifth : GoodIn wsX6_mergesCounters (wsV RX6 76 RX6 yX6_fifth wsX6_fifth) := goodIn_app (goodIn_of _ (by decide +kernel)) ggX6_mergesCounters_X6_fifth
set_option maxRecDepth 20000 in
theorem ggX6_mergesCounters_X6_takes : GoodIn wsX6_mergesCounters wsX6_takes := goodIn_r _ [21, 1, 3, 2, 4, 22, 23, 24, 25, 26, 27, 28, 29, 30] (by decide +kernel) (by decide +kernel)
set_option maxRecDepth 20000 in
theorem gX6_mergesCounters_X6_takes : GoodIn wsX6_mergesCounters (wsV RX6 68 RX6 yX6_takes wsX6_takes) := goodIn_app (goodIn_of _ (by decide +kernel)) ggX6_mergesCounters_X6_takes
theorem dX6_mergesCounters_0 : decode cX6_mergesCounters 0 = .ok (.iconst 0, 1) := by decide +kernel
theorem dX6_mergesCounters_1 : decode cX6_mergesCounters 1 = .ok (.istore_n 3, 1) := by decide +kernel
theorem dX6_mergesCounters_2 : decode cX6_mergesCounters 2 = .ok (.iload_n 3, 1) := by decide +kernel
theorem dX6_mergesCounters_3 : decode cX6_mergesCounters 3 = .ok (.aload_n 0, 1) := by decide +kernel
theorem dX6_mergesCounters_4 : decode cX6_mergesCounters 4 = .ok (.getfield 19, 3) := by decide +kernel
theorem dX6_mergesCounters_7 : decode cX6_mergesCounters 7 = .ok (.iload_n 2, 1) := by decide +kernel
theorem dX6_mergesCounters_8 : decode cX6_mergesCounters 8 = .ok (.iaload, 1) := by decide +kernel
theorem dX6_mergesCounters_9 : decode cX6_mergesCounters 9 = .ok (.if_icmp .ge 84, 3) := by decide +kernel
theorem dX6_mergesCounters_12 : decode cX6_mergesCounters 12 = .ok (.aload_n 0, 1) := by decide +kernel
theorem dX6_mergesCounters_13 : decode cX6_mergesCounters 13 = .ok (.getfield 22, 3) := by decide +kernel
theorem dX6_mergesCounters_16 : decode cX6_mergesCounters 16 = .ok (.bipush 8, 2) := by decide +kernel
theorem dX6_mergesCounters_18 : decode cX6_mergesCounters 18 = .ok (.iload_n 2, 1) := by decide +kernel
theorem dX6_mergesCounters_19 : decode cX6_mergesCounters 19 = .ok (.imul, 1) := by decide +kernel
theorem dX6_mergesCounters_20 : decode cX6_mergesCounters 20 = .ok (.iload_n 3, 1) := by decide +kernel
theorem dX6_mergesCounters_21 : decode cX6_mergesCounters 21 = .ok (.iadd, 1) := by decide +kernel
theorem dX6_mergesCounters_22 : decode cX6_mergesCounters 22 = .ok (.iaload, 1) := by decide +kernel
theorem dX6_mergesCounters_23 : decode cX6_mergesCounters 23 = .ok (.istore 4, 2) := by decide +kernel
theorem dX6_mergesCounters_25 : decode cX6_mergesCounters 25 = .ok (.aload_n 0, 1) := by decide +kernel
theorem dX6_mergesCounters_26 : decode cX6_mergesCounters 26 = .ok (.iload_n 1, 1) := by decide +kernel
theorem dX6_mergesCounters_27 : decode cX6_mergesCounters 27 = .ok (.iload 4, 2) := by decide +kernel
theorem dX6_mergesCounters_29 : decode cX6_mergesCounters 29 = .ok (.invokevirtual 65, 3) := by decide +kernel
theorem dX6_mergesCounters_32 : decode cX6_mergesCounters 32 = .ok (.istore 5, 2) := by decide +kernel
theorem dX6_mergesCounters_34 : decode cX6_mergesCounters 34 = .ok (.iload 5, 2) := by decide +kernel
theorem dX6_mergesCounters_36 : decode cX6_mergesCounters 36 = .ok (.iconst (-1), 1) := by decide +kernel
theorem dX6_mergesCounters_37 : decode cX6_mergesCounters 37 = .ok (.if_icmp .ne 24, 3) := by decide +kernel
theorem dX6_mergesCounters_40 : decode cX6_mergesCounters 40 = .ok (.aload_n 0, 1) := by decide +kernel
theorem dX6_mergesCounters_41 : decode cX6_mergesCounters 41 = .ok (.iload_n 1, 1) := by decide +kernel
theorem dX6_mergesCounters_42 : decode cX6_mergesCounters 42 = .ok (.iload 4, 2) := by decide +kernel
theorem dX6_mergesCounters_44 : decode cX6_mergesCounters 44 = .ok (.aload_n 0, 1) := by decide +kernel
theorem dX6_mergesCounters_45 : decode cX6_mergesCounters 45 = .ok (.getfield 25, 3) := by decide +kernel
theorem dX6_mergesCounters_48 : decode cX6_mergesCounters 48 = .ok (.bipush 8, 2) := by decide +kernel
theorem dX6_mergesCounters_50 : decode cX6_mergesCounters 50 = .ok (.iload_n 2, 1) := by decide +kernel
theorem dX6_mergesCounters_51 : decode cX6_mergesCounters 51 = .ok (.imul, 1) := by decide +kernel
theorem dX6_mergesCounters_52 : decode cX6_mergesCounters 52 = .ok (.iload_n 3, 1) := by decide +kernel
theorem dX6_mergesCounters_53 : decode cX6_mergesCounters 53 = .ok (.iadd, 1) := by decide +kernel
theorem dX6_mergesCounters_54 : decode cX6_mergesCounters 54 = .ok (.iaload, 1) := by decide +kernel
theorem dX6_mergesCounters_55 : decode cX6_mergesCounters 55 = .ok (.invokevirtual 72, 3) := by decide +kernel
theorem dX6_mergesCounters_58 : decode cX6_mergesCounters 58 = .ok (.goto 29, 3) := by decide +kernel
theorem dX6_mergesCounters_61 : decode cX6_mergesCounters 61 = .ok (.aload_n 0, 1) := by decide +kernel
theorem dX6_mergesCounters_62 : decode cX6_mergesCounters 62 = .ok (.getfield 25, 3) := by decide +kernel
theorem dX6_mergesCounters_65 : decode cX6_mergesCounters 65 = .ok (.bipush 8, 2) := by decide +kernel
theorem dX6_mergesCounters_67 : decode cX6_mergesCounters 67 = .ok (.iload_n 1, 1) := by decide +kernel
theorem dX6_mergesCounters_68 : decode cX6_mergesCounters 68 = .ok (.imul, 1) := by decide +kernel
theorem dX6_mergesCounters_69 : decode cX6_mergesCounters 69 = .ok (.iload 5, 2) := by decide +kernel
theorem dX6_mergesCounters_71 : decode cX6_mergesCounters 71 = .ok (.iadd, 1) := by decide +kernel
theorem dX6_mergesCounters_72 : decode cX6_mergesCounters 72 = .ok (.dup2, 1) := by decide +kernel
theorem dX6_mergesCounters_73 : decode cX6_mergesCounters 73 = .ok (.iaload, 1) := by decide +kernel
theorem dX6_mergesCounters_74 : decode cX6_mergesCounters 74 = .ok (.aload_n 0, 1) := by decide +kernel
theorem dX6_mergesCounters_75 : decode cX6_mergesCounters 75 = .ok (.getfield 25, 3) := by decide +kernel
theorem dX6_mergesCounters_78 : decode cX6_mergesCounters 78 = .ok (.bipush 8, 2) := by decide +kernel
theorem dX6_mergesCounters_80 : decode cX6_mergesCounters 80 = .ok (.iload_n 2, 1) := by decide +kernel
theorem dX6_mergesCounters_81 : decode cX6_mergesCounters 81 = .ok (.imul, 1) := by decide +kernel
theorem dX6_mergesCounters_82 : decode cX6_mergesCounters 82 = .ok (.iload_n 3, 1) := by decide +kernel
theorem dX6_mergesCounters_83 : decode cX6_mergesCounters 83 = .ok (.iadd, 1) := by decide +kernel
theorem dX6_mergesCounters_84 : decode cX6_mergesCounters 84 = .ok (.iaload, 1) := by decide +kernel
theorem dX6_mergesCounters_85 : decode cX6_mergesCounters 85 = .ok (.iadd, 1) := by decide +kernel
theorem dX6_mergesCounters_86 : decode cX6_mergesCounters 86 = .ok (.iastore, 1) := by decide +kernel
theorem dX6_mergesCounters_87 : decode cX6_mergesCounters 87 = .ok (.iinc 3 1, 3) := by decide +kernel
theorem dX6_mergesCounters_90 : decode cX6_mergesCounters 90 = .ok (.goto (-88), 3) := by decide +kernel
theorem dX6_mergesCounters_93 : decode cX6_mergesCounters 93 = .ok (.aload_n 0, 1) := by decide +kernel
theorem dX6_mergesCounters_94 : decode cX6_mergesCounters 94 = .ok (.getfield 28, 3) := by decide +kernel
theorem dX6_mergesCounters_97 : decode cX6_mergesCounters 97 = .ok (.iload_n 1, 1) := by decide +kernel
theorem dX6_mergesCounters_98 : decode cX6_mergesCounters 98 = .ok (.dup2, 1) := by decide +kernel
theorem dX6_mergesCounters_99 : decode cX6_mergesCounters 99 = .ok (.iaload, 1) := by decide +kernel
theorem dX6_mergesCounters_100 : decode cX6_mergesCounters 100 = .ok (.aload_n 0, 1) := by decide +kernel
theorem dX6_mergesCounters_101 : decode cX6_mergesCounters 101 = .ok (.getfield 28, 3) := by decide +kernel
theorem dX6_mergesCounters_104 : decode cX6_mergesCounters 104 = .ok (.iload_n 2, 1) := by decide +kernel
theorem dX6_mergesCounters_105 : decode cX6_mergesCounters 105 = .ok (.iaload, 1) := by decide +kernel
theorem dX6_mergesCounters_106 : decode cX6_mergesCounters 106 = .ok (.iadd, 1) := by decide +kernel
theorem dX6_mergesCounters_107 : decode cX6_mergesCounters 107 = .ok (.iastore, 1) := by decide +kernel
theorem dX6_mergesCounters_108 : decode cX6_mergesCounters 108 = .ok (.aload_n 0, 1) := by decide +kernel
theorem dX6_mergesCounters_109 : decode cX6_mergesCounters 109 = .ok (.getfield 19, 3) := by decide +kernel
theorem dX6_mergesCounters_112 : decode cX6_mergesCounters 112 = .ok (.iload_n 1, 1) := by decide +kernel
theorem dX6_mergesCounters_113 : decode cX6_mergesCounters 113 = .ok (.iaload, 1) := by decide +kernel
theorem dX6_mergesCounters_114 : decode cX6_mergesCounters 114 = .ok (.iconst 4, 1) := by decide +kernel
theorem dX6_mergesCounters_115 : decode cX6_mergesCounters 115 = .ok (.if_icmp .le 13, 3) := by decide +kernel
theorem dX6_mergesCounters_118 : decode cX6_mergesCounters 118 = .ok (.aload_n 0, 1) := by decide +kernel
theorem dX6_mergesCounters_119 : decode cX6_mergesCounters 119 = .ok (.iload_n 1, 1) := by decide +kernel
theorem dX6_mergesCounters_120 : decode cX6_mergesCounters 120 = .ok (.aload_n 0, 1) := by decide +kernel
theorem dX6_mergesCounters_121 : decode cX6_mergesCounters 121 = .ok (.iload_n 1, 1) := by decide +kernel
theorem dX6_mergesCounters_122 : decode cX6_mergesCounters 122 = .ok (.invokevirtual 76, 3) := by decide +kernel
theorem dX6_mergesCounters_125 : decode cX6_mergesCounters 125 = .ok (.invokevirtual 68, 3) := by decide +kernel
theorem dX6_mergesCounters_128 : decode cX6_mergesCounters 128 = .ok (.return_, 1) := by decide +kernel
set_option maxRecDepth 20000 in
theorem ggX6_add_X6_isStream : GoodIn wsX6_add wsX6_isStream := goodIn_r _ [7, 8, 9, 6, 10] (by decide +kernel) (by decide +kernel)
set_option maxRecDepth 20000 in
theorem gX6_add_X6_isStream : GoodIn wsX6_add (va_wsS RX6 79 yX6_isStream wsX6_isStream) := goodIn_app (goodIn_of _ (by decide +kernel)) ggX6_add_X6_isStream
set_option maxRecDepth 20000 in
theorem ggX6_add_X6_isIn : GoodIn wsX6_add wsX6_isIn := goodIn_r _ [10] (by decide +kernel) (by decide +kernel)
set_option maxRecDepth 20000 in
theorem gX6_add_X6_isIn : GoodIn wsX6_add (va_wsS RX6 39 yX6_isIn wsX6_isIn) := goodIn_app (goodIn_of _ (by decide +kernel)) ggX6_add_X6_isIn
set_option maxRecDepth 20000 in
theorem ggX6_add_X6_holds : GoodIn wsX6_add wsX6_holds := goodIn_r _ [14, 15, 61, 62, 63, 64, 65, 66, 67, 68, 69] (by decide +kernel) (by decide +kernel)
set_option maxRecDepth 20000 in
theorem gX6_add_X6_holds : GoodIn wsX6_add (wsV RX6 84 RX6 yX6_holds wsX6_holds) := goodIn_app (goodIn_of _ (by decide +kernel)) ggX6_add_X6_holds
set_option maxRecDepth 20000 in
theorem ggX6_add_X6_addsCarefully : GoodIn wsX6_add wsX6_addsCarefully := goodIn_r _ [19, 20, 21, 22, 23, 6, 24, 25, 26, 27, 28, 3, 29, 30, 31, 32, 33, 34, 35, 36, 37, 38, 39, 40, 61, 62, 63, 64, 65, 66, 67, 68, 69] (by decide +kernel) (by decide +kernel)
set_option maxRecDepth 20000 in
theorem gX6_add_X6_addsCarefully : GoodIn wsX6_add (wsV RX6 87 RX6 yX6_addsCarefully wsX6_addsCarefully) := goodIn_app (goodIn_of _ (by decide +kernel)) ggX6_add_X6_addsCarefully
set_option maxRecDepth 20000 in
theorem ggX6_add_X6_addsToCounters : GoodIn wsX6_add wsX6_addsToCounters := goodIn_r _ [44, 45, 46, 47, 48, 49, 6, 50, 51, 52, 53, 54, 55, 56, 57, 58, 59, 60, 61, 62, 63, 64, 65, 66, 67, 68, 69] (by decide +kernel) (by decide +kernel)
set_option maxRecDepth 20000 in
theorem gX6_add_X6_addsToCounters : GoodIn wsX6_add (wsV RX6 90 RX6 yX6_addsToCounters wsX6_addsToCounters) := goodIn_app (goodIn_of _ (by decide +kernel)) ggX6_add_X6_addsToCounters
theorem dX6_add_0 : decode cX6_add 0 = .ok (.iload_n 1, 1) := by decide +kernel
theorem dX6_add_1 : decode cX6_add 1 = .ok (.invokestatic 79, 3) := by decide +kernel
theorem dX6_add_4 : decode cX6_add 4 = .ok (.ifCond .eq 16, 3) := by decide +kernel
theorem dX6_add_7 : decode cX6_add 7 = .ok (.iload_n 2, 1) := by decide +kernel
theorem dX6_add_8 : decode cX6_add 8 = .ok (.bipush 64, 2) := by decide +kernel
theorem dX6_add_10 : decode cX6_add 10 = .ok (.invokestatic 39, 3) := by decide +kernel
theorem dX6_add_13 : decode cX6_add 13 = .ok (.ifCond .eq 7, 3) := by decide +kernel
theorem dX6_add_16 : decode cX6_add 16 = .ok (.iconst 1, 1) := by decide +kernel
theorem dX6_add_17 : decode cX6_add 17 = .ok (.goto 4, 3) := by decide +kernel
theorem dX6_add_20 : decode cX6_add 20 = .ok (.iconst 0, 1) := by decide +kernel
theorem dX6_add_21 : decode cX6_add 21 = .ok (.istore 4, 2) := by decide +kernel
theorem dX6_add_23 : decode cX6_add 23 = .ok (.aload_n 0, 1) := by decide +kernel
theorem dX6_add_24 : decode cX6_add 24 = .ok (.iload 4, 2) := by decide +kernel
theorem dX6_add_26 : decode cX6_add 26 = .ok (.ifCond .ne 7, 3) := by decide +kernel
theorem dX6_add_29 : decode cX6_add 29 = .ok (.iconst 1, 1) := by decide +kernel
theorem dX6_add_30 : decode cX6_add 30 = .ok (.goto 37, 3) := by decide +kernel
theorem dX6_add_33 : decode cX6_add 33 = .ok (.iload_n 3, 1) := by decide +kernel
theorem dX6_add_34 : decode cX6_add 34 = .ok (.iconst 1, 1) := by decide +kernel
theorem dX6_add_35 : decode cX6_add 35 = .ok (.if_icmp .lt 10, 3) := by decide +kernel
theorem dX6_add_38 : decode cX6_add 38 = .ok (.iload_n 3, 1) := by decide +kernel
theorem dX6_add_39 : decode cX6_add 39 = .ok (.sipush 1000, 3) := by decide +kernel
theorem dX6_add_42 : decode cX6_add 42 = .ok (.if_icmp .le 7, 3) := by decide +kernel
theorem dX6_add_45 : decode cX6_add 45 = .ok (.iconst 2, 1) := by decide +kernel
theorem dX6_add_46 : decode cX6_add 46 = .ok (.goto 21, 3) := by decide +kernel
theorem dX6_add_49 : decode cX6_add 49 = .ok (.aload_n 0, 1) := by decide +kernel
theorem dX6_add_50 : decode cX6_add 50 = .ok (.getfield 13, 3) := by decide +kernel
theorem dX6_add_53 : decode cX6_add 53 = .ok (.iload_n 1, 1) := by decide +kernel
theorem dX6_add_54 : decode cX6_add 54 = .ok (.iaload, 1) := by decide +kernel
theorem dX6_add_55 : decode cX6_add 55 = .ok (.iload_n 3, 1) := by decide +kernel
theorem dX6_add_56 : decode cX6_add 56 = .ok (.iadd, 1) := by decide +kernel
theorem dX6_add_57 : decode cX6_add 57 = .ok (.ldc 83, 2) := by decide +kernel
theorem dX6_add_59 : decode cX6_add 59 = .ok (.if_icmp .le 7, 3) := by decide +kernel
theorem dX6_add_62 : decode cX6_add 62 = .ok (.iconst 3, 1) := by decide +kernel
theorem dX6_add_63 : decode cX6_add 63 = .ok (.goto 4, 3) := by decide +kernel
theorem dX6_add_66 : decode cX6_add 66 = .ok (.iconst 0, 1) := by decide +kernel
theorem dX6_add_67 : decode cX6_add 67 = .ok (.invokevirtual 84, 3) := by decide +kernel
theorem dX6_add_70 : decode cX6_add 70 = .ok (.ifCond .ne 5, 3) := by decide +kernel
theorem dX6_add_73 : decode cX6_add 73 = .ok (.iconst 0, 1) := by decide +kernel
theorem dX6_add_74 : decode cX6_add 74 = .ok (.ireturn, 1) := by decide +kernel
theorem dX6_add_75 : decode cX6_add 75 = .ok (.aload_n 0, 1) := by decide +kernel
theorem dX6_add_76 : decode cX6_add 76 = .ok (.getfield 7, 3) := by decide +kernel
theorem dX6_add_79 : decode cX6_add 79 = .ok (.bipush 64, 2) := by decide +kernel
theorem dX6_add_81 : decode cX6_add 81 = .ok (.iload_n 1, 1) := by decide +kernel
theorem dX6_add_82 : decode cX6_add 82 = .ok (.imul, 1) := by decide +kernel
theorem dX6_add_83 : decode cX6_add 83 = .ok (.iload_n 2, 1) := by decide +kernel
theorem dX6_add_84 : decode cX6_add 84 = .ok (.iadd, 1) := by decide +kernel
theorem dX6_add_85 : decode cX6_add 85 = .ok (.dup2, 1) := by decide +kernel
theorem dX6_add_86 : decode cX6_add 86 = .ok (.iaload, 1) := by decide +kernel
theorem dX6_add_87 : decode cX6_add 87 = .ok (.iload_n 3, 1) := by decide +kernel
theorem dX6_add_88 : decode cX6_add 88 = .ok (.iadd, 1) := by decide +kernel
theorem dX6_add_89 : decode cX6_add 89 = .ok (.iastore, 1) := by decide +kernel
theorem dX6_add_90 : decode cX6_add 90 = .ok (.aload_n 0, 1) := by decide +kernel
theorem dX6_add_91 : decode cX6_add 91 = .ok (.getfield 13, 3) := by decide +kernel
theorem dX6_add_94 : decode cX6_add 94 = .ok (.iload_n 1, 1) := by decide +kernel
theorem dX6_add_95 : decode cX6_add 95 = .ok (.dup2, 1) := by decide +kernel
theorem dX6_add_96 : decode cX6_add 96 = .ok (.iaload, 1) := by decide +kernel
theorem dX6_add_97 : decode cX6_add 97 = .ok (.iload_n 3, 1) := by decide +kernel
theorem dX6_add_98 : decode cX6_add 98 = .ok (.iadd, 1) := by decide +kernel
theorem dX6_add_99 : decode cX6_add 99 = .ok (.iastore, 1) := by decide +kernel
theorem dX6_add_100 : decode cX6_add 100 = .ok (.aload_n 0, 1) := by decide +kernel
theorem dX6_add_101 : decode cX6_add 101 = .ok (.iload_n 1, 1) := by decide +kernel
theorem dX6_add_102 : decode cX6_add 102 = .ok (.iload_n 2, 1) := by decide +kernel
theorem dX6_add_103 : decode cX6_add 103 = .ok (.iload_n 3, 1) := by decide +kernel
theorem dX6_add_104 : decode cX6_add 104 = .ok (.invokevirtual 87, 3) := by decide +kernel
theorem dX6_add_107 : decode cX6_add 107 = .ok (.aload_n 0, 1) := by decide +kernel
theorem dX6_add_108 : decode cX6_add 108 = .ok (.iload_n 1, 1) := by decide +kernel
theorem dX6_add_109 : decode cX6_add 109 = .ok (.iload_n 2, 1) := by decide +kernel
theorem dX6_add_110 : decode cX6_add 110 = .ok (.iload_n 3, 1) := by decide +kernel
theorem dX6_add_111 : decode cX6_add 111 = .ok (.invokevirtual 90, 3) := by decide +kernel
theorem dX6_add_114 : decode cX6_add 114 = .ok (.aload_n 0, 1) := by decide +kernel
theorem dX6_add_115 : decode cX6_add 115 = .ok (.getfield 13, 3) := by decide +kernel
theorem dX6_add_118 : decode cX6_add 118 = .ok (.iload_n 1, 1) := by decide +kernel
theorem dX6_add_119 : decode cX6_add 119 = .ok (.iaload, 1) := by decide +kernel
theorem dX6_add_120 : decode cX6_add 120 = .ok (.ireturn, 1) := by decide +kernel
set_option maxRecDepth 20000 in
theorem ggX6_merge_X6_isStream : GoodIn wsX6_merge wsX6_isStream := goodIn_r _ [8, 9, 10, 7, 11] (by decide +kernel) (by decide +kernel)
set_option maxRecDepth 20000 in
theorem gX6_merge_X6_isStream : GoodIn wsX6_merge (va_wsS RX6 79 yX6_isStream wsX6_isStream) := goodIn_app (goodIn_of _ (by decide +kernel)) ggX6_merge_X6_isStream
set_option maxRecDepth 20000 in
theorem ggX6_merge_X6_holds : GoodIn wsX6_merge wsX6_holds := goodIn_r _ [15, 16, 41, 42, 43, 44, 45, 46, 47, 48, 49] (by decide +kernel) (by decide +kernel)
set_option maxRecDepth 20000 in
theorem gX6_merge_X6_holds : GoodIn wsX6_merge (wsV RX6 84 RX6 yX6_holds wsX6_holds) := goodIn_app (goodIn_of _ (by decide +kernel)) ggX6_merge_X6_holds
set_option maxRecDepth 20000 in
theorem ggX6_merge_X6_mergesCounters : GoodIn wsX6_merge wsX6_mergesCounters := goodIn_r _ [20, 21, 22, 23, 24, 25, 26, 27, 7, 28, 29, 30, 31, 32, 33, 34, 35, 36, 37, 38, 39, 40, 41, 42, 43, 44, 45, 46, 47, 48, 49] (by decide +kernel) (by decide +kernel)
set_option maxRecDepth 20000 in
theorem gX6_merge_X6_mergesCounters : GoodIn wsX6_merge (wsV RX6 93 RX6 yX6_mergesCounters wsX6_mergesCounters) := goodIn_app (goodIn_of _ (by decide +kernel)) ggX6_merge_X6_mergesCounters
theorem dX6_merge_0 : decode cX6_merge 0 = .ok (.iload_n 1, 1) := by decide +kernel
theorem dX6_merge_1 : decode cX6_merge 1 = .ok (.invokestatic 79, 3) := by decide +kernel
theorem dX6_merge_4 : decode cX6_merge 4 = .ok (.ifCond .eq 14, 3) := by decide +kernel
theorem dX6_merge_7 : decode cX6_merge 7 = .ok (.iload_n 2, 1) := by decide +kernel
theorem dX6_merge_8 : decode cX6_merge 8 = .ok (.invokestatic 79, 3) := by decide +kernel
theorem dX6_merge_11 : decode cX6_merge 11 = .ok (.ifCond .eq 7, 3) := by decide +kernel
theorem dX6_merge_14 : decode cX6_merge 14 = .ok (.iconst 1, 1) := by decide +kernel
theorem dX6_merge_15 : decode cX6_merge 15 = .ok (.goto 4, 3) := by decide +kernel
theorem dX6_merge_18 : decode cX6_merge 18 = .ok (.iconst 0, 1) := by decide +kernel
theorem dX6_merge_19 : decode cX6_merge 19 = .ok (.istore_n 3, 1) := by decide +kernel
theorem dX6_merge_20 : decode cX6_merge 20 = .ok (.aload_n 0, 1) := by decide +kernel
theorem dX6_merge_21 : decode cX6_merge 21 = .ok (.iload_n 3, 1) := by decide +kernel
theorem dX6_merge_22 : decode cX6_merge 22 = .ok (.ifCond .ne 7, 3) := by decide +kernel
theorem dX6_merge_25 : decode cX6_merge 25 = .ok (.iconst 1, 1) := by decide +kernel
theorem dX6_merge_26 : decode cX6_merge 26 = .ok (.goto 35, 3) := by decide +kernel
theorem dX6_merge_29 : decode cX6_merge 29 = .ok (.iload_n 1, 1) := by decide +kernel
theorem dX6_merge_30 : decode cX6_merge 30 = .ok (.iload_n 2, 1) := by decide +kernel
theorem dX6_merge_31 : decode cX6_merge 31 = .ok (.if_icmp .ne 7, 3) := by decide +kernel
theorem dX6_merge_34 : decode cX6_merge 34 = .ok (.iconst 2, 1) := by decide +kernel
theorem dX6_merge_35 : decode cX6_merge 35 = .ok (.goto 26, 3) := by decide +kernel
theorem dX6_merge_38 : decode cX6_merge 38 = .ok (.aload_n 0, 1) := by decide +kernel
theorem dX6_merge_39 : decode cX6_merge 39 = .ok (.getfield 13, 3) := by decide +kernel
theorem dX6_merge_42 : decode cX6_merge 42 = .ok (.iload_n 1, 1) := by decide +kernel
theorem dX6_merge_43 : decode cX6_merge 43 = .ok (.iaload, 1) := by decide +kernel
theorem dX6_merge_44 : decode cX6_merge 44 = .ok (.aload_n 0, 1) := by decide +kernel
theorem dX6_merge_45 : decode cX6_merge 45 = .ok (.getfield 13, 3) := by decide +kernel
theorem dX6_merge_48 : decode cX6_merge 48 = .ok (.iload_n 2, 1) := by decide +kernel
theorem dX6_merge_49 : decode cX6_merge 49 = .ok (.iaload, 1) := by decide +kernel
theorem dX6_merge_50 : decode cX6_merge 50 = .ok (.iadd, 1) := by decide +kernel
theorem dX6_merge_51 : decode cX6_merge 51 = .ok (.ldc 83, 2) := by decide +kernel
theorem dX6_merge_53 : decode cX6_merge 53 = .ok (.if_icmp .le 7, 3) := by decide +kernel
theorem dX6_merge_56 : decode cX6_merge 56 = .ok (.iconst 3, 1) := by decide +kernel
theorem dX6_merge_57 : decode cX6_merge 57 = .ok (.goto 4, 3) := by decide +kernel
theorem dX6_merge_60 : decode cX6_merge 60 = .ok (.iconst 0, 1) := by decide +kernel
theorem dX6_merge_61 : decode cX6_merge 61 = .ok (.invokevirtual 84, 3) := by decide +kernel
theorem dX6_merge_64 : decode cX6_merge 64 = .ok (.ifCond .ne 5, 3) := by decide +kernel
theorem dX6_merge_67 : decode cX6_merge 67 = .ok (.iconst 0, 1) := by decide +kernel
theorem dX6_merge_68 : decode cX6_merge 68 = .ok (.ireturn, 1) := by decide +kernel
theorem dX6_merge_69 : decode cX6_merge 69 = .ok (.iconst 0, 1) := by decide +kernel
theorem dX6_merge_70 : decode cX6_merge 70 = .ok (.istore 4, 2) := by decide +kernel
theorem dX6_merge_72 : decode cX6_merge 72 = .ok (.iload 4, 2) := by decide +kernel
theorem dX6_merge_74 : decode cX6_merge 74 = .ok (.bipush 64, 2) := by decide +kernel
theorem dX6_merge_76 : decode cX6_merge 76 = .ok (.if_icmp .ge 36, 3) := by decide +kernel
theorem dX6_merge_79 : decode cX6_merge 79 = .ok (.aload_n 0, 1) := by decide +kernel
theorem dX6_merge_80 : decode cX6_merge 80 = .ok (.getfield 7, 3) := by decide +kernel
theorem dX6_merge_83 : decode cX6_merge 83 = .ok (.bipush 64, 2) := by decide +kernel
theorem dX6_merge_85 : decode cX6_merge 85 = .ok (.iload_n 1, 1) := by decide +kernel
theorem dX6_merge_86 : decode cX6_merge 86 = .ok (.imul, 1) := by decide +kernel
theorem dX6_merge_87 : decode cX6_merge 87 = .ok (.iload 4, 2) := by decide +kernel
theorem dX6_merge_89 : decode cX6_merge 89 = .ok (.iadd, 1) := by decide +kernel
theorem dX6_merge_90 : decode cX6_merge 90 = .ok (.dup2, 1) := by decide +kernel
theorem dX6_merge_91 : decode cX6_merge 91 = .ok (.iaload, 1) := by decide +kernel
theorem dX6_merge_92 : decode cX6_merge 92 = .ok (.aload_n 0, 1) := by decide +kernel
theorem dX6_merge_93 : decode cX6_merge 93 = .ok (.getfield 7, 3) := by decide +kernel
theorem dX6_merge_96 : decode cX6_merge 96 = .ok (.bipush 64, 2) := by decide +kernel
theorem dX6_merge_98 : decode cX6_merge 98 = .ok (.iload_n 2, 1) := by decide +kernel
theorem dX6_merge_99 : decode cX6_merge 99 = .ok (.imul, 1) := by decide +kernel
theorem dX6_merge_100 : decode cX6_merge 100 = .ok (.iload 4, 2) := by decide +kernel
theorem dX6_merge_102 : decode cX6_merge 102 = .ok (.iadd, 1) := by decide +kernel
theorem dX6_merge_103 : decode cX6_merge 103 = .ok (.iaload, 1) := by decide +kernel
theorem dX6_merge_104 : decode cX6_merge 104 = .ok (.iadd, 1) := by decide +kernel
theorem dX6_merge_105 : decode cX6_merge 105 = .ok (.iastore, 1) := by decide +kernel
theorem dX6_merge_106 : decode cX6_merge 106 = .ok (.iinc 4 1, 3) := by decide +kernel
theorem dX6_merge_109 : decode cX6_merge 109 = .ok (.goto (-37), 3) := by decide +kernel
theorem dX6_merge_112 : decode cX6_merge 112 = .ok (.iconst 0, 1) := by decide +kernel
theorem dX6_merge_113 : decode cX6_merge 113 = .ok (.istore 4, 2) := by decide +kernel
theorem dX6_merge_115 : decode cX6_merge 115 = .ok (.iload 4, 2) := by decide +kernel
theorem dX6_merge_117 : decode cX6_merge 117 = .ok (.bipush 72, 2) := by decide +kernel
theorem dX6_merge_119 : decode cX6_merge 119 = .ok (.if_icmp .ge 36, 3) := by decide +kernel
theorem dX6_merge_122 : decode cX6_merge 122 = .ok (.aload_n 0, 1) := by decide +kernel
theorem dX6_merge_123 : decode cX6_merge 123 = .ok (.getfield 16, 3) := by decide +kernel
theorem dX6_merge_126 : decode cX6_merge 126 = .ok (.bipush 72, 2) := by decide +kernel
theorem dX6_merge_128 : decode cX6_merge 128 = .ok (.iload_n 1, 1) := by decide +kernel
theorem dX6_merge_129 : decode cX6_merge 129 = .ok (.imul, 1) := by decide +kernel
theorem dX6_merge_130 : decode cX6_merge 130 = .ok (.iload 4, 2) := by decide +kernel
theorem dX6_merge_132 : decode cX6_merge 132 = .ok (.iadd, 1) := by decide +kernel
theorem dX6_merge_133 : decode cX6_merge 133 = .ok (.dup2, 1) := by decide +kernel
theorem dX6_merge_134 : decode cX6_merge 134 = .ok (.iaload, 1) := by decide +kernel
theorem dX6_merge_135 : decode cX6_merge 135 = .ok (.aload_n 0, 1) := by decide +kernel
theorem dX6_merge_136 : decode cX6_merge 136 = .ok (.getfield 16, 3) := by decide +kernel
theorem dX6_merge_139 : decode cX6_merge 139 = .ok (.bipush 72, 2) := by decide +kernel
theorem dX6_merge_141 : decode cX6_merge 141 = .ok (.iload_n 2, 1) := by decide +kernel
theorem dX6_merge_142 : decode cX6_merge 142 = .ok (.imul, 1) := by decide +kernel
theorem dX6_merge_143 : decode cX6_merge 143 = .ok (.iload 4, 2) := by decide +kernel
theorem dX6_merge_145 : decode cX6_merge 145 = .ok (.iadd, 1) := by decide +kernel
theorem dX6_merge_146 : decode cX6_merge 146 = .ok (.iaload, 1) := by decide +kernel
theorem dX6_merge_147 : decode cX6_merge 147 = .ok (.iadd, 1) := by decide +kernel
theorem dX6_merge_148 : decode cX6_merge 148 = .ok (.iastore, 1) := by decide +kernel
theorem dX6_merge_149 : decode cX6_merge 149 = .ok (.iinc 4 1, 3) := by decide +kernel
theorem dX6_merge_152 : decode cX6_merge 152 = .ok (.goto (-37), 3) := by decide +kernel
theorem dX6_merge_155 : decode cX6_merge 155 = .ok (.aload_n 0, 1) := by decide +kernel
theorem dX6_merge_156 : decode cX6_merge 156 = .ok (.getfield 13, 3) := by decide +kernel
theorem dX6_merge_159 : decode cX6_merge 159 = .ok (.iload_n 1, 1) := by decide +kernel
theorem dX6_merge_160 : decode cX6_merge 160 = .ok (.dup2, 1) := by decide +kernel
theorem dX6_merge_161 : decode cX6_merge 161 = .ok (.iaload, 1) := by decide +kernel
theorem dX6_merge_162 : decode cX6_merge 162 = .ok (.aload_n 0, 1) := by decide +kernel
theorem dX6_merge_163 : decode cX6_merge 163 = .ok (.getfield 13, 3) := by decide +kernel
theorem dX6_merge_166 : decode cX6_merge 166 = .ok (.iload_n 2, 1) := by decide +kernel
theorem dX6_merge_167 : decode cX6_merge 167 = .ok (.iaload, 1) := by decide +kernel
theorem dX6_merge_168 : decode cX6_merge 168 = .ok (.iadd, 1) := by decide +kernel
theorem dX6_merge_169 : decode cX6_merge 169 = .ok (.iastore, 1) := by decide +kernel
theorem dX6_merge_170 : decode cX6_merge 170 = .ok (.aload_n 0, 1) := by decide +kernel
theorem dX6_merge_171 : decode cX6_merge 171 = .ok (.iload_n 1, 1) := by decide +kernel
theorem dX6_merge_172 : decode cX6_merge 172 = .ok (.iload_n 2, 1) := by decide +kernel
theorem dX6_merge_173 : decode cX6_merge 173 = .ok (.invokevirtual 93, 3) := by decide +kernel
theorem dX6_merge_176 : decode cX6_merge 176 = .ok (.aload_n 0, 1) := by decide +kernel
theorem dX6_merge_177 : decode cX6_merge 177 = .ok (.getfield 13, 3) := by decide +kernel
theorem dX6_merge_180 : decode cX6_merge 180 = .ok (.iload_n 1, 1) := by decide +kernel
theorem dX6_merge_181 : decode cX6_merge 181 = .ok (.iaload, 1) := by decide +kernel
theorem dX6_merge_182 : decode cX6_merge 182 = .ok (.ireturn, 1) := by decide +kernel
set_option maxRecDepth 20000 in
theorem ggX6_clear_X6_isStream : GoodIn wsX6_clear wsX6_isStream := goodIn_r _ [9, 10, 11, 8, 12] (by decide +kernel) (by decide +kernel)
set_option maxRecDepth 20000 in
theorem gX6_clear_X6_isStream : GoodIn wsX6_clear (va_wsS RX6 79 yX6_isStream wsX6_isStream) := goodIn_app (goodIn_of _ (by decide +kernel)) ggX6_clear_X6_isStream
set_option maxRecDepth 20000 in
theorem ggX6_clear_X6_holds : GoodIn wsX6_clear wsX6_holds := goodIn_r _ [16, 17, 18, 19, 20, 21, 22, 23, 24, 25, 26] (by decide +kernel) (by decide +kernel)
set_option maxRecDepth 20000 in
theorem gX6_clear_X6_holds : GoodIn wsX6_clear (wsV RX6 84 RX6 yX6_holds wsX6_holds) := goodIn_app (goodIn_of _ (by decide +kernel)) ggX6_clear_X6_holds
theorem dX6_clear_0 : decode cX6_clear 0 = .ok (.aload_n 0, 1) := by decide +kernel
theorem dX6_clear_1 : decode cX6_clear 1 = .ok (.iload_n 1, 1) := by decide +kernel
theorem dX6_clear_2 : decode cX6_clear 2 = .ok (.invokestatic 79, 3) := by decide +kernel
theorem dX6_clear_5 : decode cX6_clear 5 = .ok (.ifCond .eq 7, 3) := by decide +kernel
theorem dX6_clear_8 : decode cX6_clear 8 = .ok (.iconst 0, 1) := by decide +kernel
theorem dX6_clear_9 : decode cX6_clear 9 = .ok (.goto 4, 3) := by decide +kernel
theorem dX6_clear_12 : decode cX6_clear 12 = .ok (.iconst 1, 1) := by decide +kernel
theorem dX6_clear_13 : decode cX6_clear 13 = .ok (.invokevirtual 84, 3) := by decide +kernel
theorem dX6_clear_16 : decode cX6_clear 16 = .ok (.ifCond .ne 5, 3) := by decide +kernel
theorem dX6_clear_19 : decode cX6_clear 19 = .ok (.iconst 0, 1) := by decide +kernel
theorem dX6_clear_20 : decode cX6_clear 20 = .ok (.ireturn, 1) := by decide +kernel
theorem dX6_clear_21 : decode cX6_clear 21 = .ok (.aload_n 0, 1) := by decide +kernel
theorem dX6_clear_22 : decode cX6_clear 22 = .ok (.getfield 13, 3) := by decide +kernel
theorem dX6_clear_25 : decode cX6_clear 25 = .ok (.iload_n 1, 1) := by decide +kernel
theorem dX6_clear_26 : decode cX6_clear 26 = .ok (.iaload, 1) := by decide +kernel
theorem dX6_clear_27 : decode cX6_clear 27 = .ok (.istore_n 2, 1) := by decide +kernel
theorem dX6_clear_28 : decode cX6_clear 28 = .ok (.iconst 0, 1) := by decide +kernel
theorem dX6_clear_29 : decode cX6_clear 29 = .ok (.istore_n 3, 1) := by decide +kernel
theorem dX6_clear_30 : decode cX6_clear 30 = .ok (.iload_n 3, 1) := by decide +kernel
theorem dX6_clear_31 : decode cX6_clear 31 = .ok (.bipush 64, 2) := by decide +kernel
theorem dX6_clear_33 : decode cX6_clear 33 = .ok (.if_icmp .ge 21, 3) := by decide +kernel
theorem dX6_clear_36 : decode cX6_clear 36 = .ok (.aload_n 0, 1) := by decide +kernel
theorem dX6_clear_37 : decode cX6_clear 37 = .ok (.getfield 7, 3) := by decide +kernel
theorem dX6_clear_40 : decode cX6_clear 40 = .ok (.bipush 64, 2) := by decide +kernel
theorem dX6_clear_42 : decode cX6_clear 42 = .ok (.iload_n 1, 1) := by decide +kernel
theorem dX6_clear_43 : decode cX6_clear 43 = .ok (.imul, 1) := by decide +kernel
theorem dX6_clear_44 : decode cX6_clear 44 = .ok (.iload_n 3, 1) := by decide +kernel
theorem dX6_clear_45 : decode cX6_clear 45 = .ok (.iadd, 1) := by decide +kernel
theorem dX6_clear_46 : decode cX6_clear 46 = .ok (.iconst 0, 1) := by decide +kernel
theorem dX6_clear_47 : decode cX6_clear 47 = .ok (.iastore, 1) := by decide +kernel
theorem dX6_clear_48 : decode cX6_clear 48 = .ok (.iinc 3 1, 3) := by decide +kernel
theorem dX6_clear_51 : decode cX6_clear 51 = .ok (.goto (-21), 3) := by decide +kernel
theorem dX6_clear_54 : decode cX6_clear 54 = .ok (.iconst 0, 1) := by decide +kernel
theorem dX6_clear_55 : decode cX6_clear 55 = .ok (.istore_n 3, 1) := by decide +kernel
theorem dX6_clear_56 : decode cX6_clear 56 = .ok (.iload_n 3, 1) := by decide +kernel
theorem dX6_clear_57 : decode cX6_clear 57 = .ok (.bipush 72, 2) := by decide +kernel
theorem dX6_clear_59 : decode cX6_clear 59 = .ok (.if_icmp .ge 21, 3) := by decide +kernel
theorem dX6_clear_62 : decode cX6_clear 62 = .ok (.aload_n 0, 1) := by decide +kernel
theorem dX6_clear_63 : decode cX6_clear 63 = .ok (.getfield 16, 3) := by decide +kernel
theorem dX6_clear_66 : decode cX6_clear 66 = .ok (.bipush 72, 2) := by decide +kernel
theorem dX6_clear_68 : decode cX6_clear 68 = .ok (.iload_n 1, 1) := by decide +kernel
theorem dX6_clear_69 : decode cX6_clear 69 = .ok (.imul, 1) := by decide +kernel
theorem dX6_clear_70 : decode cX6_clear 70 = .ok (.iload_n 3, 1) := by decide +kernel
theorem dX6_clear_71 : decode cX6_clear 71 = .ok (.iadd, 1) := by decide +kernel
theorem dX6_clear_72 : decode cX6_clear 72 = .ok (.iconst 0, 1) := by decide +kernel
theorem dX6_clear_73 : decode cX6_clear 73 = .ok (.iastore, 1) := by decide +kernel
theorem dX6_clear_74 : decode cX6_clear 74 = .ok (.iinc 3 1, 3) := by decide +kernel
theorem dX6_clear_77 : decode cX6_clear 77 = .ok (.goto (-21), 3) := by decide +kernel
theorem dX6_clear_80 : decode cX6_clear 80 = .ok (.aload_n 0, 1) := by decide +kernel
theorem dX6_clear_81 : decode cX6_clear 81 = .ok (.getfield 13, 3) := by decide +kernel
theorem dX6_clear_84 : decode cX6_clear 84 = .ok (.iload_n 1, 1) := by decide +kernel
theorem dX6_clear_85 : decode cX6_clear 85 = .ok (.iconst 0, 1) := by decide +kernel
theorem dX6_clear_86 : decode cX6_clear 86 = .ok (.iastore, 1) := by decide +kernel
theorem dX6_clear_87 : decode cX6_clear 87 = .ok (.aload_n 0, 1) := by decide +kernel
theorem dX6_clear_88 : decode cX6_clear 88 = .ok (.getfield 19, 3) := by decide +kernel
theorem dX6_clear_91 : decode cX6_clear 91 = .ok (.iload_n 1, 1) := by decide +kernel
theorem dX6_clear_92 : decode cX6_clear 92 = .ok (.iconst 0, 1) := by decide +kernel
theorem dX6_clear_93 : decode cX6_clear 93 = .ok (.iastore, 1) := by decide +kernel
theorem dX6_clear_94 : decode cX6_clear 94 = .ok (.aload_n 0, 1) := by decide +kernel
theorem dX6_clear_95 : decode cX6_clear 95 = .ok (.getfield 28, 3) := by decide +kernel
theorem dX6_clear_98 : decode cX6_clear 98 = .ok (.iload_n 1, 1) := by decide +kernel
theorem dX6_clear_99 : decode cX6_clear 99 = .ok (.iconst 0, 1) := by decide +kernel
theorem dX6_clear_100 : decode cX6_clear 100 = .ok (.iastore, 1) := by decide +kernel
theorem dX6_clear_101 : decode cX6_clear 101 = .ok (.iload_n 2, 1) := by decide +kernel
theorem dX6_clear_102 : decode cX6_clear 102 = .ok (.ireturn, 1) := by decide +kernel
set_option maxRecDepth 20000 in
theorem ggX6_total_X6_isStream : GoodIn wsX6_total wsX6_isStream := goodIn_r _ [5, 6, 7, 4, 8] (by decide +kernel) (by decide +kernel)
set_option maxRecDepth 20000 in
theorem gX6_total_X6_isStream : GoodIn wsX6_total (va_wsS RX6 79 yX6_isStream wsX6_isStream) := goodIn_app (goodIn_of _ (by decide +kernel)) ggX6_total_X6_isStream
set_option maxRecDepth 20000 in
theorem ggX6_total_X6_holds : GoodIn wsX6_total wsX6_holds := goodIn_r _ [12, 13, 14, 15, 16, 17, 18, 19, 20, 21, 22] (by decide +kernel) (by decide +kernel)
set_option maxRecDepth 20000 in
theorem gX6_total_X6_holds : GoodIn wsX6_total (wsV RX6 84 RX6 yX6_holds wsX6_holds) := goodIn_app (goodIn_of _ (by decide +kernel)) ggX6_total_X6_holds
theorem dX6_total_0 : decode cX6_total 0 = .ok (.aload_n 0, 1) := by decide +kernel
theorem dX6_total_1 : decode cX6_total 1 = .ok (.iload_n 1, 1) := by decide +kernel
theorem dX6_total_2 : decode cX6_total 2 = .ok (.invokestatic 79, 3) := by decide +kernel
theorem dX6_total_5 : decode cX6_total 5 = .ok (.ifCond .eq 7, 3) := by decide +kernel
theorem dX6_total_8 : decode cX6_total 8 = .ok (.iconst 0, 1) := by decide +kernel
theorem dX6_total_9 : decode cX6_total 9 = .ok (.goto 4, 3) := by decide +kernel
theorem dX6_total_12 : decode cX6_total 12 = .ok (.iconst 1, 1) := by decide +kernel
theorem dX6_total_13 : decode cX6_total 13 = .ok (.invokevirtual 84, 3) := by decide +kernel
theorem dX6_total_16 : decode cX6_total 16 = .ok (.ifCond .eq 12, 3) := by decide +kernel
theorem dX6_total_19 : decode cX6_total 19 = .ok (.aload_n 0, 1) := by decide +kernel
theorem dX6_total_20 : decode cX6_total 20 = .ok (.getfield 13, 3) := by decide +kernel
theorem dX6_total_23 : decode cX6_total 23 = .ok (.iload_n 1, 1) := by decide +kernel
theorem dX6_total_24 : decode cX6_total 24 = .ok (.iaload, 1) := by decide +kernel
theorem dX6_total_25 : decode cX6_total 25 = .ok (.goto 4, 3) := by decide +kernel
theorem dX6_total_28 : decode cX6_total 28 = .ok (.iconst 0, 1) := by decide +kernel
theorem dX6_total_29 : decode cX6_total 29 = .ok (.ireturn, 1) := by decide +kernel
set_option maxRecDepth 20000 in
theorem ggX6_isItem_X6_isStream : GoodIn wsX6_isItem wsX6_isStream := goodIn_r _ [4, 5, 6, 3, 7] (by decide +kernel) (by decide +kernel)
set_option maxRecDepth 20000 in
theorem gX6_isItem_X6_isStream : GoodIn wsX6_isItem (va_wsS RX6 79 yX6_isStream wsX6_isStream) := goodIn_app (goodIn_of _ (by decide +kernel)) ggX6_isItem_X6_isStream
set_option maxRecDepth 20000 in
theorem ggX6_isItem_X6_isIn : GoodIn wsX6_isItem wsX6_isIn := goodIn_r _ [7] (by decide +kernel) (by decide +kernel)
set_option maxRecDepth 20000 in
theorem gX6_isItem_X6_isIn : GoodIn wsX6_isItem (va_wsS RX6 39 yX6_isIn wsX6_isIn) := goodIn_app (goodIn_of _ (by decide +kernel)) ggX6_isItem_X6_isIn
set_option maxRecDepth 20000 in
theorem ggX6_isItem_X6_holds : GoodIn wsX6_isItem wsX6_holds := goodIn_r _ [11, 12, 13, 14, 15, 16, 17, 18, 19, 20, 21] (by decide +kernel) (by decide +kernel)
set_option maxRecDepth 20000 in
theorem gX6_isItem_X6_holds : GoodIn wsX6_isItem (wsV RX6 84 RX6 yX6_holds wsX6_holds) := goodIn_app (goodIn_of _ (by decide +kernel)) ggX6_isItem_X6_holds
theorem dX6_isItem_0 : decode cX6_isItem 0 = .ok (.aload_n 0, 1) := by decide +kernel
theorem dX6_isItem_1 : decode cX6_isItem 1 = .ok (.iload_n 1, 1) := by decide +kernel
theorem dX6_isItem_2 : decode cX6_isItem 2 = .ok (.invokestatic 79, 3) := by decide +kernel
theorem dX6_isItem_5 : decode cX6_isItem 5 = .ok (.ifCond .eq 16, 3) := by decide +kernel
theorem dX6_isItem_8 : decode cX6_isItem 8 = .ok (.iload_n 2, 1) := by decide +kernel
theorem dX6_isItem_9 : decode cX6_isItem 9 = .ok (.bipush 64, 2) := by decide +kernel
theorem dX6_isItem_11 : decode cX6_isItem 11 = .ok (.invokestatic 39, 3) := by decide +kernel
theorem dX6_isItem_14 : decode cX6_isItem 14 = .ok (.ifCond .eq 7, 3) := by decide +kernel
theorem dX6_isItem_17 : decode cX6_isItem 17 = .ok (.iconst 0, 1) := by decide +kernel
theorem dX6_isItem_18 : decode cX6_isItem 18 = .ok (.goto 4, 3) := by decide +kernel
theorem dX6_isItem_21 : decode cX6_isItem 21 = .ok (.iconst 1, 1) := by decide +kernel
theorem dX6_isItem_22 : decode cX6_isItem 22 = .ok (.invokevirtual 84, 3) := by decide +kernel
theorem dX6_isItem_25 : decode cX6_isItem 25 = .ok (.ireturn, 1) := by decide +kernel
set_option maxRecDepth 20000 in
theorem ggX6_count_X6_isItem : GoodIn wsX6_count wsX6_isItem := goodIn_r _ [6, 7, 8, 5, 9, 10, 11, 12, 13, 14, 15, 16, 17, 18, 19, 20, 21, 22, 23, 24, 25, 26] (by decide +kernel) (by decide +kernel)
set_option maxRecDepth 20000 in
theorem gX6_count_X6_isItem : GoodIn wsX6_count (wsV RX6 96 RX6 yX6_isItem wsX6_isItem) := goodIn_app (goodIn_of _ (by decide +kernel)) ggX6_count_X6_isItem
theorem dX6_count_0 : decode cX6_count 0 = .ok (.aload_n 0, 1) := by decide +kernel
theorem dX6_count_1 : decode cX6_count 1 = .ok (.iload_n 1, 1) := by decide +kernel
theorem dX6_count_2 : decode cX6_count 2 = .ok (.iload_n 2, 1) := by decide +kernel
theorem dX6_count_3 : decode cX6_count 3 = .ok (.invokevirtual 96, 3) := by decide +kernel
theorem dX6_count_6 : decode cX6_count 6 = .ok (.ifCond .eq 17, 3) := by decide +kernel
theorem dX6_count_9 : decode cX6_count 9 = .ok (.aload_n 0, 1) := by decide +kernel
theorem dX6_count_10 : decode cX6_count 10 = .ok (.getfield 7, 3) := by decide +kernel
theorem dX6_count_13 : decode cX6_count 13 = .ok (.bipush 64, 2) := by decide +kernel
theorem dX6_count_15 : decode cX6_count 15 = .ok (.iload_n 1, 1) := by decide +kernel
theorem dX6_count_16 : decode cX6_count 16 = .ok (.imul, 1) := by decide +kernel
theorem dX6_count_17 : decode cX6_count 17 = .ok (.iload_n 2, 1) := by decide +kernel
theorem dX6_count_18 : decode cX6_count 18 = .ok (.iadd, 1) := by decide +kernel
theorem dX6_count_19 : decode cX6_count 19 = .ok (.iaload, 1) := by decide +kernel
theorem dX6_count_20 : decode cX6_count 20 = .ok (.goto 4, 3) := by decide +kernel
theorem dX6_count_23 : decode cX6_count 23 = .ok (.iconst 0, 1) := by decide +kernel
theorem dX6_count_24 : decode cX6_count 24 = .ok (.ireturn, 1) := by decide +kernel
set_option maxRecDepth 20000 in
theorem ggX6_isRange_X6_isIn : GoodIn wsX6_isRange wsX6_isIn := goodIn_r _ [4] (by decide +kernel) (by decide +kernel)
set_option maxRecDepth 20000 in
theorem gX6_isRange_X6_isIn : GoodIn wsX6_isRange (va_wsS RX6 39 yX6_isIn wsX6_isIn) := goodIn_app (goodIn_of _ (by decide +kernel)) ggX6_isRange_X6_isIn
set_option maxRecDepth 20000 in
theorem ggX6_isRange_X6_holds : GoodIn wsX6_isRange wsX6_holds := goodIn_r _ [8, 9, 10, 11, 12, 13, 14, 15, 16, 17, 18] (by decide +kernel) (by decide +kernel)
set_option maxRecDepth 20000 in
theorem gX6_isRange_X6_holds : GoodIn wsX6_isRange (wsV RX6 84 RX6 yX6_holds wsX6_holds) := goodIn_app (goodIn_of _ (by decide +kernel)) ggX6_isRange_X6_holds
theorem dX6_isRange_0 : decode cX6_isRange 0 = .ok (.iload_n 1, 1) := by decide +kernel
theorem dX6_isRange_1 : decode cX6_isRange 1 = .ok (.ifCond .eq 25, 3) := by decide +kernel
theorem dX6_isRange_4 : decode cX6_isRange 4 = .ok (.iload_n 2, 1) := by decide +kernel
theorem dX6_isRange_5 : decode cX6_isRange 5 = .ok (.bipush 64, 2) := by decide +kernel
theorem dX6_isRange_7 : decode cX6_isRange 7 = .ok (.invokestatic 39, 3) := by decide +kernel
theorem dX6_isRange_10 : decode cX6_isRange 10 = .ok (.ifCond .eq 16, 3) := by decide +kernel
theorem dX6_isRange_13 : decode cX6_isRange 13 = .ok (.iload_n 3, 1) := by decide +kernel
theorem dX6_isRange_14 : decode cX6_isRange 14 = .ok (.bipush 64, 2) := by decide +kernel
theorem dX6_isRange_16 : decode cX6_isRange 16 = .ok (.invokestatic 39, 3) := by decide +kernel
theorem dX6_isRange_19 : decode cX6_isRange 19 = .ok (.ifCond .eq 7, 3) := by decide +kernel
theorem dX6_isRange_22 : decode cX6_isRange 22 = .ok (.iconst 1, 1) := by decide +kernel
theorem dX6_isRange_23 : decode cX6_isRange 23 = .ok (.goto 4, 3) := by decide +kernel
theorem dX6_isRange_26 : decode cX6_isRange 26 = .ok (.iconst 0, 1) := by decide +kernel
theorem dX6_isRange_27 : decode cX6_isRange 27 = .ok (.istore 4, 2) := by decide +kernel
theorem dX6_isRange_29 : decode cX6_isRange 29 = .ok (.aload_n 0, 1) := by decide +kernel
theorem dX6_isRange_30 : decode cX6_isRange 30 = .ok (.iload 4, 2) := by decide +kernel
theorem dX6_isRange_32 : decode cX6_isRange 32 = .ok (.ifCond .ne 7, 3) := by decide +kernel
theorem dX6_isRange_35 : decode cX6_isRange 35 = .ok (.iconst 1, 1) := by decide +kernel
theorem dX6_isRange_36 : decode cX6_isRange 36 = .ok (.goto 13, 3) := by decide +kernel
theorem dX6_isRange_39 : decode cX6_isRange 39 = .ok (.iload_n 3, 1) := by decide +kernel
theorem dX6_isRange_40 : decode cX6_isRange 40 = .ok (.iload_n 2, 1) := by decide +kernel
theorem dX6_isRange_41 : decode cX6_isRange 41 = .ok (.if_icmp .ge 7, 3) := by decide +kernel
theorem dX6_isRange_44 : decode cX6_isRange 44 = .ok (.iconst 2, 1) := by decide +kernel
theorem dX6_isRange_45 : decode cX6_isRange 45 = .ok (.goto 4, 3) := by decide +kernel
theorem dX6_isRange_48 : decode cX6_isRange 48 = .ok (.iconst 0, 1) := by decide +kernel
theorem dX6_isRange_49 : decode cX6_isRange 49 = .ok (.invokevirtual 84, 3) := by decide +kernel
theorem dX6_isRange_52 : decode cX6_isRange 52 = .ok (.ireturn, 1) := by decide +kernel
set_option maxRecDepth 20000 in
theorem ggX6_countOfRange_X6_isStream : GoodIn wsX6_countOfRange wsX6_isStream := goodIn_r _ [4, 5, 6, 3, 7] (by decide +kernel) (by decide +kernel)
set_option maxRecDepth 20000 in
theorem gX6_countOfRange_X6_isStream : GoodIn wsX6_countOfRange (va_wsS RX6 79 yX6_isStream wsX6_isStream) := goodIn_app (goodIn_of _ (by decide +kernel)) ggX6_countOfRange_X6_isStream
set_option maxRecDepth 20000 in
theorem ggX6_countOfRange_X6_isRange : GoodIn wsX6_countOfRange wsX6_isRange := goodIn_r _ [11, 5, 6, 3, 7, 12, 13, 14, 15, 16, 22, 23, 24, 25, 26, 27, 28, 29, 30] (by decide +kernel) (by decide +kernel)
set_option maxRecDepth 20000 in
theorem gX6_countOfRange_X6_isRange : GoodIn wsX6_countOfRange (wsV RX6 99 RX6 yX6_isRange wsX6_isRange) := goodIn_app (goodIn_of _ (by decide +kernel)) ggX6_countOfRange_X6_isRange
set_option maxRecDepth 20000 in
theorem ggX6_countOfRange_X6_sum : GoodIn wsX6_countOfRange wsX6_sum := goodIn_r _ [20, 21, 22, 23, 24, 25, 26, 27, 28, 29, 30] (by decide +kernel) (by decide +kernel)
set_option maxRecDepth 20000 in
theorem gX6_countOfRange_X6_sum : GoodIn wsX6_countOfRange (wsV RX6 50 RX6 yX6_sum wsX6_sum) := goodIn_app (goodIn_of _ (by decide +kernel)) ggX6_countOfRange_X6_sum
theorem dX6_countOfRange_0 : decode cX6_countOfRange 0 = .ok (.aload_n 0, 1) := by decide +kernel
theorem dX6_countOfRange_1 : decode cX6_countOfRange 1 = .ok (.iload_n 1, 1) := by decide +kernel
theorem dX6_countOfRange_2 : decode cX6_countOfRange 2 = .ok (.invokestatic 79, 3) := by decide +kernel
theorem dX6_countOfRange_5 : decode cX6_countOfRange 5 = .ok (.iload_n 2, 1) := by decide +kernel
theorem dX6_countOfRange_6 : decode cX6_countOfRange 6 = .ok (.iload_n 3, 1) := by decide +kernel
theorem dX6_countOfRange_7 : decode cX6_countOfRange 7 = .ok (.invokevirtual 99, 3) := by decide +kernel
theorem dX6_countOfRange_10 : decode cX6_countOfRange 10 = .ok (.ifCond .eq 13, 3) := by decide +kernel
theorem dX6_countOfRange_13 : decode cX6_countOfRange 13 = .ok (.aload_n 0, 1) := by decide +kernel
theorem dX6_countOfRange_14 : decode cX6_countOfRange 14 = .ok (.iload_n 1, 1) := by decide +kernel
theorem dX6_countOfRange_15 : decode cX6_countOfRange 15 = .ok (.iload_n 2, 1) := by decide +kernel
theorem dX6_countOfRange_16 : decode cX6_countOfRange 16 = .ok (.iload_n 3, 1) := by decide +kernel
theorem dX6_countOfRange_17 : decode cX6_countOfRange 17 = .ok (.invokevirtual 50, 3) := by decide +kernel
theorem dX6_countOfRange_20 : decode cX6_countOfRange 20 = .ok (.goto 4, 3) := by decide +kernel
theorem dX6_countOfRange_23 : decode cX6_countOfRange 23 = .ok (.iconst 0, 1) := by decide +kernel
theorem dX6_countOfRange_24 : decode cX6_countOfRange 24 = .ok (.ireturn, 1) := by decide +kernel
set_option maxRecDepth 20000 in
theorem ggX6_product_X6_isStream : GoodIn wsX6_product wsX6_isStream := goodIn_r _ [5, 6, 7, 4, 8] (by decide +kernel) (by decide +kernel)
set_option maxRecDepth 20000 in
theorem gX6_product_X6_isStream : GoodIn wsX6_product (va_wsS RX6 79 yX6_isStream wsX6_isStream) := goodIn_app (goodIn_of _ (by decide +kernel)) ggX6_product_X6_isStream
set_option maxRecDepth 20000 in
theorem ggX6_product_X6_holds : GoodIn wsX6_product wsX6_holds := goodIn_r _ [12, 13, 14, 15, 16, 17, 18, 19, 20, 21, 22] (by decide +kernel) (by decide +kernel)
set_option maxRecDepth 20000 in
theorem gX6_product_X6_holds : GoodIn wsX6_product (wsV RX6 84 RX6 yX6_holds wsX6_holds) := goodIn_app (goodIn_of _ (by decide +kernel)) ggX6_product_X6_holds
theorem dX6_product_0 : decode cX6_product 0 = .ok (.aload_n 0, 1) := by decide +kernel
theorem dX6_product_1 : decode cX6_product 1 = .ok (.iload_n 1, 1) := by decide +kernel
theorem dX6_product_2 : decode cX6_product 2 = .ok (.invokestatic 79, 3) := by decide +kernel
theorem dX6_product_5 : decode cX6_product 5 = .ok (.ifCond .eq 14, 3) := by decide +kernel
theorem dX6_product_8 : decode cX6_product 8 = .ok (.iload_n 2, 1) := by decide +kernel
theorem dX6_product_9 : decode cX6_product 9 = .ok (.invokestatic 79, 3) := by decide +kernel
theorem dX6_product_12 : decode cX6_product 12 = .ok (.ifCond .eq 7, 3) := by decide +kernel
theorem dX6_product_15 : decode cX6_product 15 = .ok (.iconst 0, 1) := by decide +kernel
theorem dX6_product_16 : decode cX6_product 16 = .ok (.goto 4, 3) := by decide +kernel
theorem dX6_product_19 : decode cX6_product 19 = .ok (.iconst 1, 1) := by decide +kernel
theorem dX6_product_20 : decode cX6_product 20 = .ok (.invokevirtual 84, 3) := by decide +kernel
theorem dX6_product_23 : decode cX6_product 23 = .ok (.ifCond .ne 5, 3) := by decide +kernel
theorem dX6_product_26 : decode cX6_product 26 = .ok (.lconst 0, 1) := by decide +kernel
theorem dX6_product_27 : decode cX6_product 27 = .ok (.lreturn, 1) := by decide +kernel
theorem dX6_product_28 : decode cX6_product 28 = .ok (.lconst 0, 1) := by decide +kernel
theorem dX6_product_29 : decode cX6_product 29 = .ok (.lstore_n 3, 1) := by decide +kernel
theorem dX6_product_30 : decode cX6_product 30 = .ok (.iconst 0, 1) := by decide +kernel
theorem dX6_product_31 : decode cX6_product 31 = .ok (.istore 5, 2) := by decide +kernel
theorem dX6_product_33 : decode cX6_product 33 = .ok (.iload 5, 2) := by decide +kernel
theorem dX6_product_35 : decode cX6_product 35 = .ok (.bipush 64, 2) := by decide +kernel
theorem dX6_product_37 : decode cX6_product 37 = .ok (.if_icmp .ge 39, 3) := by decide +kernel
theorem dX6_product_40 : decode cX6_product 40 = .ok (.lload_n 3, 1) := by decide +kernel
theorem dX6_product_41 : decode cX6_product 41 = .ok (.aload_n 0, 1) := by decide +kernel
theorem dX6_product_42 : decode cX6_product 42 = .ok (.getfield 7, 3) := by decide +kernel
theorem dX6_product_45 : decode cX6_product 45 = .ok (.bipush 64, 2) := by decide +kernel
theorem dX6_product_47 : decode cX6_product 47 = .ok (.iload_n 1, 1) := by decide +kernel
theorem dX6_product_48 : decode cX6_product 48 = .ok (.imul, 1) := by decide +kernel
theorem dX6_product_49 : decode cX6_product 49 = .ok (.iload 5, 2) := by decide +kernel
theorem dX6_product_51 : decode cX6_product 51 = .ok (.iadd, 1) := by decide +kernel
theorem dX6_product_52 : decode cX6_product 52 = .ok (.iaload, 1) := by decide +kernel
theorem dX6_product_53 : decode cX6_product 53 = .ok (.i2l, 1) := by decide +kernel
theorem dX6_product_54 : decode cX6_product 54 = .ok (.aload_n 0, 1) := by decide +kernel
theorem dX6_product_55 : decode cX6_product 55 = .ok (.getfield 7, 3) := by decide +kernel
theorem dX6_product_58 : decode cX6_product 58 = .ok (.bipush 64, 2) := by decide +kernel
theorem dX6_product_60 : decode cX6_product 60 = .ok (.iload_n 2, 1) := by decide +kernel
theorem dX6_product_61 : decode cX6_product 61 = .ok (.imul, 1) := by decide +kernel
theorem dX6_product_62 : decode cX6_product 62 = .ok (.iload 5, 2) := by decide +kernel
theorem dX6_product_64 : decode cX6_product 64 = .ok (.iadd, 1) := by decide +kernel
theorem dX6_product_65 : decode cX6_product 65 = .ok (.iaload, 1) := by decide +kernel
theorem dX6_product_66 : decode cX6_product 66 = .ok (.i2l, 1) := by decide +kernel
theorem dX6_product_67 : decode cX6_product 67 = .ok (.lmul, 1) := by decide +kernel
theorem dX6_product_68 : decode cX6_product 68 = .ok (.ladd, 1) := by decide +kernel
theorem dX6_product_69 : decode cX6_product 69 = .ok (.lstore_n 3, 1) := by decide +kernel
theorem dX6_product_70 : decode cX6_product 70 = .ok (.iinc 5 1, 3) := by decide +kernel
theorem dX6_product_73 : decode cX6_product 73 = .ok (.goto (-40), 3) := by decide +kernel
theorem dX6_product_76 : decode cX6_product 76 = .ok (.lload_n 3, 1) := by decide +kernel
theorem dX6_product_77 : decode cX6_product 77 = .ok (.lreturn, 1) := by decide +kernel
set_option maxRecDepth 20000 in
theorem ggX6_column_X6_isIn : GoodIn wsX6_column wsX6_isIn := goodIn_r _ [4] (by decide +kernel) (by decide +kernel)
set_option maxRecDepth 20000 in
theorem gX6_column_X6_isIn : GoodIn wsX6_column (va_wsS RX6 39 yX6_isIn wsX6_isIn) := goodIn_app (goodIn_of _ (by decide +kernel)) ggX6_column_X6_isIn
set_option maxRecDepth 20000 in
theorem ggX6_column_X6_holds : GoodIn wsX6_column wsX6_holds := goodIn_r _ [8, 9, 19, 20, 21, 22, 23, 24, 25, 26, 27] (by decide +kernel) (by decide +kernel)
set_option maxRecDepth 20000 in
theorem gX6_column_X6_holds : GoodIn wsX6_column (wsV RX6 84 RX6 yX6_holds wsX6_holds) := goodIn_app (goodIn_of _ (by decide +kernel)) ggX6_column_X6_holds
set_option maxRecDepth 20000 in
theorem ggX6_column_X6_columnOf : GoodIn wsX6_column wsX6_columnOf := goodIn_r _ [12, 13, 14, 3, 15, 16, 17, 18] (by decide +kernel) (by decide +kernel)
set_option maxRecDepth 20000 in
theorem gX6_column_X6_columnOf : GoodIn wsX6_column (va_wsS RX6 54 yX6_columnOf wsX6_columnOf) := goodIn_app (goodIn_of _ (by decide +kernel)) ggX6_column_X6_columnOf
theorem dX6_column_0 : decode cX6_column 0 = .ok (.aload_n 0, 1) := by decide +kernel
theorem dX6_column_1 : decode cX6_column 1 = .ok (.iload_n 1, 1) := by decide +kernel
theorem dX6_column_2 : decode cX6_column 2 = .ok (.iconst 3, 1) := by decide +kernel
theorem dX6_column_3 : decode cX6_column 3 = .ok (.invokestatic 39, 3) := by decide +kernel
theorem dX6_column_6 : decode cX6_column 6 = .ok (.ifCond .eq 16, 3) := by decide +kernel
theorem dX6_column_9 : decode cX6_column 9 = .ok (.iload_n 2, 1) := by decide +kernel
theorem dX6_column_10 : decode cX6_column 10 = .ok (.bipush 64, 2) := by decide +kernel
theorem dX6_column_12 : decode cX6_column 12 = .ok (.invokestatic 39, 3) := by decide +kernel
theorem dX6_column_15 : decode cX6_column 15 = .ok (.ifCond .eq 7, 3) := by decide +kernel
theorem dX6_column_18 : decode cX6_column 18 = .ok (.iconst 0, 1) := by decide +kernel
theorem dX6_column_19 : decode cX6_column 19 = .ok (.goto 4, 3) := by decide +kernel
theorem dX6_column_22 : decode cX6_column 22 = .ok (.iconst 1, 1) := by decide +kernel
theorem dX6_column_23 : decode cX6_column 23 = .ok (.invokevirtual 84, 3) := by decide +kernel
theorem dX6_column_26 : decode cX6_column 26 = .ok (.ifCond .eq 11, 3) := by decide +kernel
theorem dX6_column_29 : decode cX6_column 29 = .ok (.iload_n 1, 1) := by decide +kernel
theorem dX6_column_30 : decode cX6_column 30 = .ok (.iload_n 2, 1) := by decide +kernel
theorem dX6_column_31 : decode cX6_column 31 = .ok (.invokestatic 54, 3) := by decide +kernel
theorem dX6_column_34 : decode cX6_column 34 = .ok (.goto 4, 3) := by decide +kernel
theorem dX6_column_37 : decode cX6_column 37 = .ok (.iconst 0, 1) := by decide +kernel
theorem dX6_column_38 : decode cX6_column 38 = .ok (.ireturn, 1) := by decide +kernel
set_option maxRecDepth 20000 in
theorem ggX6_cell_X6_isStream : GoodIn wsX6_cell wsX6_isStream := goodIn_r _ [5, 6, 7, 4, 8] (by decide +kernel) (by decide +kernel)
set_option maxRecDepth 20000 in
theorem gX6_cell_X6_isStream : GoodIn wsX6_cell (va_wsS RX6 79 yX6_isStream wsX6_isStream) := goodIn_app (goodIn_of _ (by decide +kernel)) ggX6_cell_X6_isStream
set_option maxRecDepth 20000 in
theorem ggX6_cell_X6_isIn : GoodIn wsX6_cell wsX6_isIn := goodIn_r _ [8] (by decide +kernel) (by decide +kernel)
set_option maxRecDepth 20000 in
theorem gX6_cell_X6_isIn : GoodIn wsX6_cell (va_wsS RX6 39 yX6_isIn wsX6_isIn) := goodIn_app (goodIn_of _ (by decide +kernel)) ggX6_cell_X6_isIn
set_option maxRecDepth 20000 in
theorem ggX6_cell_X6_holds : GoodIn wsX6_cell wsX6_holds := goodIn_r _ [12, 13, 17, 18, 19, 20, 21, 22, 23, 24, 25] (by decide +kernel) (by decide +kernel)
set_option maxRecDepth 20000 in
theorem gX6_cell_X6_holds : GoodIn wsX6_cell (wsV RX6 84 RX6 yX6_holds wsX6_holds) := goodIn_app (goodIn_of _ (by decide +kernel)) ggX6_cell_X6_holds
set_option maxRecDepth 20000 in
theorem ggX6_cell_X6_placeOf : GoodIn wsX6_cell wsX6_placeOf := goodIn_r _ [16] (by decide +kernel) (by decide +kernel)
set_option maxRecDepth 20000 in
theorem gX6_cell_X6_placeOf : GoodIn wsX6_cell (va_wsS RX6 58 yX6_placeOf wsX6_placeOf) := goodIn_app (goodIn_of _ (by decide +kernel)) ggX6_cell_X6_placeOf
theorem dX6_cell_0 : decode cX6_cell 0 = .ok (.iload_n 1, 1) := by decide +kernel
theorem dX6_cell_1 : decode cX6_cell 1 = .ok (.invokestatic 79, 3) := by decide +kernel
theorem dX6_cell_4 : decode cX6_cell 4 = .ok (.ifCond .eq 33, 3) := by decide +kernel
theorem dX6_cell_7 : decode cX6_cell 7 = .ok (.iload_n 2, 1) := by decide +kernel
theorem dX6_cell_8 : decode cX6_cell 8 = .ok (.iconst 3, 1) := by decide +kernel
theorem dX6_cell_9 : decode cX6_cell 9 = .ok (.invokestatic 39, 3) := by decide +kernel
theorem dX6_cell_12 : decode cX6_cell 12 = .ok (.ifCond .eq 25, 3) := by decide +kernel
theorem dX6_cell_15 : decode cX6_cell 15 = .ok (.iload_n 3, 1) := by decide +kernel
theorem dX6_cell_16 : decode cX6_cell 16 = .ok (.iconst 3, 1) := by decide +kernel
theorem dX6_cell_17 : decode cX6_cell 17 = .ok (.invokestatic 39, 3) := by decide +kernel
theorem dX6_cell_20 : decode cX6_cell 20 = .ok (.ifCond .eq 17, 3) := by decide +kernel
theorem dX6_cell_23 : decode cX6_cell 23 = .ok (.iload 4, 2) := by decide +kernel
theorem dX6_cell_25 : decode cX6_cell 25 = .ok (.bipush 8, 2) := by decide +kernel
theorem dX6_cell_27 : decode cX6_cell 27 = .ok (.invokestatic 39, 3) := by decide +kernel
theorem dX6_cell_30 : decode cX6_cell 30 = .ok (.ifCond .eq 7, 3) := by decide +kernel
theorem dX6_cell_33 : decode cX6_cell 33 = .ok (.iconst 1, 1) := by decide +kernel
theorem dX6_cell_34 : decode cX6_cell 34 = .ok (.goto 4, 3) := by decide +kernel
theorem dX6_cell_37 : decode cX6_cell 37 = .ok (.iconst 0, 1) := by decide +kernel
theorem dX6_cell_38 : decode cX6_cell 38 = .ok (.istore 5, 2) := by decide +kernel
theorem dX6_cell_40 : decode cX6_cell 40 = .ok (.aload_n 0, 1) := by decide +kernel
theorem dX6_cell_41 : decode cX6_cell 41 = .ok (.iload 5, 2) := by decide +kernel
theorem dX6_cell_43 : decode cX6_cell 43 = .ok (.ifCond .eq 7, 3) := by decide +kernel
theorem dX6_cell_46 : decode cX6_cell 46 = .ok (.iconst 0, 1) := by decide +kernel
theorem dX6_cell_47 : decode cX6_cell 47 = .ok (.goto 4, 3) := by decide +kernel
theorem dX6_cell_50 : decode cX6_cell 50 = .ok (.iconst 1, 1) := by decide +kernel
theorem dX6_cell_51 : decode cX6_cell 51 = .ok (.invokevirtual 84, 3) := by decide +kernel
theorem dX6_cell_54 : decode cX6_cell 54 = .ok (.ifCond .eq 19, 3) := by decide +kernel
theorem dX6_cell_57 : decode cX6_cell 57 = .ok (.aload_n 0, 1) := by decide +kernel
theorem dX6_cell_58 : decode cX6_cell 58 = .ok (.getfield 16, 3) := by decide +kernel
theorem dX6_cell_61 : decode cX6_cell 61 = .ok (.iload_n 1, 1) := by decide +kernel
theorem dX6_cell_62 : decode cX6_cell 62 = .ok (.iload_n 2, 1) := by decide +kernel
theorem dX6_cell_63 : decode cX6_cell 63 = .ok (.iload_n 3, 1) := by decide +kernel
theorem dX6_cell_64 : decode cX6_cell 64 = .ok (.iload 4, 2) := by decide +kernel
theorem dX6_cell_66 : decode cX6_cell 66 = .ok (.invokestatic 58, 3) := by decide +kernel
theorem dX6_cell_69 : decode cX6_cell 69 = .ok (.iaload, 1) := by decide +kernel
theorem dX6_cell_70 : decode cX6_cell 70 = .ok (.goto 4, 3) := by decide +kernel
theorem dX6_cell_73 : decode cX6_cell 73 = .ok (.iconst 0, 1) := by decide +kernel
theorem dX6_cell_74 : decode cX6_cell 74 = .ok (.ireturn, 1) := by decide +kernel
set_option maxRecDepth 20000 in
theorem ggX6_estimate_X6_isStream : GoodIn wsX6_estimate wsX6_isStream := goodIn_r _ [4, 5, 6, 3, 7] (by decide +kernel) (by decide +kernel)
set_option maxRecDepth 20000 in
theorem gX6_estimate_X6_isStream : GoodIn wsX6_estimate (va_wsS RX6 79 yX6_isStream wsX6_isStream) := goodIn_app (goodIn_of _ (by decide +kernel)) ggX6_estimate_X6_isStream
set_option maxRecDepth 20000 in
theorem ggX6_estimate_X6_isIn : GoodIn wsX6_estimate wsX6_isIn := goodIn_r _ [7] (by decide +kernel) (by decide +kernel)
set_option maxRecDepth 20000 in
theorem gX6_estimate_X6_isIn : GoodIn wsX6_estimate (va_wsS RX6 39 yX6_isIn wsX6_isIn) := goodIn_app (goodIn_of _ (by decide +kernel)) ggX6_estimate_X6_isIn
set_option maxRecDepth 20000 in
theorem ggX6_estimate_X6_holds : GoodIn wsX6_estimate wsX6_holds := goodIn_r _ [11, 12, 35, 36, 37, 38, 39, 40, 41, 42, 43] (by decide +kernel) (by decide +kernel)
set_option maxRecDepth 20000 in
theorem gX6_estimate_X6_holds : GoodIn wsX6_estimate (wsV RX6 84 RX6 yX6_holds wsX6_holds) := goodIn_app (goodIn_of _ (by decide +kernel)) ggX6_estimate_X6_holds
set_option maxRecDepth 20000 in
theorem ggX6_estimate_X6_estimateOf : GoodIn wsX6_estimate wsX6_estimateOf := goodIn_r _ [16, 17, 18, 19, 20, 3, 21, 22, 23, 24, 25, 26, 27, 28, 29, 30, 31, 32, 33, 34, 35, 36, 37, 38, 39, 40, 41, 42, 43] (by decide +kernel) (by decide +kernel)
set_option maxRecDepth 20000 in
theorem gX6_estimate_X6_estimateOf : GoodIn wsX6_estimate (wsV RX6 62 RX6 yX6_estimateOf wsX6_estimateOf) := goodIn_app (goodIn_of _ (by decide +kernel)) ggX6_estimate_X6_estimateOf
theorem dX6_estimate_0 : decode cX6_estimate 0 = .ok (.iload_n 1, 1) := by decide +kernel
theorem dX6_estimate_1 : decode cX6_estimate 1 = .ok (.invokestatic 79, 3) := by decide +kernel
theorem dX6_estimate_4 : decode cX6_estimate 4 = .ok (.ifCond .eq 27, 3) := by decide +kernel
theorem dX6_estimate_7 : decode cX6_estimate 7 = .ok (.iload_n 2, 1) := by decide +kernel
theorem dX6_estimate_8 : decode cX6_estimate 8 = .ok (.bipush 7, 2) := by decide +kernel
theorem dX6_estimate_10 : decode cX6_estimate 10 = .ok (.invokestatic 39, 3) := by decide +kernel
theorem dX6_estimate_13 : decode cX6_estimate 13 = .ok (.ifCond .eq 18, 3) := by decide +kernel
theorem dX6_estimate_16 : decode cX6_estimate 16 = .ok (.iload_n 3, 1) := by decide +kernel
theorem dX6_estimate_17 : decode cX6_estimate 17 = .ok (.bipush 64, 2) := by decide +kernel
theorem dX6_estimate_19 : decode cX6_estimate 19 = .ok (.iload_n 2, 1) := by decide +kernel
theorem dX6_estimate_20 : decode cX6_estimate 20 = .ok (.ishr, 1) := by decide +kernel
theorem dX6_estimate_21 : decode cX6_estimate 21 = .ok (.invokestatic 39, 3) := by decide +kernel
theorem dX6_estimate_24 : decode cX6_estimate 24 = .ok (.ifCond .eq 7, 3) := by decide +kernel
theorem dX6_estimate_27 : decode cX6_estimate 27 = .ok (.iconst 1, 1) := by decide +kernel
theorem dX6_estimate_28 : decode cX6_estimate 28 = .ok (.goto 4, 3) := by decide +kernel
theorem dX6_estimate_31 : decode cX6_estimate 31 = .ok (.iconst 0, 1) := by decide +kernel
theorem dX6_estimate_32 : decode cX6_estimate 32 = .ok (.istore 4, 2) := by decide +kernel
theorem dX6_estimate_34 : decode cX6_estimate 34 = .ok (.aload_n 0, 1) := by decide +kernel
theorem dX6_estimate_35 : decode cX6_estimate 35 = .ok (.iload 4, 2) := by decide +kernel
theorem dX6_estimate_37 : decode cX6_estimate 37 = .ok (.ifCond .eq 7, 3) := by decide +kernel
theorem dX6_estimate_40 : decode cX6_estimate 40 = .ok (.iconst 0, 1) := by decide +kernel
theorem dX6_estimate_41 : decode cX6_estimate 41 = .ok (.goto 4, 3) := by decide +kernel
theorem dX6_estimate_44 : decode cX6_estimate 44 = .ok (.iconst 1, 1) := by decide +kernel
theorem dX6_estimate_45 : decode cX6_estimate 45 = .ok (.invokevirtual 84, 3) := by decide +kernel
theorem dX6_estimate_48 : decode cX6_estimate 48 = .ok (.ifCond .eq 13, 3) := by decide +kernel
theorem dX6_estimate_51 : decode cX6_estimate 51 = .ok (.aload_n 0, 1) := by decide +kernel
theorem dX6_estimate_52 : decode cX6_estimate 52 = .ok (.iload_n 1, 1) := by decide +kernel
theorem dX6_estimate_53 : decode cX6_estimate 53 = .ok (.iload_n 2, 1) := by decide +kernel
theorem dX6_estimate_54 : decode cX6_estimate 54 = .ok (.iload_n 3, 1) := by decide +kernel
theorem dX6_estimate_55 : decode cX6_estimate 55 = .ok (.invokevirtual 62, 3) := by decide +kernel
theorem dX6_estimate_58 : decode cX6_estimate 58 = .ok (.goto 4, 3) := by decide +kernel
theorem dX6_estimate_61 : decode cX6_estimate 61 = .ok (.iconst 0, 1) := by decide +kernel
theorem dX6_estimate_62 : decode cX6_estimate 62 = .ok (.ireturn, 1) := by decide +kernel
set_option maxRecDepth 20000 in
theorem ggX6_share_X6_isItem : GoodIn wsX6_share wsX6_isItem := goodIn_r _ [6, 7, 8, 5, 9, 10, 11, 12, 13, 14, 15, 16, 17, 40, 41, 42, 43, 44, 45, 46, 47, 48] (by decide +kernel) (by decide +kernel)
set_option maxRecDepth 20000 in
theorem gX6_share_X6_isItem : GoodIn wsX6_share (wsV RX6 96 RX6 yX6_isItem wsX6_isItem) := goodIn_app (goodIn_of _ (by decide +kernel)) ggX6_share_X6_isItem
set_option maxRecDepth 20000 in
theorem ggX6_share_X6_estimateOf : GoodIn wsX6_share wsX6_estimateOf := goodIn_r _ [21, 22, 23, 24, 25, 5, 26, 27, 28, 29, 30, 31, 32, 33, 34, 35, 36, 37, 38, 39, 40, 41, 42, 43, 44, 45, 46, 47, 48] (by decide +kernel) (by decide +kernel)
set_option maxRecDepth 20000 in
theorem gX6_share_X6_estimateOf : GoodIn wsX6_share (wsV RX6 62 RX6 yX6_estimateOf wsX6_estimateOf) := goodIn_app (goodIn_of _ (by decide +kernel)) ggX6_share_X6_estimateOf
theorem dX6_share_0 : decode cX6_share 0 = .ok (.aload_n 0, 1) := by decide +kernel
theorem dX6_share_1 : decode cX6_share 1 = .ok (.iload_n 1, 1) := by decide +kernel
theorem dX6_share_2 : decode cX6_share 2 = .ok (.iload_n 2, 1) := by decide +kernel
theorem dX6_share_3 : decode cX6_share 3 = .ok (.invokevirtual 96, 3) := by decide +kernel
theorem dX6_share_6 : decode cX6_share 6 = .ok (.ifCond .eq 12, 3) := by decide +kernel
theorem dX6_share_9 : decode cX6_share 9 = .ok (.aload_n 0, 1) := by decide +kernel
theorem dX6_share_10 : decode cX6_share 10 = .ok (.getfield 13, 3) := by decide +kernel
theorem dX6_share_13 : decode cX6_share 13 = .ok (.iload_n 1, 1) := by decide +kernel
theorem dX6_share_14 : decode cX6_share 14 = .ok (.iaload, 1) := by decide +kernel
theorem dX6_share_15 : decode cX6_share 15 = .ok (.ifCond .ne 5, 3) := by decide +kernel
theorem dX6_share_18 : decode cX6_share 18 = .ok (.dconst 0, 1) := by decide +kernel
theorem dX6_share_19 : decode cX6_share 19 = .ok (.dreturn, 1) := by decide +kernel
theorem dX6_share_20 : decode cX6_share 20 = .ok (.aload_n 0, 1) := by decide +kernel
theorem dX6_share_21 : decode cX6_share 21 = .ok (.iload_n 1, 1) := by decide +kernel
theorem dX6_share_22 : decode cX6_share 22 = .ok (.iconst 0, 1) := by decide +kernel
theorem dX6_share_23 : decode cX6_share 23 = .ok (.iload_n 2, 1) := by decide +kernel
theorem dX6_share_24 : decode cX6_share 24 = .ok (.invokevirtual 62, 3) := by decide +kernel
theorem dX6_share_27 : decode cX6_share 27 = .ok (.i2d, 1) := by decide +kernel
theorem dX6_share_28 : decode cX6_share 28 = .ok (.aload_n 0, 1) := by decide +kernel
theorem dX6_share_29 : decode cX6_share 29 = .ok (.getfield 13, 3) := by decide +kernel
theorem dX6_share_32 : decode cX6_share 32 = .ok (.iload_n 1, 1) := by decide +kernel
theorem dX6_share_33 : decode cX6_share 33 = .ok (.iaload, 1) := by decide +kernel
theorem dX6_share_34 : decode cX6_share 34 = .ok (.i2d, 1) := by decide +kernel
theorem dX6_share_35 : decode cX6_share 35 = .ok (.ddiv, 1) := by decide +kernel
theorem dX6_share_36 : decode cX6_share 36 = .ok (.dreturn, 1) := by decide +kernel
theorem dX6_levelAt_0 : decode cX6_levelAt 0 = .ok (.bipush 6, 2) := by decide +kernel
theorem dX6_levelAt_2 : decode cX6_levelAt 2 = .ok (.istore_n 2, 1) := by decide +kernel
theorem dX6_levelAt_3 : decode cX6_levelAt 3 = .ok (.iload_n 0, 1) := by decide +kernel
theorem dX6_levelAt_4 : decode cX6_levelAt 4 = .ok (.iconst 1, 1) := by decide +kernel
theorem dX6_levelAt_5 : decode cX6_levelAt 5 = .ok (.iload_n 2, 1) := by decide +kernel
theorem dX6_levelAt_6 : decode cX6_levelAt 6 = .ok (.ishl, 1) := by decide +kernel
theorem dX6_levelAt_7 : decode cX6_levelAt 7 = .ok (.irem, 1) := by decide +kernel
theorem dX6_levelAt_8 : decode cX6_levelAt 8 = .ok (.ifCond .ne 14, 3) := by decide +kernel
theorem dX6_levelAt_11 : decode cX6_levelAt 11 = .ok (.iload_n 0, 1) := by decide +kernel
theorem dX6_levelAt_12 : decode cX6_levelAt 12 = .ok (.iconst 1, 1) := by decide +kernel
theorem dX6_levelAt_13 : decode cX6_levelAt 13 = .ok (.iload_n 2, 1) := by decide +kernel
theorem dX6_levelAt_14 : decode cX6_levelAt 14 = .ok (.ishl, 1) := by decide +kernel
theorem dX6_levelAt_15 : decode cX6_levelAt 15 = .ok (.iadd, 1) := by decide +kernel
theorem dX6_levelAt_16 : decode cX6_levelAt 16 = .ok (.iconst 1, 1) := by decide +kernel
theorem dX6_levelAt_17 : decode cX6_levelAt 17 = .ok (.isub, 1) := by decide +kernel
theorem dX6_levelAt_18 : decode cX6_levelAt 18 = .ok (.iload_n 1, 1) := by decide +kernel
theorem dX6_levelAt_19 : decode cX6_levelAt 19 = .ok (.if_icmp .le 9, 3) := by decide +kernel
theorem dX6_levelAt_22 : decode cX6_levelAt 22 = .ok (.iinc 2 (-1), 3) := by decide +kernel
theorem dX6_levelAt_25 : decode cX6_levelAt 25 = .ok (.goto (-22), 3) := by decide +kernel
theorem dX6_levelAt_28 : decode cX6_levelAt 28 = .ok (.iload_n 2, 1) := by decide +kernel
theorem dX6_levelAt_29 : decode cX6_levelAt 29 = .ok (.ireturn, 1) := by decide +kernel
set_option maxRecDepth 20000 in
theorem ggX6_parts_X6_isRange : GoodIn wsX6_parts wsX6_isRange := goodIn_r _ [5, 6, 7, 4, 8, 9, 10, 11, 12, 13, 17, 18, 19, 20, 21, 22, 23, 24, 25] (by decide +kernel) (by decide +kernel)
set_option maxRecDepth 20000 in
theorem gX6_parts_X6_isRange : GoodIn wsX6_parts (wsV RX6 99 RX6 yX6_isRange wsX6_isRange) := goodIn_app (goodIn_of _ (by decide +kernel)) ggX6_parts_X6_isRange
set_option maxRecDepth 20000 in
theorem ggX6_parts_X6_levelAt : GoodIn wsX6_parts wsX6_levelAt := goodIn_r _ [16] (by decide +kernel) (by decide +kernel)
set_option maxRecDepth 20000 in
theorem gX6_parts_X6_levelAt : GoodIn wsX6_parts (va_wsS RX6 103 yX6_levelAt wsX6_levelAt) := goodIn_app (goodIn_of _ (by decide +kernel)) ggX6_parts_X6_levelAt
theorem dX6_parts_0 : decode cX6_parts 0 = .ok (.aload_n 0, 1) := by decide +kernel
theorem dX6_parts_1 : decode cX6_parts 1 = .ok (.iconst 1, 1) := by decide +kernel
theorem dX6_parts_2 : decode cX6_parts 2 = .ok (.iload_n 1, 1) := by decide +kernel
theorem dX6_parts_3 : decode cX6_parts 3 = .ok (.iload_n 2, 1) := by decide +kernel
theorem dX6_parts_4 : decode cX6_parts 4 = .ok (.invokevirtual 99, 3) := by decide +kernel
theorem dX6_parts_7 : decode cX6_parts 7 = .ok (.ifCond .ne 5, 3) := by decide +kernel
theorem dX6_parts_10 : decode cX6_parts 10 = .ok (.iconst 0, 1) := by decide +kernel
theorem dX6_parts_11 : decode cX6_parts 11 = .ok (.ireturn, 1) := by decide +kernel
theorem dX6_parts_12 : decode cX6_parts 12 = .ok (.iconst 0, 1) := by decide +kernel
theorem dX6_parts_13 : decode cX6_parts 13 = .ok (.istore_n 3, 1) := by decide +kernel
theorem dX6_parts_14 : decode cX6_parts 14 = .ok (.iload_n 1, 1) := by decide +kernel
theorem dX6_parts_15 : decode cX6_parts 15 = .ok (.istore 4, 2) := by decide +kernel
theorem dX6_parts_17 : decode cX6_parts 17 = .ok (.iload 4, 2) := by decide +kernel
theorem dX6_parts_19 : decode cX6_parts 19 = .ok (.iload_n 2, 1) := by decide +kernel
theorem dX6_parts_20 : decode cX6_parts 20 = .ok (.if_icmp .gt 22, 3) := by decide +kernel
theorem dX6_parts_23 : decode cX6_parts 23 = .ok (.iinc 3 1, 3) := by decide +kernel
theorem dX6_parts_26 : decode cX6_parts 26 = .ok (.iload 4, 2) := by decide +kernel
theorem dX6_parts_28 : decode cX6_parts 28 = .ok (.iconst 1, 1) := by decide +kernel
theorem dX6_parts_29 : decode cX6_parts 29 = .ok (.iload 4, 2) := by decide +kernel
theorem dX6_parts_31 : decode cX6_parts 31 = .ok (.iload_n 2, 1) := by decide +kernel
theorem dX6_parts_32 : decode cX6_parts 32 = .ok (.invokestatic 103, 3) := by decide +kernel
theorem dX6_parts_35 : decode cX6_parts 35 = .ok (.ishl, 1) := by decide +kernel
theorem dX6_parts_36 : decode cX6_parts 36 = .ok (.iadd, 1) := by decide +kernel
theorem dX6_parts_37 : decode cX6_parts 37 = .ok (.istore 4, 2) := by decide +kernel
theorem dX6_parts_39 : decode cX6_parts 39 = .ok (.goto (-22), 3) := by decide +kernel
theorem dX6_parts_42 : decode cX6_parts 42 = .ok (.iload_n 3, 1) := by decide +kernel
theorem dX6_parts_43 : decode cX6_parts 43 = .ok (.ireturn, 1) := by decide +kernel
set_option maxRecDepth 20000 in
theorem ggX6_estimateOfRange_X6_isStream : GoodIn wsX6_estimateOfRange wsX6_isStream := goodIn_r _ [4, 5, 6, 3, 7] (by decide +kernel) (by decide +kernel)
set_option maxRecDepth 20000 in
theorem gX6_estimateOfRange_X6_isStream : GoodIn wsX6_estimateOfRange (va_wsS RX6 79 yX6_isStream wsX6_isStream) := goodIn_app (goodIn_of _ (by decide +kernel)) ggX6_estimateOfRange_X6_isStream
set_option maxRecDepth 20000 in
theorem ggX6_estimateOfRange_X6_isRange : GoodIn wsX6_estimateOfRange wsX6_isRange := goodIn_r _ [11, 5, 6, 3, 7, 12, 13, 14, 15, 16, 42, 43, 44, 45, 46, 47, 48, 49, 50] (by decide +kernel) (by decide +kernel)
set_option maxRecDepth 20000 in
theorem gX6_estimateOfRange_X6_isRange : GoodIn wsX6_estimateOfRange (wsV RX6 99 RX6 yX6_isRange wsX6_isRange) := goodIn_app (goodIn_of _ (by decide +kernel)) ggX6_estimateOfRange_X6_isRange
set_option maxRecDepth 20000 in
theorem ggX6_estimateOfRange_X6_levelAt : GoodIn wsX6_estimateOfRange wsX6_levelAt := goodIn_r _ [19] (by decide +kernel) (by decide +kernel)
set_option maxRecDepth 20000 in
theorem gX6_estimateOfRange_X6_levelAt : GoodIn wsX6_estimateOfRange (va_wsS RX6 103 yX6_levelAt wsX6_levelAt) := goodIn_app (goodIn_of _ (by decide +kernel)) ggX6_estimateOfRange_X6_levelAt
set_option maxRecDepth 20000 in
theorem ggX6_estimateOfRange_X6_estimateOf : GoodIn wsX6_estimateOfRange wsX6_estimateOf := goodIn_r _ [23, 24, 25, 26, 27, 3, 28, 29, 30, 31, 32, 33, 34, 35, 36, 37, 38, 39, 40, 41, 42, 43, 44, 45, 46, 47, 48, 49, 50] (by decide +kernel) (by decide +kernel)
set_option maxRecDepth 20000 in
theorem gX6_estimateOfRange_X6_estimateOf : GoodIn wsX6_estimateOfRange (wsV RX6 62 RX6 yX6_estimateOf wsX6_estimateOf) := goodIn_app (goodIn_of _ (by decide +kernel)) ggX6_estimateOfRange_X6_estimateOf
theorem dX6_estimateOfRange_0 : decode cX6_estimateOfRange 0 = .ok (.aload_n 0, 1) := by decide +kernel
theorem dX6_estimateOfRange_1 : decode cX6_estimateOfRange 1 = .ok (.iload_n 1, 1) := by decide +kernel
theorem dX6_estimateOfRange_2 : decode cX6_estimateOfRange 2 = .ok (.invokestatic 79, 3) := by decide +kernel
theorem dX6_estimateOfRange_5 : decode cX6_estimateOfRange 5 = .ok (.iload_n 2, 1) := by decide +kernel
theorem dX6_estimateOfRange_6 : decode cX6_estimateOfRange 6 = .ok (.iload_n 3, 1) := by decide +kernel
theorem dX6_estimateOfRange_7 : decode cX6_estimateOfRange 7 = .ok (.invokevirtual 99, 3) := by decide +kernel
theorem dX6_estimateOfRange_10 : decode cX6_estimateOfRange 10 = .ok (.ifCond .ne 5, 3) := by decide +kernel
theorem dX6_estimateOfRange_13 : decode cX6_estimateOfRange 13 = .ok (.iconst 0, 1) := by decide +kernel
theorem dX6_estimateOfRange_14 : decode cX6_estimateOfRange 14 = .ok (.ireturn, 1) := by decide +kernel
theorem dX6_estimateOfRange_15 : decode cX6_estimateOfRange 15 = .ok (.iconst 0, 1) := by decide +kernel
theorem dX6_estimateOfRange_16 : decode cX6_estimateOfRange 16 = .ok (.istore 4, 2) := by decide +kernel
theorem dX6_estimateOfRange_18 : decode cX6_estimateOfRange 18 = .ok (.iload_n 2, 1) := by decide +kernel
theorem dX6_estimateOfRange_19 : decode cX6_estimateOfRange 19 = .ok (.istore 5, 2) := by decide +kernel
theorem dX6_estimateOfRange_21 : decode cX6_estimateOfRange 21 = .ok (.iload 5, 2) := by decide +kernel
theorem dX6_estimateOfRange_23 : decode cX6_estimateOfRange 23 = .ok (.iload_n 3, 1) := by decide +kernel
theorem dX6_estimateOfRange_24 : decode cX6_estimateOfRange 24 = .ok (.if_icmp .gt 44, 3) := by decide +kernel
theorem dX6_estimateOfRange_27 : decode cX6_estimateOfRange 27 = .ok (.iload 5, 2) := by decide +kernel
theorem dX6_estimateOfRange_29 : decode cX6_estimateOfRange 29 = .ok (.iload_n 3, 1) := by decide +kernel
theorem dX6_estimateOfRange_30 : decode cX6_estimateOfRange 30 = .ok (.invokestatic 103, 3) := by decide +kernel
theorem dX6_estimateOfRange_33 : decode cX6_estimateOfRange 33 = .ok (.istore 6, 2) := by decide +kernel
theorem dX6_estimateOfRange_35 : decode cX6_estimateOfRange 35 = .ok (.iload 4, 2) := by decide +kernel
theorem dX6_estimateOfRange_37 : decode cX6_estimateOfRange 37 = .ok (.aload_n 0, 1) := by decide +kernel
theorem dX6_estimateOfRange_38 : decode cX6_estimateOfRange 38 = .ok (.iload_n 1, 1) := by decide +kernel
theorem dX6_estimateOfRange_39 : decode cX6_estimateOfRange 39 = .ok (.iload 6, 2) := by decide +kernel
theorem dX6_estimateOfRange_41 : decode cX6_estimateOfRange 41 = .ok (.iload 5, 2) := by decide +kernel
theorem dX6_estimateOfRange_43 : decode cX6_estimateOfRange 43 = .ok (.iload 6, 2) := by decide +kernel
theorem dX6_estimateOfRange_45 : decode cX6_estimateOfRange 45 = .ok (.ishr, 1) := by decide +kernel
theorem dX6_estimateOfRange_46 : decode cX6_estimateOfRange 46 = .ok (.invokevirtual 62, 3) := by decide +kernel
theorem dX6_estimateOfRange_49 : decode cX6_estimateOfRange 49 = .ok (.iadd, 1) := by decide +kernel
theorem dX6_estimateOfRange_50 : decode cX6_estimateOfRange 50 = .ok (.istore 4, 2) := by decide +kernel
theorem dX6_estimateOfRange_52 : decode cX6_estimateOfRange 52 = .ok (.iload 5, 2) := by decide +kernel
theorem dX6_estimateOfRange_54 : decode cX6_estimateOfRange 54 = .ok (.iconst 1, 1) := by decide +kernel
theorem dX6_estimateOfRange_55 : decode cX6_estimateOfRange 55 = .ok (.iload 5, 2) := by decide +kernel
theorem dX6_estimateOfRange_57 : decode cX6_estimateOfRange 57 = .ok (.iload_n 3, 1) := by decide +kernel
theorem dX6_estimateOfRange_58 : decode cX6_estimateOfRange 58 = .ok (.invokestatic 103, 3) := by decide +kernel
theorem dX6_estimateOfRange_61 : decode cX6_estimateOfRange 61 = .ok (.ishl, 1) := by decide +kernel
theorem dX6_estimateOfRange_62 : decode cX6_estimateOfRange 62 = .ok (.iadd, 1) := by decide +kernel
theorem dX6_estimateOfRange_63 : decode cX6_estimateOfRange 63 = .ok (.istore 5, 2) := by decide +kernel
theorem dX6_estimateOfRange_65 : decode cX6_estimateOfRange 65 = .ok (.goto (-44), 3) := by decide +kernel
theorem dX6_estimateOfRange_68 : decode cX6_estimateOfRange 68 = .ok (.iload 4, 2) := by decide +kernel
theorem dX6_estimateOfRange_70 : decode cX6_estimateOfRange 70 = .ok (.ireturn, 1) := by decide +kernel
set_option maxRecDepth 20000 in
theorem ggX6_isFrequent_X6_estimateOf : GoodIn wsX6_isFrequent wsX6_estimateOf := goodIn_r _ [5, 6, 7, 8, 9, 4, 10, 11, 12, 13, 14, 15, 16, 17, 18, 19, 20, 21, 22, 23, 24, 25, 26, 27, 28, 29, 30, 31, 32] (by decide +kernel) (by decide +kernel)
set_option maxRecDepth 20000 in
theorem gX6_isFrequent_X6_estimateOf : GoodIn wsX6_isFrequent (wsV RX6 62 RX6 yX6_estimateOf wsX6_estimateOf) := goodIn_app (goodIn_of _ (by decide +kernel)) ggX6_isFrequent_X6_estimateOf
theorem dX6_isFrequent_0 : decode cX6_isFrequent 0 = .ok (.iconst 1, 1) := by decide +kernel
theorem dX6_isFrequent_1 : decode cX6_isFrequent 1 = .ok (.istore 4, 2) := by decide +kernel
theorem dX6_isFrequent_3 : decode cX6_isFrequent 3 = .ok (.iconst 0, 1) := by decide +kernel
theorem dX6_isFrequent_4 : decode cX6_isFrequent 4 = .ok (.istore 5, 2) := by decide +kernel
theorem dX6_isFrequent_6 : decode cX6_isFrequent 6 = .ok (.iload 5, 2) := by decide +kernel
theorem dX6_isFrequent_8 : decode cX6_isFrequent 8 = .ok (.bipush 7, 2) := by decide +kernel
theorem dX6_isFrequent_10 : decode cX6_isFrequent 10 = .ok (.if_icmp .ge 36, 3) := by decide +kernel
theorem dX6_isFrequent_13 : decode cX6_isFrequent 13 = .ok (.iload 4, 2) := by decide +kernel
theorem dX6_isFrequent_15 : decode cX6_isFrequent 15 = .ok (.ifCond .eq 22, 3) := by decide +kernel
theorem dX6_isFrequent_18 : decode cX6_isFrequent 18 = .ok (.aload_n 0, 1) := by decide +kernel
theorem dX6_isFrequent_19 : decode cX6_isFrequent 19 = .ok (.iload_n 1, 1) := by decide +kernel
theorem dX6_isFrequent_20 : decode cX6_isFrequent 20 = .ok (.iload 5, 2) := by decide +kernel
theorem dX6_isFrequent_22 : decode cX6_isFrequent 22 = .ok (.iload_n 2, 1) := by decide +kernel
theorem dX6_isFrequent_23 : decode cX6_isFrequent 23 = .ok (.iload 5, 2) := by decide +kernel
theorem dX6_isFrequent_25 : decode cX6_isFrequent 25 = .ok (.ishr, 1) := by decide +kernel
theorem dX6_isFrequent_26 : decode cX6_isFrequent 26 = .ok (.invokevirtual 62, 3) := by decide +kernel
theorem dX6_isFrequent_29 : decode cX6_isFrequent 29 = .ok (.iload_n 3, 1) := by decide +kernel
theorem dX6_isFrequent_30 : decode cX6_isFrequent 30 = .ok (.if_icmp .lt 7, 3) := by decide +kernel
theorem dX6_isFrequent_33 : decode cX6_isFrequent 33 = .ok (.iconst 1, 1) := by decide +kernel
theorem dX6_isFrequent_34 : decode cX6_isFrequent 34 = .ok (.goto 4, 3) := by decide +kernel
theorem dX6_isFrequent_37 : decode cX6_isFrequent 37 = .ok (.iconst 0, 1) := by decide +kernel
theorem dX6_isFrequent_38 : decode cX6_isFrequent 38 = .ok (.istore 4, 2) := by decide +kernel
theorem dX6_isFrequent_40 : decode cX6_isFrequent 40 = .ok (.iinc 5 1, 3) := by decide +kernel
theorem dX6_isFrequent_43 : decode cX6_isFrequent 43 = .ok (.goto (-37), 3) := by decide +kernel
theorem dX6_isFrequent_46 : decode cX6_isFrequent 46 = .ok (.iload 4, 2) := by decide +kernel
theorem dX6_isFrequent_48 : decode cX6_isFrequent 48 = .ok (.ireturn, 1) := by decide +kernel
set_option maxRecDepth 20000 in
theorem ggX6_isLeast_X6_isStream : GoodIn wsX6_isLeast wsX6_isStream := goodIn_r _ [5, 6, 7, 4, 8] (by decide +kernel) (by decide +kernel)
set_option maxRecDepth 20000 in
theorem gX6_isLeast_X6_isStream : GoodIn wsX6_isLeast (va_wsS RX6 79 yX6_isStream wsX6_isStream) := goodIn_app (goodIn_of _ (by decide +kernel)) ggX6_isLeast_X6_isStream
set_option maxRecDepth 20000 in
theorem ggX6_isLeast_X6_holds : GoodIn wsX6_isLeast wsX6_holds := goodIn_r _ [12, 13, 14, 15, 16, 17, 18, 19, 20, 21, 22] (by decide +kernel) (by decide +kernel)
set_option maxRecDepth 20000 in
theorem gX6_isLeast_X6_holds : GoodIn wsX6_isLeast (wsV RX6 84 RX6 yX6_holds wsX6_holds) := goodIn_app (goodIn_of _ (by decide +kernel)) ggX6_isLeast_X6_holds
theorem dX6_isLeast_0 : decode cX6_isLeast 0 = .ok (.aload_n 0, 1) := by decide +kernel
theorem dX6_isLeast_1 : decode cX6_isLeast 1 = .ok (.iload_n 1, 1) := by decide +kernel
theorem dX6_isLeast_2 : decode cX6_isLeast 2 = .ok (.invokestatic 79, 3) := by decide +kernel
theorem dX6_isLeast_5 : decode cX6_isLeast 5 = .ok (.ifCond .ne 7, 3) := by decide +kernel
theorem dX6_isLeast_8 : decode cX6_isLeast 8 = .ok (.iconst 1, 1) := by decide +kernel
theorem dX6_isLeast_9 : decode cX6_isLeast 9 = .ok (.goto 19, 3) := by decide +kernel
theorem dX6_isLeast_12 : decode cX6_isLeast 12 = .ok (.iload_n 2, 1) := by decide +kernel
theorem dX6_isLeast_13 : decode cX6_isLeast 13 = .ok (.iconst 1, 1) := by decide +kernel
theorem dX6_isLeast_14 : decode cX6_isLeast 14 = .ok (.if_icmp .lt 13, 3) := by decide +kernel
theorem dX6_isLeast_17 : decode cX6_isLeast 17 = .ok (.iload_n 2, 1) := by decide +kernel
theorem dX6_isLeast_18 : decode cX6_isLeast 18 = .ok (.ldc 83, 2) := by decide +kernel
theorem dX6_isLeast_20 : decode cX6_isLeast 20 = .ok (.if_icmp .gt 7, 3) := by decide +kernel
theorem dX6_isLeast_23 : decode cX6_isLeast 23 = .ok (.iconst 0, 1) := by decide +kernel
theorem dX6_isLeast_24 : decode cX6_isLeast 24 = .ok (.goto 4, 3) := by decide +kernel
theorem dX6_isLeast_27 : decode cX6_isLeast 27 = .ok (.iconst 2, 1) := by decide +kernel
theorem dX6_isLeast_28 : decode cX6_isLeast 28 = .ok (.invokevirtual 84, 3) := by decide +kernel
theorem dX6_isLeast_31 : decode cX6_isLeast 31 = .ok (.ireturn, 1) := by decide +kernel
set_option maxRecDepth 20000 in
theorem ggX6_frequent_X6_isLeast : GoodIn wsX6_frequent wsX6_isLeast := goodIn_r _ [5, 6, 7, 8, 4, 9, 10, 11, 12, 13, 14, 15, 16, 17, 44, 45, 46, 47, 48, 49, 50, 51, 52] (by decide +kernel) (by decide +kernel)
set_option maxRecDepth 20000 in
theorem gX6_frequent_X6_isLeast : GoodIn wsX6_frequent (wsV RX6 106 RX6 yX6_isLeast wsX6_isLeast) := goodIn_app (goodIn_of _ (by decide +kernel)) ggX6_frequent_X6_isLeast
set_option maxRecDepth 20000 in
theorem ggX6_frequent_X6_isFrequent : GoodIn wsX6_frequent wsX6_isFrequent := goodIn_r _ [21, 22, 23, 24, 4, 25, 26, 27, 28, 29, 30, 31, 32, 33, 34, 35, 36, 37, 38, 39, 40, 41, 42, 43, 44, 45, 46, 47, 48, 49, 50, 51, 52] (by decide +kernel) (by decide +kernel)
set_option maxRecDepth 20000 in
theorem gX6_frequent_X6_isFrequent : GoodIn wsX6_frequent (wsV RX6 109 RX6 yX6_isFrequent wsX6_isFrequent) := goodIn_app (goodIn_of _ (by decide +kernel)) ggX6_frequent_X6_isFrequent
theorem dX6_frequent_0 : decode cX6_frequent 0 = .ok (.aload_n 0, 1) := by decide +kernel
theorem dX6_frequent_1 : decode cX6_frequent 1 = .ok (.iload_n 1, 1) := by decide +kernel
theorem dX6_frequent_2 : decode cX6_frequent 2 = .ok (.iload_n 2, 1) := by decide +kernel
theorem dX6_frequent_3 : decode cX6_frequent 3 = .ok (.invokevirtual 106, 3) := by decide +kernel
theorem dX6_frequent_6 : decode cX6_frequent 6 = .ok (.ifCond .ne 5, 3) := by decide +kernel
theorem dX6_frequent_9 : decode cX6_frequent 9 = .ok (.iconst 0, 1) := by decide +kernel
theorem dX6_frequent_10 : decode cX6_frequent 10 = .ok (.ireturn, 1) := by decide +kernel
theorem dX6_frequent_11 : decode cX6_frequent 11 = .ok (.iconst 0, 1) := by decide +kernel
theorem dX6_frequent_12 : decode cX6_frequent 12 = .ok (.istore_n 3, 1) := by decide +kernel
theorem dX6_frequent_13 : decode cX6_frequent 13 = .ok (.iconst 0, 1) := by decide +kernel
theorem dX6_frequent_14 : decode cX6_frequent 14 = .ok (.istore 4, 2) := by decide +kernel
theorem dX6_frequent_16 : decode cX6_frequent 16 = .ok (.iload 4, 2) := by decide +kernel
theorem dX6_frequent_18 : decode cX6_frequent 18 = .ok (.bipush 64, 2) := by decide +kernel
theorem dX6_frequent_20 : decode cX6_frequent 20 = .ok (.if_icmp .ge 28, 3) := by decide +kernel
theorem dX6_frequent_23 : decode cX6_frequent 23 = .ok (.iload_n 3, 1) := by decide +kernel
theorem dX6_frequent_24 : decode cX6_frequent 24 = .ok (.aload_n 0, 1) := by decide +kernel
theorem dX6_frequent_25 : decode cX6_frequent 25 = .ok (.iload_n 1, 1) := by decide +kernel
theorem dX6_frequent_26 : decode cX6_frequent 26 = .ok (.iload 4, 2) := by decide +kernel
theorem dX6_frequent_28 : decode cX6_frequent 28 = .ok (.iload_n 2, 1) := by decide +kernel
theorem dX6_frequent_29 : decode cX6_frequent 29 = .ok (.invokevirtual 109, 3) := by decide +kernel
theorem dX6_frequent_32 : decode cX6_frequent 32 = .ok (.ifCond .eq 7, 3) := by decide +kernel
theorem dX6_frequent_35 : decode cX6_frequent 35 = .ok (.iconst 1, 1) := by decide +kernel
theorem dX6_frequent_36 : decode cX6_frequent 36 = .ok (.goto 4, 3) := by decide +kernel
theorem dX6_frequent_39 : decode cX6_frequent 39 = .ok (.iconst 0, 1) := by decide +kernel
theorem dX6_frequent_40 : decode cX6_frequent 40 = .ok (.iadd, 1) := by decide +kernel
theorem dX6_frequent_41 : decode cX6_frequent 41 = .ok (.istore_n 3, 1) := by decide +kernel
theorem dX6_frequent_42 : decode cX6_frequent 42 = .ok (.iinc 4 1, 3) := by decide +kernel
theorem dX6_frequent_45 : decode cX6_frequent 45 = .ok (.goto (-29), 3) := by decide +kernel
theorem dX6_frequent_48 : decode cX6_frequent 48 = .ok (.iload_n 3, 1) := by decide +kernel
theorem dX6_frequent_49 : decode cX6_frequent 49 = .ok (.ireturn, 1) := by decide +kernel
set_option maxRecDepth 20000 in
theorem ggX6_frequentAt_X6_isLeast : GoodIn wsX6_frequentAt wsX6_isLeast := goodIn_r _ [5, 6, 7, 8, 4, 9, 10, 11, 12, 13, 14, 15, 16, 17, 44, 45, 46, 47, 48, 49, 50, 51, 52] (by decide +kernel) (by decide +kernel)
set_option maxRecDepth 20000 in
theorem gX6_frequentAt_X6_isLeast : GoodIn wsX6_frequentAt (wsV RX6 106 RX6 yX6_isLeast wsX6_isLeast) := goodIn_app (goodIn_of _ (by decide +kernel)) ggX6_frequentAt_X6_isLeast
set_option maxRecDepth 20000 in
theorem ggX6_frequentAt_X6_isFrequent : GoodIn wsX6_frequentAt wsX6_isFrequent := goodIn_r _ [21, 22, 23, 24, 4, 25, 26, 27, 28, 29, 30, 31, 32, 33, 34, 35, 36, 37, 38, 39, 40, 41, 42, 43, 44, 45, 46, 47, 48, 49, 50, 51, 52] (by decide +kernel) (by decide +kernel)
set_option maxRecDepth 20000 in
theorem gX6_frequentAt_X6_isFrequent : GoodIn wsX6_frequentAt (wsV RX6 109 RX6 yX6_isFrequent wsX6_isFrequent) := goodIn_app (goodIn_of _ (by decide +kernel)) ggX6_frequentAt_X6_isFrequent
set_option maxRecDepth 20000 in
theorem ggX6_frequentAt_X6_holds : GoodIn wsX6_frequentAt wsX6_holds := goodIn_r _ [16, 17, 44, 45, 46, 47, 48, 49, 50, 51, 52] (by decide +kernel) (by decide +kernel)
set_option maxRecDepth 20000 in
theorem gX6_frequentAt_X6_holds : GoodIn wsX6_frequentAt (wsV RX6 84 RX6 yX6_holds wsX6_holds) := goodIn_app (goodIn_of _ (by decide +kernel)) ggX6_frequentAt_X6_holds
theorem dX6_frequentAt_0 : decode cX6_frequentAt 0 = .ok (.aload_n 0, 1) := by decide +kernel
theorem dX6_frequentAt_1 : decode cX6_frequentAt 1 = .ok (.iload_n 1, 1) := by decide +kernel
theorem dX6_frequentAt_2 : decode cX6_frequentAt 2 = .ok (.iload_n 2, 1) := by decide +kernel
theorem dX6_frequentAt_3 : decode cX6_frequentAt 3 = .ok (.invokevirtual 106, 3) := by decide +kernel
theorem dX6_frequentAt_6 : decode cX6_frequentAt 6 = .ok (.ifCond .ne 5, 3) := by decide +kernel
theorem dX6_frequentAt_9 : decode cX6_frequentAt 9 = .ok (.iconst 0, 1) := by decide +kernel
theorem dX6_frequentAt_10 : decode cX6_frequentAt 10 = .ok (.ireturn, 1) := by decide +kernel
theorem dX6_frequentAt_11 : decode cX6_frequentAt 11 = .ok (.iconst 0, 1) := by decide +kernel
theorem dX6_frequentAt_12 : decode cX6_frequentAt 12 = .ok (.istore 4, 2) := by decide +kernel
theorem dX6_frequentAt_14 : decode cX6_frequentAt 14 = .ok (.iconst (-1), 1) := by decide +kernel
theorem dX6_frequentAt_15 : decode cX6_frequentAt 15 = .ok (.istore 5, 2) := by decide +kernel
theorem dX6_frequentAt_17 : decode cX6_frequentAt 17 = .ok (.iconst 0, 1) := by decide +kernel
theorem dX6_frequentAt_18 : decode cX6_frequentAt 18 = .ok (.istore 6, 2) := by decide +kernel
theorem dX6_frequentAt_20 : decode cX6_frequentAt 20 = .ok (.iload 6, 2) := by decide +kernel
theorem dX6_frequentAt_22 : decode cX6_frequentAt 22 = .ok (.bipush 64, 2) := by decide +kernel
theorem dX6_frequentAt_24 : decode cX6_frequentAt 24 = .ok (.if_icmp .ge 38, 3) := by decide +kernel
theorem dX6_frequentAt_27 : decode cX6_frequentAt 27 = .ok (.aload_n 0, 1) := by decide +kernel
theorem dX6_frequentAt_28 : decode cX6_frequentAt 28 = .ok (.iload_n 1, 1) := by decide +kernel
theorem dX6_frequentAt_29 : decode cX6_frequentAt 29 = .ok (.iload 6, 2) := by decide +kernel
theorem dX6_frequentAt_31 : decode cX6_frequentAt 31 = .ok (.iload_n 2, 1) := by decide +kernel
theorem dX6_frequentAt_32 : decode cX6_frequentAt 32 = .ok (.invokevirtual 109, 3) := by decide +kernel
theorem dX6_frequentAt_35 : decode cX6_frequentAt 35 = .ok (.ifCond .eq 21, 3) := by decide +kernel
theorem dX6_frequentAt_38 : decode cX6_frequentAt 38 = .ok (.iload 4, 2) := by decide +kernel
theorem dX6_frequentAt_40 : decode cX6_frequentAt 40 = .ok (.iload_n 3, 1) := by decide +kernel
theorem dX6_frequentAt_41 : decode cX6_frequentAt 41 = .ok (.if_icmp .ne 8, 3) := by decide +kernel
theorem dX6_frequentAt_44 : decode cX6_frequentAt 44 = .ok (.iload 6, 2) := by decide +kernel
theorem dX6_frequentAt_46 : decode cX6_frequentAt 46 = .ok (.goto 5, 3) := by decide +kernel
theorem dX6_frequentAt_49 : decode cX6_frequentAt 49 = .ok (.iload 5, 2) := by decide +kernel
theorem dX6_frequentAt_51 : decode cX6_frequentAt 51 = .ok (.istore 5, 2) := by decide +kernel
theorem dX6_frequentAt_53 : decode cX6_frequentAt 53 = .ok (.iinc 4 1, 3) := by decide +kernel
theorem dX6_frequentAt_56 : decode cX6_frequentAt 56 = .ok (.iinc 6 1, 3) := by decide +kernel
theorem dX6_frequentAt_59 : decode cX6_frequentAt 59 = .ok (.goto (-39), 3) := by decide +kernel
theorem dX6_frequentAt_62 : decode cX6_frequentAt 62 = .ok (.aload_n 0, 1) := by decide +kernel
theorem dX6_frequentAt_63 : decode cX6_frequentAt 63 = .ok (.iload 5, 2) := by decide +kernel
theorem dX6_frequentAt_65 : decode cX6_frequentAt 65 = .ok (.iconst (-1), 1) := by decide +kernel
theorem dX6_frequentAt_66 : decode cX6_frequentAt 66 = .ok (.if_icmp .ne 7, 3) := by decide +kernel
theorem dX6_frequentAt_69 : decode cX6_frequentAt 69 = .ok (.iconst 3, 1) := by decide +kernel
theorem dX6_frequentAt_70 : decode cX6_frequentAt 70 = .ok (.goto 4, 3) := by decide +kernel
theorem dX6_frequentAt_73 : decode cX6_frequentAt 73 = .ok (.iconst 0, 1) := by decide +kernel
theorem dX6_frequentAt_74 : decode cX6_frequentAt 74 = .ok (.invokevirtual 84, 3) := by decide +kernel
theorem dX6_frequentAt_77 : decode cX6_frequentAt 77 = .ok (.ifCond .eq 8, 3) := by decide +kernel
theorem dX6_frequentAt_80 : decode cX6_frequentAt 80 = .ok (.iload 5, 2) := by decide +kernel
theorem dX6_frequentAt_82 : decode cX6_frequentAt 82 = .ok (.goto 4, 3) := by decide +kernel
theorem dX6_frequentAt_85 : decode cX6_frequentAt 85 = .ok (.iconst 0, 1) := by decide +kernel
theorem dX6_frequentAt_86 : decode cX6_frequentAt 86 = .ok (.ireturn, 1) := by decide +kernel
set_option maxRecDepth 20000 in
theorem ggX6_itemOfRank_X6_isStream : GoodIn wsX6_itemOfRank wsX6_isStream := goodIn_r _ [5, 6, 7, 4, 8] (by decide +kernel) (by decide +kernel)
set_option maxRecDepth 20000 in
theorem gX6_itemOfRank_X6_isStream : GoodIn wsX6_itemOfRank (va_wsS RX6 79 yX6_isStream wsX6_isStream) := goodIn_app (goodIn_of _ (by decide +kernel)) ggX6_itemOfRank_X6_isStream
set_option maxRecDepth 20000 in
theorem ggX6_itemOfRank_X6_holds : GoodIn wsX6_itemOfRank wsX6_holds := goodIn_r _ [12, 13, 36, 37, 38, 39, 40, 41, 42, 43, 44] (by decide +kernel) (by decide +kernel)
set_option maxRecDepth 20000 in
theorem gX6_itemOfRank_X6_holds : GoodIn wsX6_itemOfRank (wsV RX6 84 RX6 yX6_holds wsX6_holds) := goodIn_app (goodIn_of _ (by decide +kernel)) ggX6_itemOfRank_X6_holds
set_option maxRecDepth 20000 in
theorem ggX6_itemOfRank_X6_estimateOf : GoodIn wsX6_itemOfRank wsX6_estimateOf := goodIn_r _ [17, 18, 19, 20, 21, 4, 22, 23, 24, 25, 26, 27, 28, 29, 30, 31, 32, 33, 34, 35, 36, 37, 38, 39, 40, 41, 42, 43, 44] (by decide +kernel) (by decide +kernel)
set_option maxRecDepth 20000 in
theorem gX6_itemOfRank_X6_estimateOf : GoodIn wsX6_itemOfRank (wsV RX6 62 RX6 yX6_estimateOf wsX6_estimateOf) := goodIn_app (goodIn_of _ (by decide +kernel)) ggX6_itemOfRank_X6_estimateOf
theorem dX6_itemOfRank_0 : decode cX6_itemOfRank 0 = .ok (.iload_n 1, 1) := by decide +kernel
theorem dX6_itemOfRank_1 : decode cX6_itemOfRank 1 = .ok (.invokestatic 79, 3) := by decide +kernel
theorem dX6_itemOfRank_4 : decode cX6_itemOfRank 4 = .ok (.istore_n 3, 1) := by decide +kernel
theorem dX6_itemOfRank_5 : decode cX6_itemOfRank 5 = .ok (.aload_n 0, 1) := by decide +kernel
theorem dX6_itemOfRank_6 : decode cX6_itemOfRank 6 = .ok (.iload_n 3, 1) := by decide +kernel
theorem dX6_itemOfRank_7 : decode cX6_itemOfRank 7 = .ok (.ifCond .ne 7, 3) := by decide +kernel
theorem dX6_itemOfRank_10 : decode cX6_itemOfRank 10 = .ok (.iconst 1, 1) := by decide +kernel
theorem dX6_itemOfRank_11 : decode cX6_itemOfRank 11 = .ok (.goto 23, 3) := by decide +kernel
theorem dX6_itemOfRank_14 : decode cX6_itemOfRank 14 = .ok (.iload_n 2, 1) := by decide +kernel
theorem dX6_itemOfRank_15 : decode cX6_itemOfRank 15 = .ok (.iconst 1, 1) := by decide +kernel
theorem dX6_itemOfRank_16 : decode cX6_itemOfRank 16 = .ok (.if_icmp .lt 13, 3) := by decide +kernel
theorem dX6_itemOfRank_19 : decode cX6_itemOfRank 19 = .ok (.iload_n 2, 1) := by decide +kernel
theorem dX6_itemOfRank_20 : decode cX6_itemOfRank 20 = .ok (.aload_n 0, 1) := by decide +kernel
theorem dX6_itemOfRank_21 : decode cX6_itemOfRank 21 = .ok (.getfield 13, 3) := by decide +kernel
theorem dX6_itemOfRank_24 : decode cX6_itemOfRank 24 = .ok (.iload_n 1, 1) := by decide +kernel
theorem dX6_itemOfRank_25 : decode cX6_itemOfRank 25 = .ok (.iaload, 1) := by decide +kernel
theorem dX6_itemOfRank_26 : decode cX6_itemOfRank 26 = .ok (.if_icmp .le 7, 3) := by decide +kernel
theorem dX6_itemOfRank_29 : decode cX6_itemOfRank 29 = .ok (.iconst 2, 1) := by decide +kernel
theorem dX6_itemOfRank_30 : decode cX6_itemOfRank 30 = .ok (.goto 4, 3) := by decide +kernel
theorem dX6_itemOfRank_33 : decode cX6_itemOfRank 33 = .ok (.iconst 0, 1) := by decide +kernel
theorem dX6_itemOfRank_34 : decode cX6_itemOfRank 34 = .ok (.invokevirtual 84, 3) := by decide +kernel
theorem dX6_itemOfRank_37 : decode cX6_itemOfRank 37 = .ok (.ifCond .ne 5, 3) := by decide +kernel
theorem dX6_itemOfRank_40 : decode cX6_itemOfRank 40 = .ok (.iconst 0, 1) := by decide +kernel
theorem dX6_itemOfRank_41 : decode cX6_itemOfRank 41 = .ok (.ireturn, 1) := by decide +kernel
theorem dX6_itemOfRank_42 : decode cX6_itemOfRank 42 = .ok (.iconst 0, 1) := by decide +kernel
theorem dX6_itemOfRank_43 : decode cX6_itemOfRank 43 = .ok (.istore 4, 2) := by decide +kernel
theorem dX6_itemOfRank_45 : decode cX6_itemOfRank 45 = .ok (.iload_n 2, 1) := by decide +kernel
theorem dX6_itemOfRank_46 : decode cX6_itemOfRank 46 = .ok (.istore 5, 2) := by decide +kernel
theorem dX6_itemOfRank_48 : decode cX6_itemOfRank 48 = .ok (.iconst 5, 1) := by decide +kernel
theorem dX6_itemOfRank_49 : decode cX6_itemOfRank 49 = .ok (.istore 6, 2) := by decide +kernel
theorem dX6_itemOfRank_51 : decode cX6_itemOfRank 51 = .ok (.iload 6, 2) := by decide +kernel
theorem dX6_itemOfRank_53 : decode cX6_itemOfRank 53 = .ok (.ifCond .lt 62, 3) := by decide +kernel
theorem dX6_itemOfRank_56 : decode cX6_itemOfRank 56 = .ok (.aload_n 0, 1) := by decide +kernel
theorem dX6_itemOfRank_57 : decode cX6_itemOfRank 57 = .ok (.iload_n 1, 1) := by decide +kernel
theorem dX6_itemOfRank_58 : decode cX6_itemOfRank 58 = .ok (.iload 6, 2) := by decide +kernel
theorem dX6_itemOfRank_60 : decode cX6_itemOfRank 60 = .ok (.iconst 2, 1) := by decide +kernel
theorem dX6_itemOfRank_61 : decode cX6_itemOfRank 61 = .ok (.iload 4, 2) := by decide +kernel
theorem dX6_itemOfRank_63 : decode cX6_itemOfRank 63 = .ok (.imul, 1) := by decide +kernel
theorem dX6_itemOfRank_64 : decode cX6_itemOfRank 64 = .ok (.invokevirtual 62, 3) := by decide +kernel
theorem dX6_itemOfRank_67 : decode cX6_itemOfRank 67 = .ok (.istore 7, 2) := by decide +kernel
theorem dX6_itemOfRank_69 : decode cX6_itemOfRank 69 = .ok (.iload 5, 2) := by decide +kernel
theorem dX6_itemOfRank_71 : decode cX6_itemOfRank 71 = .ok (.iload 7, 2) := by decide +kernel
theorem dX6_itemOfRank_73 : decode cX6_itemOfRank 73 = .ok (.if_icmp .gt 10, 3) := by decide +kernel
theorem dX6_itemOfRank_76 : decode cX6_itemOfRank 76 = .ok (.iconst 2, 1) := by decide +kernel
theorem dX6_itemOfRank_77 : decode cX6_itemOfRank 77 = .ok (.iload 4, 2) := by decide +kernel
theorem dX6_itemOfRank_79 : decode cX6_itemOfRank 79 = .ok (.imul, 1) := by decide +kernel
theorem dX6_itemOfRank_80 : decode cX6_itemOfRank 80 = .ok (.goto 9, 3) := by decide +kernel
theorem dX6_itemOfRank_83 : decode cX6_itemOfRank 83 = .ok (.iconst 2, 1) := by decide +kernel
theorem dX6_itemOfRank_84 : decode cX6_itemOfRank 84 = .ok (.iload 4, 2) := by decide +kernel
theorem dX6_itemOfRank_86 : decode cX6_itemOfRank 86 = .ok (.imul, 1) := by decide +kernel
theorem dX6_itemOfRank_87 : decode cX6_itemOfRank 87 = .ok (.iconst 1, 1) := by decide +kernel
theorem dX6_itemOfRank_88 : decode cX6_itemOfRank 88 = .ok (.iadd, 1) := by decide +kernel
theorem dX6_itemOfRank_89 : decode cX6_itemOfRank 89 = .ok (.istore 4, 2) := by decide +kernel
theorem dX6_itemOfRank_91 : decode cX6_itemOfRank 91 = .ok (.iload 5, 2) := by decide +kernel
theorem dX6_itemOfRank_93 : decode cX6_itemOfRank 93 = .ok (.iload 4, 2) := by decide +kernel
theorem dX6_itemOfRank_95 : decode cX6_itemOfRank 95 = .ok (.iconst 2, 1) := by decide +kernel
theorem dX6_itemOfRank_96 : decode cX6_itemOfRank 96 = .ok (.irem, 1) := by decide +kernel
theorem dX6_itemOfRank_97 : decode cX6_itemOfRank 97 = .ok (.ifCond .ne 7, 3) := by decide +kernel
theorem dX6_itemOfRank_100 : decode cX6_itemOfRank 100 = .ok (.iconst 0, 1) := by decide +kernel
theorem dX6_itemOfRank_101 : decode cX6_itemOfRank 101 = .ok (.goto 5, 3) := by decide +kernel
theorem dX6_itemOfRank_104 : decode cX6_itemOfRank 104 = .ok (.iload 7, 2) := by decide +kernel
theorem dX6_itemOfRank_106 : decode cX6_itemOfRank 106 = .ok (.isub, 1) := by decide +kernel
theorem dX6_itemOfRank_107 : decode cX6_itemOfRank 107 = .ok (.istore 5, 2) := by decide +kernel
theorem dX6_itemOfRank_109 : decode cX6_itemOfRank 109 = .ok (.iinc 6 (-1), 3) := by decide +kernel
theorem dX6_itemOfRank_112 : decode cX6_itemOfRank 112 = .ok (.goto (-61), 3) := by decide +kernel
theorem dX6_itemOfRank_115 : decode cX6_itemOfRank 115 = .ok (.iload 4, 2) := by decide +kernel
theorem dX6_itemOfRank_117 : decode cX6_itemOfRank 117 = .ok (.ireturn, 1) := by decide +kernel
set_option maxRecDepth 20000 in
theorem ggX6_signedColumn_X6_isIn : GoodIn wsX6_signedColumn wsX6_isIn := goodIn_r _ [4] (by decide +kernel) (by decide +kernel)
set_option maxRecDepth 20000 in
theorem gX6_signedColumn_X6_isIn : GoodIn wsX6_signedColumn (va_wsS RX6 39 yX6_isIn wsX6_isIn) := goodIn_app (goodIn_of _ (by decide +kernel)) ggX6_signedColumn_X6_isIn
set_option maxRecDepth 20000 in
theorem ggX6_signedColumn_X6_holds : GoodIn wsX6_signedColumn wsX6_holds := goodIn_r _ [8, 9, 13, 14, 15, 16, 17, 18, 19, 20, 21] (by decide +kernel) (by decide +kernel)
set_option maxRecDepth 20000 in
theorem gX6_signedColumn_X6_holds : GoodIn wsX6_signedColumn (wsV RX6 84 RX6 yX6_holds wsX6_holds) := goodIn_app (goodIn_of _ (by decide +kernel)) ggX6_signedColumn_X6_holds
set_option maxRecDepth 20000 in
theorem ggX6_signedColumn_X6_signedColumnOf : GoodIn wsX6_signedColumn wsX6_signedColumnOf := goodIn_r _ [12] (by decide +kernel) (by decide +kernel)
set_option maxRecDepth 20000 in
theorem gX6_signedColumn_X6_signedColumnOf : GoodIn wsX6_signedColumn (va_wsS RX6 113 yX6_signedColumnOf wsX6_signedColumnOf) := goodIn_app (goodIn_of _ (by decide +kernel)) ggX6_signedColumn_X6_signedColumnOf
theorem dX6_signedColumn_0 : decode cX6_signedColumn 0 = .ok (.aload_n 0, 1) := by decide +kernel
theorem dX6_signedColumn_1 : decode cX6_signedColumn 1 = .ok (.iload_n 1, 1) := by decide +kernel
theorem dX6_signedColumn_2 : decode cX6_signedColumn 2 = .ok (.iconst 5, 1) := by decide +kernel
theorem dX6_signedColumn_3 : decode cX6_signedColumn 3 = .ok (.invokestatic 39, 3) := by decide +kernel
theorem dX6_signedColumn_6 : decode cX6_signedColumn 6 = .ok (.ifCond .eq 16, 3) := by decide +kernel
theorem dX6_signedColumn_9 : decode cX6_signedColumn 9 = .ok (.iload_n 2, 1) := by decide +kernel
theorem dX6_signedColumn_10 : decode cX6_signedColumn 10 = .ok (.bipush 64, 2) := by decide +kernel
theorem dX6_signedColumn_12 : decode cX6_signedColumn 12 = .ok (.invokestatic 39, 3) := by decide +kernel
theorem dX6_signedColumn_15 : decode cX6_signedColumn 15 = .ok (.ifCond .eq 7, 3) := by decide +kernel
theorem dX6_signedColumn_18 : decode cX6_signedColumn 18 = .ok (.iconst 0, 1) := by decide +kernel
theorem dX6_signedColumn_19 : decode cX6_signedColumn 19 = .ok (.goto 4, 3) := by decide +kernel
theorem dX6_signedColumn_22 : decode cX6_signedColumn 22 = .ok (.iconst 1, 1) := by decide +kernel
theorem dX6_signedColumn_23 : decode cX6_signedColumn 23 = .ok (.invokevirtual 84, 3) := by decide +kernel
theorem dX6_signedColumn_26 : decode cX6_signedColumn 26 = .ok (.ifCond .eq 11, 3) := by decide +kernel
theorem dX6_signedColumn_29 : decode cX6_signedColumn 29 = .ok (.iload_n 1, 1) := by decide +kernel
theorem dX6_signedColumn_30 : decode cX6_signedColumn 30 = .ok (.iload_n 2, 1) := by decide +kernel
theorem dX6_signedColumn_31 : decode cX6_signedColumn 31 = .ok (.invokestatic 113, 3) := by decide +kernel
theorem dX6_signedColumn_34 : decode cX6_signedColumn 34 = .ok (.goto 4, 3) := by decide +kernel
theorem dX6_signedColumn_37 : decode cX6_signedColumn 37 = .ok (.iconst 0, 1) := by decide +kernel
theorem dX6_signedColumn_38 : decode cX6_signedColumn 38 = .ok (.ireturn, 1) := by decide +kernel
set_option maxRecDepth 20000 in
theorem ggX6_sign_X6_isIn : GoodIn wsX6_sign wsX6_isIn := goodIn_r _ [4] (by decide +kernel) (by decide +kernel)
set_option maxRecDepth 20000 in
theorem gX6_sign_X6_isIn : GoodIn wsX6_sign (va_wsS RX6 39 yX6_isIn wsX6_isIn) := goodIn_app (goodIn_of _ (by decide +kernel)) ggX6_sign_X6_isIn
set_option maxRecDepth 20000 in
theorem ggX6_sign_X6_holds : GoodIn wsX6_sign wsX6_holds := goodIn_r _ [8, 9, 13, 14, 15, 16, 17, 18, 19, 20, 21] (by decide +kernel) (by decide +kernel)
set_option maxRecDepth 20000 in
theorem gX6_sign_X6_holds : GoodIn wsX6_sign (wsV RX6 84 RX6 yX6_holds wsX6_holds) := goodIn_app (goodIn_of _ (by decide +kernel)) ggX6_sign_X6_holds
set_option maxRecDepth 20000 in
theorem ggX6_sign_X6_signOf : GoodIn wsX6_sign wsX6_signOf := goodIn_r _ [12] (by decide +kernel) (by decide +kernel)
set_option maxRecDepth 20000 in
theorem gX6_sign_X6_signOf : GoodIn wsX6_sign (va_wsS RX6 116 yX6_signOf wsX6_signOf) := goodIn_app (goodIn_of _ (by decide +kernel)) ggX6_sign_X6_signOf
theorem dX6_sign_0 : decode cX6_sign 0 = .ok (.aload_n 0, 1) := by decide +kernel
theorem dX6_sign_1 : decode cX6_sign 1 = .ok (.iload_n 1, 1) := by decide +kernel
theorem dX6_sign_2 : decode cX6_sign 2 = .ok (.iconst 5, 1) := by decide +kernel
theorem dX6_sign_3 : decode cX6_sign 3 = .ok (.invokestatic 39, 3) := by decide +kernel
theorem dX6_sign_6 : decode cX6_sign 6 = .ok (.ifCond .eq 16, 3) := by decide +kernel
theorem dX6_sign_9 : decode cX6_sign 9 = .ok (.iload_n 2, 1) := by decide +kernel
theorem dX6_sign_10 : decode cX6_sign 10 = .ok (.bipush 64, 2) := by decide +kernel
theorem dX6_sign_12 : decode cX6_sign 12 = .ok (.invokestatic 39, 3) := by decide +kernel
theorem dX6_sign_15 : decode cX6_sign 15 = .ok (.ifCond .eq 7, 3) := by decide +kernel
theorem dX6_sign_18 : decode cX6_sign 18 = .ok (.iconst 0, 1) := by decide +kernel
theorem dX6_sign_19 : decode cX6_sign 19 = .ok (.goto 4, 3) := by decide +kernel
theorem dX6_sign_22 : decode cX6_sign 22 = .ok (.iconst 1, 1) := by decide +kernel
theorem dX6_sign_23 : decode cX6_sign 23 = .ok (.invokevirtual 84, 3) := by decide +kernel
theorem dX6_sign_26 : decode cX6_sign 26 = .ok (.ifCond .eq 11, 3) := by decide +kernel
theorem dX6_sign_29 : decode cX6_sign 29 = .ok (.iload_n 1, 1) := by decide +kernel
theorem dX6_sign_30 : decode cX6_sign 30 = .ok (.iload_n 2, 1) := by decide +kernel
theorem dX6_sign_31 : decode cX6_sign 31 = .ok (.invokestatic 116, 3) := by decide +kernel
theorem dX6_sign_34 : decode cX6_sign 34 = .ok (.goto 4, 3) := by decide +kernel
theorem dX6_sign_37 : decode cX6_sign 37 = .ok (.iconst 0, 1) := by decide +kernel
theorem dX6_sign_38 : decode cX6_sign 38 = .ok (.ireturn, 1) := by decide +kernel
set_option maxRecDepth 20000 in
theorem ggX6_signedCellOf_X6_signedColumnOf : GoodIn wsX6_signedCellOf wsX6_signedColumnOf := goodIn_r _ [5] (by decide +kernel) (by decide +kernel)
set_option maxRecDepth 20000 in
theorem gX6_signedCellOf_X6_signedColumnOf : GoodIn wsX6_signedCellOf (va_wsS RX6 113 yX6_signedColumnOf wsX6_signedColumnOf) := goodIn_app (goodIn_of _ (by decide +kernel)) ggX6_signedCellOf_X6_signedColumnOf
set_option maxRecDepth 20000 in
theorem ggX6_signedCellOf_X6_signOf : GoodIn wsX6_signedCellOf wsX6_signOf := goodIn_r _ [8] (by decide +kernel) (by decide +kernel)
set_option maxRecDepth 20000 in
theorem gX6_signedCellOf_X6_signOf : GoodIn wsX6_signedCellOf (va_wsS RX6 116 yX6_signOf wsX6_signOf) := goodIn_app (goodIn_of _ (by decide +kernel)) ggX6_signedCellOf_X6_signOf
theorem dX6_signedCellOf_0 : decode cX6_signedCellOf 0 = .ok (.iconst 0, 1) := by decide +kernel
theorem dX6_signedCellOf_1 : decode cX6_signedCellOf 1 = .ok (.istore 4, 2) := by decide +kernel
theorem dX6_signedCellOf_3 : decode cX6_signedCellOf 3 = .ok (.iconst 0, 1) := by decide +kernel
theorem dX6_signedCellOf_4 : decode cX6_signedCellOf 4 = .ok (.istore 5, 2) := by decide +kernel
theorem dX6_signedCellOf_6 : decode cX6_signedCellOf 6 = .ok (.iload 5, 2) := by decide +kernel
theorem dX6_signedCellOf_8 : decode cX6_signedCellOf 8 = .ok (.bipush 64, 2) := by decide +kernel
theorem dX6_signedCellOf_10 : decode cX6_signedCellOf 10 = .ok (.if_icmp .ge 47, 3) := by decide +kernel
theorem dX6_signedCellOf_13 : decode cX6_signedCellOf 13 = .ok (.iload 4, 2) := by decide +kernel
theorem dX6_signedCellOf_15 : decode cX6_signedCellOf 15 = .ok (.iload_n 2, 1) := by decide +kernel
theorem dX6_signedCellOf_16 : decode cX6_signedCellOf 16 = .ok (.iload 5, 2) := by decide +kernel
theorem dX6_signedCellOf_18 : decode cX6_signedCellOf 18 = .ok (.invokestatic 113, 3) := by decide +kernel
theorem dX6_signedCellOf_21 : decode cX6_signedCellOf 21 = .ok (.iload_n 3, 1) := by decide +kernel
theorem dX6_signedCellOf_22 : decode cX6_signedCellOf 22 = .ok (.if_icmp .ne 25, 3) := by decide +kernel
theorem dX6_signedCellOf_25 : decode cX6_signedCellOf 25 = .ok (.iload_n 2, 1) := by decide +kernel
theorem dX6_signedCellOf_26 : decode cX6_signedCellOf 26 = .ok (.iload 5, 2) := by decide +kernel
theorem dX6_signedCellOf_28 : decode cX6_signedCellOf 28 = .ok (.invokestatic 116, 3) := by decide +kernel
theorem dX6_signedCellOf_31 : decode cX6_signedCellOf 31 = .ok (.aload_n 0, 1) := by decide +kernel
theorem dX6_signedCellOf_32 : decode cX6_signedCellOf 32 = .ok (.getfield 7, 3) := by decide +kernel
theorem dX6_signedCellOf_35 : decode cX6_signedCellOf 35 = .ok (.bipush 64, 2) := by decide +kernel
theorem dX6_signedCellOf_37 : decode cX6_signedCellOf 37 = .ok (.iload_n 1, 1) := by decide +kernel
theorem dX6_signedCellOf_38 : decode cX6_signedCellOf 38 = .ok (.imul, 1) := by decide +kernel
theorem dX6_signedCellOf_39 : decode cX6_signedCellOf 39 = .ok (.iload 5, 2) := by decide +kernel
theorem dX6_signedCellOf_41 : decode cX6_signedCellOf 41 = .ok (.iadd, 1) := by decide +kernel
theorem dX6_signedCellOf_42 : decode cX6_signedCellOf 42 = .ok (.iaload, 1) := by decide +kernel
theorem dX6_signedCellOf_43 : decode cX6_signedCellOf 43 = .ok (.imul, 1) := by decide +kernel
theorem dX6_signedCellOf_44 : decode cX6_signedCellOf 44 = .ok (.goto 4, 3) := by decide +kernel
theorem dX6_signedCellOf_47 : decode cX6_signedCellOf 47 = .ok (.iconst 0, 1) := by decide +kernel
theorem dX6_signedCellOf_48 : decode cX6_signedCellOf 48 = .ok (.iadd, 1) := by decide +kernel
theorem dX6_signedCellOf_49 : decode cX6_signedCellOf 49 = .ok (.istore 4, 2) := by decide +kernel
theorem dX6_signedCellOf_51 : decode cX6_signedCellOf 51 = .ok (.iinc 5 1, 3) := by decide +kernel
theorem dX6_signedCellOf_54 : decode cX6_signedCellOf 54 = .ok (.goto (-48), 3) := by decide +kernel
theorem dX6_signedCellOf_57 : decode cX6_signedCellOf 57 = .ok (.iload 4, 2) := by decide +kernel
theorem dX6_signedCellOf_59 : decode cX6_signedCellOf 59 = .ok (.ireturn, 1) := by decide +kernel
set_option maxRecDepth 20000 in
theorem ggX6_signedCell_X6_isStream : GoodIn wsX6_signedCell wsX6_isStream := goodIn_r _ [4, 5, 6, 3, 7] (by decide +kernel) (by decide +kernel)
set_option maxRecDepth 20000 in
theorem gX6_signedCell_X6_isStream : GoodIn wsX6_signedCell (va_wsS RX6 79 yX6_isStream wsX6_isStream) := goodIn_app (goodIn_of _ (by decide +kernel)) ggX6_signedCell_X6_isStream
set_option maxRecDepth 20000 in
theorem ggX6_signedCell_X6_isIn : GoodIn wsX6_signedCell wsX6_isIn := goodIn_r _ [7] (by decide +kernel) (by decide +kernel)
set_option maxRecDepth 20000 in
theorem gX6_signedCell_X6_isIn : GoodIn wsX6_signedCell (va_wsS RX6 39 yX6_isIn wsX6_isIn) := goodIn_app (goodIn_of _ (by decide +kernel)) ggX6_signedCell_X6_isIn
set_option maxRecDepth 20000 in
theorem ggX6_signedCell_X6_holds : GoodIn wsX6_signedCell wsX6_holds := goodIn_r _ [11, 12, 24, 25, 26, 27, 28, 29, 30, 31, 32] (by decide +kernel) (by decide +kernel)
set_option maxRecDepth 20000 in
theorem gX6_signedCell_X6_holds : GoodIn wsX6_signedCell (wsV RX6 84 RX6 yX6_holds wsX6_holds) := goodIn_app (goodIn_of _ (by decide +kernel)) ggX6_signedCell_X6_holds
set_option maxRecDepth 20000 in
theorem ggX6_signedCell_X6_signedCellOf : GoodIn wsX6_signedCell wsX6_signedCellOf := goodIn_r _ [16, 17, 18, 19, 3, 20, 21, 22, 23, 24, 25, 26, 27, 28, 29, 30, 31, 32] (by decide +kernel) (by decide +kernel)
set_option maxRecDepth 20000 in
theorem gX6_signedCell_X6_signedCellOf : GoodIn wsX6_signedCell (wsV RX6 119 RX6 yX6_signedCellOf wsX6_signedCellOf) := goodIn_app (goodIn_of _ (by decide +kernel)) ggX6_signedCell_X6_signedCellOf
theorem dX6_signedCell_0 : decode cX6_signedCell 0 = .ok (.iload_n 1, 1) := by decide +kernel
theorem dX6_signedCell_1 : decode cX6_signedCell 1 = .ok (.invokestatic 79, 3) := by decide +kernel
theorem dX6_signedCell_4 : decode cX6_signedCell 4 = .ok (.ifCond .eq 24, 3) := by decide +kernel
theorem dX6_signedCell_7 : decode cX6_signedCell 7 = .ok (.iload_n 2, 1) := by decide +kernel
theorem dX6_signedCell_8 : decode cX6_signedCell 8 = .ok (.iconst 5, 1) := by decide +kernel
theorem dX6_signedCell_9 : decode cX6_signedCell 9 = .ok (.invokestatic 39, 3) := by decide +kernel
theorem dX6_signedCell_12 : decode cX6_signedCell 12 = .ok (.ifCond .eq 16, 3) := by decide +kernel
theorem dX6_signedCell_15 : decode cX6_signedCell 15 = .ok (.iload_n 3, 1) := by decide +kernel
theorem dX6_signedCell_16 : decode cX6_signedCell 16 = .ok (.bipush 8, 2) := by decide +kernel
theorem dX6_signedCell_18 : decode cX6_signedCell 18 = .ok (.invokestatic 39, 3) := by decide +kernel
theorem dX6_signedCell_21 : decode cX6_signedCell 21 = .ok (.ifCond .eq 7, 3) := by decide +kernel
theorem dX6_signedCell_24 : decode cX6_signedCell 24 = .ok (.iconst 1, 1) := by decide +kernel
theorem dX6_signedCell_25 : decode cX6_signedCell 25 = .ok (.goto 4, 3) := by decide +kernel
theorem dX6_signedCell_28 : decode cX6_signedCell 28 = .ok (.iconst 0, 1) := by decide +kernel
theorem dX6_signedCell_29 : decode cX6_signedCell 29 = .ok (.istore 4, 2) := by decide +kernel
theorem dX6_signedCell_31 : decode cX6_signedCell 31 = .ok (.aload_n 0, 1) := by decide +kernel
theorem dX6_signedCell_32 : decode cX6_signedCell 32 = .ok (.iload 4, 2) := by decide +kernel
theorem dX6_signedCell_34 : decode cX6_signedCell 34 = .ok (.ifCond .eq 7, 3) := by decide +kernel
theorem dX6_signedCell_37 : decode cX6_signedCell 37 = .ok (.iconst 0, 1) := by decide +kernel
theorem dX6_signedCell_38 : decode cX6_signedCell 38 = .ok (.goto 4, 3) := by decide +kernel
theorem dX6_signedCell_41 : decode cX6_signedCell 41 = .ok (.iconst 1, 1) := by decide +kernel
theorem dX6_signedCell_42 : decode cX6_signedCell 42 = .ok (.invokevirtual 84, 3) := by decide +kernel
theorem dX6_signedCell_45 : decode cX6_signedCell 45 = .ok (.ifCond .eq 13, 3) := by decide +kernel
theorem dX6_signedCell_48 : decode cX6_signedCell 48 = .ok (.aload_n 0, 1) := by decide +kernel
theorem dX6_signedCell_49 : decode cX6_signedCell 49 = .ok (.iload_n 1, 1) := by decide +kernel
theorem dX6_signedCell_50 : decode cX6_signedCell 50 = .ok (.iload_n 2, 1) := by decide +kernel
theorem dX6_signedCell_51 : decode cX6_signedCell 51 = .ok (.iload_n 3, 1) := by decide +kernel
theorem dX6_signedCell_52 : decode cX6_signedCell 52 = .ok (.invokevirtual 119, 3) := by decide +kernel
theorem dX6_signedCell_55 : decode cX6_signedCell 55 = .ok (.goto 4, 3) := by decide +kernel
theorem dX6_signedCell_58 : decode cX6_signedCell 58 = .ok (.iconst 0, 1) := by decide +kernel
theorem dX6_signedCell_59 : decode cX6_signedCell 59 = .ok (.ireturn, 1) := by decide +kernel
theorem dX6_middle_0 : decode cX6_middle 0 = .ok (.lconst 0, 1) := by decide +kernel
theorem dX6_middle_1 : decode cX6_middle 1 = .ok (.lstore_n 1, 1) := by decide +kernel
theorem dX6_middle_2 : decode cX6_middle 2 = .ok (.iconst 0, 1) := by decide +kernel
theorem dX6_middle_3 : decode cX6_middle 3 = .ok (.istore_n 3, 1) := by decide +kernel
theorem dX6_middle_4 : decode cX6_middle 4 = .ok (.iload_n 3, 1) := by decide +kernel
theorem dX6_middle_5 : decode cX6_middle 5 = .ok (.iconst 5, 1) := by decide +kernel
theorem dX6_middle_6 : decode cX6_middle 6 = .ok (.if_icmp .ge 107, 3) := by decide +kernel
theorem dX6_middle_9 : decode cX6_middle 9 = .ok (.iconst 0, 1) := by decide +kernel
theorem dX6_middle_10 : decode cX6_middle 10 = .ok (.istore 4, 2) := by decide +kernel
theorem dX6_middle_12 : decode cX6_middle 12 = .ok (.iconst 0, 1) := by decide +kernel
theorem dX6_middle_13 : decode cX6_middle 13 = .ok (.istore 5, 2) := by decide +kernel
theorem dX6_middle_15 : decode cX6_middle 15 = .ok (.iconst 0, 1) := by decide +kernel
theorem dX6_middle_16 : decode cX6_middle 16 = .ok (.istore 6, 2) := by decide +kernel
theorem dX6_middle_18 : decode cX6_middle 18 = .ok (.iload 6, 2) := by decide +kernel
theorem dX6_middle_20 : decode cX6_middle 20 = .ok (.iconst 5, 1) := by decide +kernel
theorem dX6_middle_21 : decode cX6_middle 21 = .ok (.if_icmp .ge 63, 3) := by decide +kernel
theorem dX6_middle_24 : decode cX6_middle 24 = .ok (.iload 4, 2) := by decide +kernel
theorem dX6_middle_26 : decode cX6_middle 26 = .ok (.aload_n 0, 1) := by decide +kernel
theorem dX6_middle_27 : decode cX6_middle 27 = .ok (.getfield 31, 3) := by decide +kernel
theorem dX6_middle_30 : decode cX6_middle 30 = .ok (.iload 6, 2) := by decide +kernel
theorem dX6_middle_32 : decode cX6_middle 32 = .ok (.laload, 1) := by decide +kernel
theorem dX6_middle_33 : decode cX6_middle 33 = .ok (.aload_n 0, 1) := by decide +kernel
theorem dX6_middle_34 : decode cX6_middle 34 = .ok (.getfield 31, 3) := by decide +kernel
theorem dX6_middle_37 : decode cX6_middle 37 = .ok (.iload_n 3, 1) := by decide +kernel
theorem dX6_middle_38 : decode cX6_middle 38 = .ok (.laload, 1) := by decide +kernel
theorem dX6_middle_39 : decode cX6_middle 39 = .ok (.lcmp, 1) := by decide +kernel
theorem dX6_middle_40 : decode cX6_middle 40 = .ok (.ifCond .ge 7, 3) := by decide +kernel
theorem dX6_middle_43 : decode cX6_middle 43 = .ok (.iconst 1, 1) := by decide +kernel
theorem dX6_middle_44 : decode cX6_middle 44 = .ok (.goto 4, 3) := by decide +kernel
theorem dX6_middle_47 : decode cX6_middle 47 = .ok (.iconst 0, 1) := by decide +kernel
theorem dX6_middle_48 : decode cX6_middle 48 = .ok (.iadd, 1) := by decide +kernel
theorem dX6_middle_49 : decode cX6_middle 49 = .ok (.istore 4, 2) := by decide +kernel
theorem dX6_middle_51 : decode cX6_middle 51 = .ok (.iload 5, 2) := by decide +kernel
theorem dX6_middle_53 : decode cX6_middle 53 = .ok (.aload_n 0, 1) := by decide +kernel
theorem dX6_middle_54 : decode cX6_middle 54 = .ok (.getfield 31, 3) := by decide +kernel
theorem dX6_middle_57 : decode cX6_middle 57 = .ok (.iload 6, 2) := by decide +kernel
theorem dX6_middle_59 : decode cX6_middle 59 = .ok (.laload, 1) := by decide +kernel
theorem dX6_middle_60 : decode cX6_middle 60 = .ok (.aload_n 0, 1) := by decide +kernel
theorem dX6_middle_61 : decode cX6_middle 61 = .ok (.getfield 31, 3) := by decide +kernel
theorem dX6_middle_64 : decode cX6_middle 64 = .ok (.iload_n 3, 1) := by decide +kernel
theorem dX6_middle_65 : decode cX6_middle 65 = .ok (.laload, 1) := by decide +kernel
theorem dX6_middle_66 : decode cX6_middle 66 = .ok (.lcmp, 1) := by decide +kernel
theorem dX6_middle_67 : decode cX6_middle 67 = .ok (.ifCond .le 7, 3) := by decide +kernel
theorem dX6_middle_70 : decode cX6_middle 70 = .ok (.iconst 1, 1) := by decide +kernel
theorem dX6_middle_71 : decode cX6_middle 71 = .ok (.goto 4, 3) := by decide +kernel
theorem dX6_middle_74 : decode cX6_middle 74 = .ok (.iconst 0, 1) := by decide +kernel
theorem dX6_middle_75 : decode cX6_middle 75 = .ok (.iadd, 1) := by decide +kernel
theorem dX6_middle_76 : decode cX6_middle 76 = .ok (.istore 5, 2) := by decide +kernel
theorem dX6_middle_78 : decode cX6_middle 78 = .ok (.iinc 6 1, 3) := by decide +kernel
theorem dX6_middle_81 : decode cX6_middle 81 = .ok (.goto (-63), 3) := by decide +kernel
theorem dX6_middle_84 : decode cX6_middle 84 = .ok (.iload 4, 2) := by decide +kernel
theorem dX6_middle_86 : decode cX6_middle 86 = .ok (.iconst 2, 1) := by decide +kernel
theorem dX6_middle_87 : decode cX6_middle 87 = .ok (.if_icmp .gt 18, 3) := by decide +kernel
theorem dX6_middle_90 : decode cX6_middle 90 = .ok (.iload 5, 2) := by decide +kernel
theorem dX6_middle_92 : decode cX6_middle 92 = .ok (.iconst 2, 1) := by decide +kernel
theorem dX6_middle_93 : decode cX6_middle 93 = .ok (.if_icmp .gt 12, 3) := by decide +kernel
theorem dX6_middle_96 : decode cX6_middle 96 = .ok (.aload_n 0, 1) := by decide +kernel
theorem dX6_middle_97 : decode cX6_middle 97 = .ok (.getfield 31, 3) := by decide +kernel
theorem dX6_middle_100 : decode cX6_middle 100 = .ok (.iload_n 3, 1) := by decide +kernel
theorem dX6_middle_101 : decode cX6_middle 101 = .ok (.laload, 1) := by decide +kernel
theorem dX6_middle_102 : decode cX6_middle 102 = .ok (.goto 4, 3) := by decide +kernel
theorem dX6_middle_105 : decode cX6_middle 105 = .ok (.lload_n 1, 1) := by decide +kernel
theorem dX6_middle_106 : decode cX6_middle 106 = .ok (.lstore_n 1, 1) := by decide +kernel
theorem dX6_middle_107 : decode cX6_middle 107 = .ok (.iinc 3 1, 3) := by decide +kernel
theorem dX6_middle_110 : decode cX6_middle 110 = .ok (.goto (-106), 3) := by decide +kernel
theorem dX6_middle_113 : decode cX6_middle 113 = .ok (.lload_n 1, 1) := by decide +kernel
theorem dX6_middle_114 : decode cX6_middle 114 = .ok (.lreturn, 1) := by decide +kernel
set_option maxRecDepth 20000 in
theorem ggX6_signedEstimate_X6_isItem : GoodIn wsX6_signedEstimate wsX6_isItem := goodIn_r _ [6, 7, 8, 5, 9, 10, 11, 12, 13, 14, 15, 16, 17, 33, 34, 35, 36, 37, 38, 39, 40, 41] (by decide +kernel) (by decide +kernel)
set_option maxRecDepth 20000 in
theorem gX6_signedEstimate_X6_isItem : GoodIn wsX6_signedEstimate (wsV RX6 96 RX6 yX6_isItem wsX6_isItem) := goodIn_app (goodIn_of _ (by decide +kernel)) ggX6_signedEstimate_X6_isItem
set_option maxRecDepth 20000 in
theorem ggX6_signedEstimate_X6_signOf : GoodIn wsX6_signedEstimate wsX6_signOf := goodIn_r _ [20] (by decide +kernel) (by decide +kernel)
set_option maxRecDepth 20000 in
theorem gX6_signedEstimate_X6_signOf : GoodIn wsX6_signedEstimate (va_wsS RX6 116 yX6_signOf wsX6_signOf) := goodIn_app (goodIn_of _ (by decide +kernel)) ggX6_signedEstimate_X6_signOf
set_option maxRecDepth 20000 in
theorem ggX6_signedEstimate_X6_signedColumnOf : GoodIn wsX6_signedEstimate wsX6_signedColumnOf := goodIn_r _ [23] (by decide +kernel) (by decide +kernel)
set_option maxRecDepth 20000 in
theorem gX6_signedEstimate_X6_signedColumnOf : GoodIn wsX6_signedEstimate (va_wsS RX6 113 yX6_signedColumnOf wsX6_signedColumnOf) := goodIn_app (goodIn_of _ (by decide +kernel)) ggX6_signedEstimate_X6_signedColumnOf
set_option maxRecDepth 20000 in
theorem ggX6_signedEstimate_X6_signedCellOf : GoodIn wsX6_signedEstimate wsX6_signedCellOf := goodIn_r _ [27, 28, 21, 22, 5, 23, 18, 19, 20, 33, 34, 35, 36, 37, 38, 39, 40, 41] (by decide +kernel) (by decide +kernel)
set_option maxRecDepth 20000 in
theorem gX6_signedEstimate_X6_signedCellOf : GoodIn wsX6_signedEstimate (wsV RX6 119 RX6 yX6_signedCellOf wsX6_signedCellOf) := goodIn_app (goodIn_of _ (by decide +kernel)) ggX6_signedEstimate_X6_signedCellOf
set_option maxRecDepth 20000 in
theorem ggX6_signedEstimate_X6_middle : GoodIn wsX6_signedEstimate wsX6_middle := goodIn_r _ [32, 1, 33, 34, 35, 36, 37, 38, 39, 40, 41] (by decide +kernel) (by decide +kernel)
set_option maxRecDepth 20000 in
theorem gX6_signedEstimate_X6_middle : GoodIn wsX6_signedEstimate (wsV RX6 122 RX6 yX6_middle wsX6_middle) := goodIn_app (goodIn_of _ (by decide +kernel)) ggX6_signedEstimate_X6_middle
theorem dX6_signedEstimate_0 : decode cX6_signedEstimate 0 = .ok (.aload_n 0, 1) := by decide +kernel
theorem dX6_signedEstimate_1 : decode cX6_signedEstimate 1 = .ok (.iload_n 1, 1) := by decide +kernel
theorem dX6_signedEstimate_2 : decode cX6_signedEstimate 2 = .ok (.iload_n 2, 1) := by decide +kernel
theorem dX6_signedEstimate_3 : decode cX6_signedEstimate 3 = .ok (.invokevirtual 96, 3) := by decide +kernel
theorem dX6_signedEstimate_6 : decode cX6_signedEstimate 6 = .ok (.ifCond .ne 5, 3) := by decide +kernel
theorem dX6_signedEstimate_9 : decode cX6_signedEstimate 9 = .ok (.iconst 0, 1) := by decide +kernel
theorem dX6_signedEstimate_10 : decode cX6_signedEstimate 10 = .ok (.ireturn, 1) := by decide +kernel
theorem dX6_signedEstimate_11 : decode cX6_signedEstimate 11 = .ok (.iconst 0, 1) := by decide +kernel
theorem dX6_signedEstimate_12 : decode cX6_signedEstimate 12 = .ok (.istore_n 3, 1) := by decide +kernel
theorem dX6_signedEstimate_13 : decode cX6_signedEstimate 13 = .ok (.iload_n 3, 1) := by decide +kernel
theorem dX6_signedEstimate_14 : decode cX6_signedEstimate 14 = .ok (.iconst 5, 1) := by decide +kernel
theorem dX6_signedEstimate_15 : decode cX6_signedEstimate 15 = .ok (.if_icmp .ge 34, 3) := by decide +kernel
theorem dX6_signedEstimate_18 : decode cX6_signedEstimate 18 = .ok (.aload_n 0, 1) := by decide +kernel
theorem dX6_signedEstimate_19 : decode cX6_signedEstimate 19 = .ok (.getfield 31, 3) := by decide +kernel
theorem dX6_signedEstimate_22 : decode cX6_signedEstimate 22 = .ok (.iload_n 3, 1) := by decide +kernel
theorem dX6_signedEstimate_23 : decode cX6_signedEstimate 23 = .ok (.iload_n 3, 1) := by decide +kernel
theorem dX6_signedEstimate_24 : decode cX6_signedEstimate 24 = .ok (.iload_n 2, 1) := by decide +kernel
theorem dX6_signedEstimate_25 : decode cX6_signedEstimate 25 = .ok (.invokestatic 116, 3) := by decide +kernel
theorem dX6_signedEstimate_28 : decode cX6_signedEstimate 28 = .ok (.i2l, 1) := by decide +kernel
theorem dX6_signedEstimate_29 : decode cX6_signedEstimate 29 = .ok (.aload_n 0, 1) := by decide +kernel
theorem dX6_signedEstimate_30 : decode cX6_signedEstimate 30 = .ok (.iload_n 1, 1) := by decide +kernel
theorem dX6_signedEstimate_31 : decode cX6_signedEstimate 31 = .ok (.iload_n 3, 1) := by decide +kernel
theorem dX6_signedEstimate_32 : decode cX6_signedEstimate 32 = .ok (.iload_n 3, 1) := by decide +kernel
theorem dX6_signedEstimate_33 : decode cX6_signedEstimate 33 = .ok (.iload_n 2, 1) := by decide +kernel
theorem dX6_signedEstimate_34 : decode cX6_signedEstimate 34 = .ok (.invokestatic 113, 3) := by decide +kernel
theorem dX6_signedEstimate_37 : decode cX6_signedEstimate 37 = .ok (.invokevirtual 119, 3) := by decide +kernel
theorem dX6_signedEstimate_40 : decode cX6_signedEstimate 40 = .ok (.i2l, 1) := by decide +kernel
theorem dX6_signedEstimate_41 : decode cX6_signedEstimate 41 = .ok (.lmul, 1) := by decide +kernel
theorem dX6_signedEstimate_42 : decode cX6_signedEstimate 42 = .ok (.lastore, 1) := by decide +kernel
theorem dX6_signedEstimate_43 : decode cX6_signedEstimate 43 = .ok (.iinc 3 1, 3) := by decide +kernel
theorem dX6_signedEstimate_46 : decode cX6_signedEstimate 46 = .ok (.goto (-33), 3) := by decide +kernel
theorem dX6_signedEstimate_49 : decode cX6_signedEstimate 49 = .ok (.aload_n 0, 1) := by decide +kernel
theorem dX6_signedEstimate_50 : decode cX6_signedEstimate 50 = .ok (.invokevirtual 122, 3) := by decide +kernel
theorem dX6_signedEstimate_53 : decode cX6_signedEstimate 53 = .ok (.l2i, 1) := by decide +kernel
theorem dX6_signedEstimate_54 : decode cX6_signedEstimate 54 = .ok (.ireturn, 1) := by decide +kernel
set_option maxRecDepth 20000 in
theorem ggX6_signedProduct_X6_isStream : GoodIn wsX6_signedProduct wsX6_isStream := goodIn_r _ [5, 6, 7, 4, 8] (by decide +kernel) (by decide +kernel)
set_option maxRecDepth 20000 in
theorem gX6_signedProduct_X6_isStream : GoodIn wsX6_signedProduct (va_wsS RX6 79 yX6_isStream wsX6_isStream) := goodIn_app (goodIn_of _ (by decide +kernel)) ggX6_signedProduct_X6_isStream
set_option maxRecDepth 20000 in
theorem ggX6_signedProduct_X6_holds : GoodIn wsX6_signedProduct wsX6_holds := goodIn_r _ [12, 13, 29, 30, 31, 32, 33, 34, 35, 36, 37] (by decide +kernel) (by decide +kernel)
set_option maxRecDepth 20000 in
theorem gX6_signedProduct_X6_holds : GoodIn wsX6_signedProduct (wsV RX6 84 RX6 yX6_holds wsX6_holds) := goodIn_app (goodIn_of _ (by decide +kernel)) ggX6_signedProduct_X6_holds
set_option maxRecDepth 20000 in
theorem ggX6_signedProduct_X6_signedCellOf : GoodIn wsX6_signedProduct wsX6_signedCellOf := goodIn_r _ [17, 18, 19, 20, 4, 21, 22, 23, 24, 29, 30, 31, 32, 33, 34, 35, 36, 37] (by decide +kernel) (by decide +kernel)
set_option maxRecDepth 20000 in
theorem gX6_signedProduct_X6_signedCellOf : GoodIn wsX6_signedProduct (wsV RX6 119 RX6 yX6_signedCellOf wsX6_signedCellOf) := goodIn_app (goodIn_of _ (by decide +kernel)) ggX6_signedProduct_X6_signedCellOf
set_option maxRecDepth 20000 in
theorem ggX6_signedProduct_X6_middle : GoodIn wsX6_signedProduct wsX6_middle := goodIn_r _ [28, 1, 29, 30, 31, 32, 33, 34, 35, 36, 37] (by decide +kernel) (by decide +kernel)
set_option maxRecDepth 20000 in
theorem gX6_signedProduct_X6_middle : GoodIn wsX6_signedProduct (wsV RX6 122 RX6 yX6_middle wsX6_middle) := goodIn_app (goodIn_of _ (by decide +kernel)) ggX6_signedProduct_X6_middle
theorem dX6_signedProduct_0 : decode cX6_signedProduct 0 = .ok (.aload_n 0, 1) := by decide +kernel
theorem dX6_signedProduct_1 : decode cX6_signedProduct 1 = .ok (.iload_n 1, 1) := by decide +kernel
theorem dX6_signedProduct_2 : decode cX6_signedProduct 2 = .ok (.invokestatic 79, 3) := by decide +kernel
theorem dX6_signedProduct_5 : decode cX6_signedProduct 5 = .ok (.ifCond .eq 14, 3) := by decide +kernel
theorem dX6_signedProduct_8 : decode cX6_signedProduct 8 = .ok (.iload_n 2, 1) := by decide +kernel
theorem dX6_signedProduct_9 : decode cX6_signedProduct 9 = .ok (.invokestatic 79, 3) := by decide +kernel
theorem dX6_signedProduct_12 : decode cX6_signedProduct 12 = .ok (.ifCond .eq 7, 3) := by decide +kernel
theorem dX6_signedProduct_15 : decode cX6_signedProduct 15 = .ok (.iconst 0, 1) := by decide +kernel
theorem dX6_signedProduct_16 : decode cX6_signedProduct 16 = .ok (.goto 4, 3) := by decide +kernel
theorem dX6_signedProduct_19 : decode cX6_signedProduct 19 = .ok (.iconst 1, 1) := by decide +kernel
theorem dX6_signedProduct_20 : decode cX6_signedProduct 20 = .ok (.invokevirtual 84, 3) := by decide +kernel
theorem dX6_signedProduct_23 : decode cX6_signedProduct 23 = .ok (.ifCond .ne 5, 3) := by decide +kernel
theorem dX6_signedProduct_26 : decode cX6_signedProduct 26 = .ok (.lconst 0, 1) := by decide +kernel
theorem dX6_signedProduct_27 : decode cX6_signedProduct 27 = .ok (.lreturn, 1) := by decide +kernel
theorem dX6_signedProduct_28 : decode cX6_signedProduct 28 = .ok (.iconst 0, 1) := by decide +kernel
theorem dX6_signedProduct_29 : decode cX6_signedProduct 29 = .ok (.istore_n 3, 1) := by decide +kernel
theorem dX6_signedProduct_30 : decode cX6_signedProduct 30 = .ok (.iload_n 3, 1) := by decide +kernel
theorem dX6_signedProduct_31 : decode cX6_signedProduct 31 = .ok (.iconst 5, 1) := by decide +kernel
theorem dX6_signedProduct_32 : decode cX6_signedProduct 32 = .ok (.if_icmp .ge 60, 3) := by decide +kernel
theorem dX6_signedProduct_35 : decode cX6_signedProduct 35 = .ok (.aload_n 0, 1) := by decide +kernel
theorem dX6_signedProduct_36 : decode cX6_signedProduct 36 = .ok (.getfield 31, 3) := by decide +kernel
theorem dX6_signedProduct_39 : decode cX6_signedProduct 39 = .ok (.iload_n 3, 1) := by decide +kernel
theorem dX6_signedProduct_40 : decode cX6_signedProduct 40 = .ok (.lconst 0, 1) := by decide +kernel
theorem dX6_signedProduct_41 : decode cX6_signedProduct 41 = .ok (.lastore, 1) := by decide +kernel
theorem dX6_signedProduct_42 : decode cX6_signedProduct 42 = .ok (.iconst 0, 1) := by decide +kernel
theorem dX6_signedProduct_43 : decode cX6_signedProduct 43 = .ok (.istore 4, 2) := by decide +kernel
theorem dX6_signedProduct_45 : decode cX6_signedProduct 45 = .ok (.iload 4, 2) := by decide +kernel
theorem dX6_signedProduct_47 : decode cX6_signedProduct 47 = .ok (.bipush 8, 2) := by decide +kernel
theorem dX6_signedProduct_49 : decode cX6_signedProduct 49 = .ok (.if_icmp .ge 37, 3) := by decide +kernel
theorem dX6_signedProduct_52 : decode cX6_signedProduct 52 = .ok (.aload_n 0, 1) := by decide +kernel
theorem dX6_signedProduct_53 : decode cX6_signedProduct 53 = .ok (.getfield 31, 3) := by decide +kernel
theorem dX6_signedProduct_56 : decode cX6_signedProduct 56 = .ok (.iload_n 3, 1) := by decide +kernel
theorem dX6_signedProduct_57 : decode cX6_signedProduct 57 = .ok (.dup2, 1) := by decide +kernel
theorem dX6_signedProduct_58 : decode cX6_signedProduct 58 = .ok (.laload, 1) := by decide +kernel
theorem dX6_signedProduct_59 : decode cX6_signedProduct 59 = .ok (.aload_n 0, 1) := by decide +kernel
theorem dX6_signedProduct_60 : decode cX6_signedProduct 60 = .ok (.iload_n 1, 1) := by decide +kernel
theorem dX6_signedProduct_61 : decode cX6_signedProduct 61 = .ok (.iload_n 3, 1) := by decide +kernel
theorem dX6_signedProduct_62 : decode cX6_signedProduct 62 = .ok (.iload 4, 2) := by decide +kernel
theorem dX6_signedProduct_64 : decode cX6_signedProduct 64 = .ok (.invokevirtual 119, 3) := by decide +kernel
theorem dX6_signedProduct_67 : decode cX6_signedProduct 67 = .ok (.i2l, 1) := by decide +kernel
theorem dX6_signedProduct_68 : decode cX6_signedProduct 68 = .ok (.aload_n 0, 1) := by decide +kernel
theorem dX6_signedProduct_69 : decode cX6_signedProduct 69 = .ok (.iload_n 2, 1) := by decide +kernel
theorem dX6_signedProduct_70 : decode cX6_signedProduct 70 = .ok (.iload_n 3, 1) := by decide +kernel
theorem dX6_signedProduct_71 : decode cX6_signedProduct 71 = .ok (.iload 4, 2) := by decide +kernel
theorem dX6_signedProduct_73 : decode cX6_signedProduct 73 = .ok (.invokevirtual 119, 3) := by decide +kernel
theorem dX6_signedProduct_76 : decode cX6_signedProduct 76 = .ok (.i2l, 1) := by decide +kernel
theorem dX6_signedProduct_77 : decode cX6_signedProduct 77 = .ok (.lmul, 1) := by decide +kernel
theorem dX6_signedProduct_78 : decode cX6_signedProduct 78 = .ok (.ladd, 1) := by decide +kernel
theorem dX6_signedProduct_79 : decode cX6_signedProduct 79 = .ok (.lastore, 1) := by decide +kernel
theorem dX6_signedProduct_80 : decode cX6_signedProduct 80 = .ok (.iinc 4 1, 3) := by decide +kernel
theorem dX6_signedProduct_83 : decode cX6_signedProduct 83 = .ok (.goto (-38), 3) := by decide +kernel
theorem dX6_signedProduct_86 : decode cX6_signedProduct 86 = .ok (.iinc 3 1, 3) := by decide +kernel
theorem dX6_signedProduct_89 : decode cX6_signedProduct 89 = .ok (.goto (-59), 3) := by decide +kernel
theorem dX6_signedProduct_92 : decode cX6_signedProduct 92 = .ok (.aload_n 0, 1) := by decide +kernel
theorem dX6_signedProduct_93 : decode cX6_signedProduct 93 = .ok (.invokevirtual 122, 3) := by decide +kernel
theorem dX6_signedProduct_96 : decode cX6_signedProduct 96 = .ok (.lreturn, 1) := by decide +kernel
set_option maxRecDepth 20000 in
theorem ggX6_counters_X6_isStream : GoodIn wsX6_counters wsX6_isStream := goodIn_r _ [5, 6, 7, 4, 8] (by decide +kernel) (by decide +kernel)
set_option maxRecDepth 20000 in
theorem gX6_counters_X6_isStream : GoodIn wsX6_counters (va_wsS RX6 79 yX6_isStream wsX6_isStream) := goodIn_app (goodIn_of _ (by decide +kernel)) ggX6_counters_X6_isStream
set_option maxRecDepth 20000 in
theorem ggX6_counters_X6_holds : GoodIn wsX6_counters wsX6_holds := goodIn_r _ [12, 13, 14, 15, 16, 17, 18, 19, 20, 21, 22] (by decide +kernel) (by decide +kernel)
set_option maxRecDepth 20000 in
theorem gX6_counters_X6_holds : GoodIn wsX6_counters (wsV RX6 84 RX6 yX6_holds wsX6_holds) := goodIn_app (goodIn_of _ (by decide +kernel)) ggX6_counters_X6_holds
theorem dX6_counters_0 : decode cX6_counters 0 = .ok (.aload_n 0, 1) := by decide +kernel
theorem dX6_counters_1 : decode cX6_counters 1 = .ok (.iload_n 1, 1) := by decide +kernel
theorem dX6_counters_2 : decode cX6_counters 2 = .ok (.invokestatic 79, 3) := by decide +kernel
theorem dX6_counters_5 : decode cX6_counters 5 = .ok (.ifCond .eq 7, 3) := by decide +kernel
theorem dX6_counters_8 : decode cX6_counters 8 = .ok (.iconst 0, 1) := by decide +kernel
theorem dX6_counters_9 : decode cX6_counters 9 = .ok (.goto 4, 3) := by decide +kernel
theorem dX6_counters_12 : decode cX6_counters 12 = .ok (.iconst 1, 1) := by decide +kernel
theorem dX6_counters_13 : decode cX6_counters 13 = .ok (.invokevirtual 84, 3) := by decide +kernel
theorem dX6_counters_16 : decode cX6_counters 16 = .ok (.ifCond .eq 12, 3) := by decide +kernel
theorem dX6_counters_19 : decode cX6_counters 19 = .ok (.aload_n 0, 1) := by decide +kernel
theorem dX6_counters_20 : decode cX6_counters 20 = .ok (.getfield 19, 3) := by decide +kernel
theorem dX6_counters_23 : decode cX6_counters 23 = .ok (.iload_n 1, 1) := by decide +kernel
theorem dX6_counters_24 : decode cX6_counters 24 = .ok (.iaload, 1) := by decide +kernel
theorem dX6_counters_25 : decode cX6_counters 25 = .ok (.goto 4, 3) := by decide +kernel
theorem dX6_counters_28 : decode cX6_counters 28 = .ok (.iconst 0, 1) := by decide +kernel
theorem dX6_counters_29 : decode cX6_counters 29 = .ok (.ireturn, 1) := by decide +kernel
set_option maxRecDepth 20000 in
theorem ggX6_counterItem_X6_isStream : GoodIn wsX6_counterItem wsX6_isStream := goodIn_r _ [6, 7, 8, 5, 9] (by decide +kernel) (by decide +kernel)
set_option maxRecDepth 20000 in
theorem gX6_counterItem_X6_isStream : GoodIn wsX6_counterItem (va_wsS RX6 79 yX6_isStream wsX6_isStream) := goodIn_app (goodIn_of _ (by decide +kernel)) ggX6_counterItem_X6_isStream
set_option maxRecDepth 20000 in
theorem ggX6_counterItem_X6_holds : GoodIn wsX6_counterItem wsX6_holds := goodIn_r _ [13, 14, 15, 16, 17, 18, 19, 20, 21, 22, 23] (by decide +kernel) (by decide +kernel)
set_option maxRecDepth 20000 in
theorem gX6_counterItem_X6_holds : GoodIn wsX6_counterItem (wsV RX6 84 RX6 yX6_holds wsX6_holds) := goodIn_app (goodIn_of _ (by decide +kernel)) ggX6_counterItem_X6_holds
theorem dX6_counterItem_0 : decode cX6_counterItem 0 = .ok (.iload_n 1, 1) := by decide +kernel
theorem dX6_counterItem_1 : decode cX6_counterItem 1 = .ok (.invokestatic 79, 3) := by decide +kernel
theorem dX6_counterItem_4 : decode cX6_counterItem 4 = .ok (.ifCond .eq 21, 3) := by decide +kernel
theorem dX6_counterItem_7 : decode cX6_counterItem 7 = .ok (.iload_n 2, 1) := by decide +kernel
theorem dX6_counterItem_8 : decode cX6_counterItem 8 = .ok (.ifCond .lt 17, 3) := by decide +kernel
theorem dX6_counterItem_11 : decode cX6_counterItem 11 = .ok (.iload_n 2, 1) := by decide +kernel
theorem dX6_counterItem_12 : decode cX6_counterItem 12 = .ok (.aload_n 0, 1) := by decide +kernel
theorem dX6_counterItem_13 : decode cX6_counterItem 13 = .ok (.getfield 19, 3) := by decide +kernel
theorem dX6_counterItem_16 : decode cX6_counterItem 16 = .ok (.iload_n 1, 1) := by decide +kernel
theorem dX6_counterItem_17 : decode cX6_counterItem 17 = .ok (.iaload, 1) := by decide +kernel
theorem dX6_counterItem_18 : decode cX6_counterItem 18 = .ok (.if_icmp .ge 7, 3) := by decide +kernel
theorem dX6_counterItem_21 : decode cX6_counterItem 21 = .ok (.iconst 1, 1) := by decide +kernel
theorem dX6_counterItem_22 : decode cX6_counterItem 22 = .ok (.goto 4, 3) := by decide +kernel
theorem dX6_counterItem_25 : decode cX6_counterItem 25 = .ok (.iconst 0, 1) := by decide +kernel
theorem dX6_counterItem_26 : decode cX6_counterItem 26 = .ok (.istore_n 3, 1) := by decide +kernel
theorem dX6_counterItem_27 : decode cX6_counterItem 27 = .ok (.aload_n 0, 1) := by decide +kernel
theorem dX6_counterItem_28 : decode cX6_counterItem 28 = .ok (.iload_n 3, 1) := by decide +kernel
theorem dX6_counterItem_29 : decode cX6_counterItem 29 = .ok (.ifCond .eq 7, 3) := by decide +kernel
theorem dX6_counterItem_32 : decode cX6_counterItem 32 = .ok (.iconst 0, 1) := by decide +kernel
theorem dX6_counterItem_33 : decode cX6_counterItem 33 = .ok (.goto 4, 3) := by decide +kernel
theorem dX6_counterItem_36 : decode cX6_counterItem 36 = .ok (.iconst 1, 1) := by decide +kernel
theorem dX6_counterItem_37 : decode cX6_counterItem 37 = .ok (.invokevirtual 84, 3) := by decide +kernel
theorem dX6_counterItem_40 : decode cX6_counterItem 40 = .ok (.ifCond .eq 17, 3) := by decide +kernel
theorem dX6_counterItem_43 : decode cX6_counterItem 43 = .ok (.aload_n 0, 1) := by decide +kernel
theorem dX6_counterItem_44 : decode cX6_counterItem 44 = .ok (.getfield 22, 3) := by decide +kernel
theorem dX6_counterItem_47 : decode cX6_counterItem 47 = .ok (.bipush 8, 2) := by decide +kernel
theorem dX6_counterItem_49 : decode cX6_counterItem 49 = .ok (.iload_n 1, 1) := by decide +kernel
theorem dX6_counterItem_50 : decode cX6_counterItem 50 = .ok (.imul, 1) := by decide +kernel
theorem dX6_counterItem_51 : decode cX6_counterItem 51 = .ok (.iload_n 2, 1) := by decide +kernel
theorem dX6_counterItem_52 : decode cX6_counterItem 52 = .ok (.iadd, 1) := by decide +kernel
theorem dX6_counterItem_53 : decode cX6_counterItem 53 = .ok (.iaload, 1) := by decide +kernel
theorem dX6_counterItem_54 : decode cX6_counterItem 54 = .ok (.goto 4, 3) := by decide +kernel
theorem dX6_counterItem_57 : decode cX6_counterItem 57 = .ok (.iconst 0, 1) := by decide +kernel
theorem dX6_counterItem_58 : decode cX6_counterItem 58 = .ok (.ireturn, 1) := by decide +kernel
set_option maxRecDepth 20000 in
theorem ggX6_counterOf_X6_isItem : GoodIn wsX6_counterOf wsX6_isItem := goodIn_r _ [6, 7, 8, 5, 9, 10, 11, 12, 13, 14, 15, 16, 17, 24, 25, 26, 27, 28, 29, 30, 31, 32] (by decide +kernel) (by decide +kernel)
set_option maxRecDepth 20000 in
theorem gX6_counterOf_X6_isItem : GoodIn wsX6_counterOf (wsV RX6 96 RX6 yX6_isItem wsX6_isItem) := goodIn_app (goodIn_of _ (by decide +kernel)) ggX6_counterOf_X6_isItem
set_option maxRecDepth 20000 in
theorem ggX6_counterOf_X6_placeOfCounter : GoodIn wsX6_counterOf wsX6_placeOfCounter := goodIn_r _ [21, 22, 23, 24, 25, 26, 27, 28, 29, 30, 31, 32] (by decide +kernel) (by decide +kernel)
set_option maxRecDepth 20000 in
theorem gX6_counterOf_X6_placeOfCounter : GoodIn wsX6_counterOf (wsV RX6 65 RX6 yX6_placeOfCounter wsX6_placeOfCounter) := goodIn_app (goodIn_of _ (by decide +kernel)) ggX6_counterOf_X6_placeOfCounter
theorem dX6_counterOf_0 : decode cX6_counterOf 0 = .ok (.aload_n 0, 1) := by decide +kernel
theorem dX6_counterOf_1 : decode cX6_counterOf 1 = .ok (.iload_n 1, 1) := by decide +kernel
theorem dX6_counterOf_2 : decode cX6_counterOf 2 = .ok (.iload_n 2, 1) := by decide +kernel
theorem dX6_counterOf_3 : decode cX6_counterOf 3 = .ok (.invokevirtual 96, 3) := by decide +kernel
theorem dX6_counterOf_6 : decode cX6_counterOf 6 = .ok (.ifCond .ne 5, 3) := by decide +kernel
theorem dX6_counterOf_9 : decode cX6_counterOf 9 = .ok (.iconst 0, 1) := by decide +kernel
theorem dX6_counterOf_10 : decode cX6_counterOf 10 = .ok (.ireturn, 1) := by decide +kernel
theorem dX6_counterOf_11 : decode cX6_counterOf 11 = .ok (.aload_n 0, 1) := by decide +kernel
theorem dX6_counterOf_12 : decode cX6_counterOf 12 = .ok (.iload_n 1, 1) := by decide +kernel
theorem dX6_counterOf_13 : decode cX6_counterOf 13 = .ok (.iload_n 2, 1) := by decide +kernel
theorem dX6_counterOf_14 : decode cX6_counterOf 14 = .ok (.invokevirtual 65, 3) := by decide +kernel
theorem dX6_counterOf_17 : decode cX6_counterOf 17 = .ok (.istore_n 3, 1) := by decide +kernel
theorem dX6_counterOf_18 : decode cX6_counterOf 18 = .ok (.iload_n 3, 1) := by decide +kernel
theorem dX6_counterOf_19 : decode cX6_counterOf 19 = .ok (.iconst (-1), 1) := by decide +kernel
theorem dX6_counterOf_20 : decode cX6_counterOf 20 = .ok (.if_icmp .ne 7, 3) := by decide +kernel
theorem dX6_counterOf_23 : decode cX6_counterOf 23 = .ok (.iconst 0, 1) := by decide +kernel
theorem dX6_counterOf_24 : decode cX6_counterOf 24 = .ok (.goto 14, 3) := by decide +kernel
theorem dX6_counterOf_27 : decode cX6_counterOf 27 = .ok (.aload_n 0, 1) := by decide +kernel
theorem dX6_counterOf_28 : decode cX6_counterOf 28 = .ok (.getfield 25, 3) := by decide +kernel
theorem dX6_counterOf_31 : decode cX6_counterOf 31 = .ok (.bipush 8, 2) := by decide +kernel
theorem dX6_counterOf_33 : decode cX6_counterOf 33 = .ok (.iload_n 1, 1) := by decide +kernel
theorem dX6_counterOf_34 : decode cX6_counterOf 34 = .ok (.imul, 1) := by decide +kernel
theorem dX6_counterOf_35 : decode cX6_counterOf 35 = .ok (.iload_n 3, 1) := by decide +kernel
theorem dX6_counterOf_36 : decode cX6_counterOf 36 = .ok (.iadd, 1) := by decide +kernel
theorem dX6_counterOf_37 : decode cX6_counterOf 37 = .ok (.iaload, 1) := by decide +kernel
theorem dX6_counterOf_38 : decode cX6_counterOf 38 = .ok (.ireturn, 1) := by decide +kernel
set_option maxRecDepth 20000 in
theorem ggX6_taken_X6_isStream : GoodIn wsX6_taken wsX6_isStream := goodIn_r _ [5, 6, 7, 4, 8] (by decide +kernel) (by decide +kernel)
set_option maxRecDepth 20000 in
theorem gX6_taken_X6_isStream : GoodIn wsX6_taken (va_wsS RX6 79 yX6_isStream wsX6_isStream) := goodIn_app (goodIn_of _ (by decide +kernel)) ggX6_taken_X6_isStream
set_option maxRecDepth 20000 in
theorem ggX6_taken_X6_holds : GoodIn wsX6_taken wsX6_holds := goodIn_r _ [12, 13, 14, 15, 16, 17, 18, 19, 20, 21, 22] (by decide +kernel) (by decide +kernel)
set_option maxRecDepth 20000 in
theorem gX6_taken_X6_holds : GoodIn wsX6_taken (wsV RX6 84 RX6 yX6_holds wsX6_holds) := goodIn_app (goodIn_of _ (by decide +kernel)) ggX6_taken_X6_holds
theorem dX6_taken_0 : decode cX6_taken 0 = .ok (.aload_n 0, 1) := by decide +kernel
theorem dX6_taken_1 : decode cX6_taken 1 = .ok (.iload_n 1, 1) := by decide +kernel
theorem dX6_taken_2 : decode cX6_taken 2 = .ok (.invokestatic 79, 3) := by decide +kernel
theorem dX6_taken_5 : decode cX6_taken 5 = .ok (.ifCond .eq 7, 3) := by decide +kernel
theorem dX6_taken_8 : decode cX6_taken 8 = .ok (.iconst 0, 1) := by decide +kernel
theorem dX6_taken_9 : decode cX6_taken 9 = .ok (.goto 4, 3) := by decide +kernel
theorem dX6_taken_12 : decode cX6_taken 12 = .ok (.iconst 1, 1) := by decide +kernel
theorem dX6_taken_13 : decode cX6_taken 13 = .ok (.invokevirtual 84, 3) := by decide +kernel
theorem dX6_taken_16 : decode cX6_taken 16 = .ok (.ifCond .eq 12, 3) := by decide +kernel
theorem dX6_taken_19 : decode cX6_taken 19 = .ok (.aload_n 0, 1) := by decide +kernel
theorem dX6_taken_20 : decode cX6_taken 20 = .ok (.getfield 28, 3) := by decide +kernel
theorem dX6_taken_23 : decode cX6_taken 23 = .ok (.iload_n 1, 1) := by decide +kernel
theorem dX6_taken_24 : decode cX6_taken 24 = .ok (.iaload, 1) := by decide +kernel
theorem dX6_taken_25 : decode cX6_taken 25 = .ok (.goto 4, 3) := by decide +kernel
theorem dX6_taken_28 : decode cX6_taken 28 = .ok (.iconst 0, 1) := by decide +kernel
theorem dX6_taken_29 : decode cX6_taken 29 = .ok (.ireturn, 1) := by decide +kernel
set_option maxRecDepth 20000 in
theorem ggL_add_X5_add : GoodIn wsL_add wsX5_add := goodIn_ca (goodIn_ca (goodIn_ca (goodIn_r _ [8, 9, 10, 11, 12, 7, 13, 14, 15, 16, 17, 18, 19, 20, 21, 22, 23, 24, 25, 26, 27, 28, 29, 30, 31, 32, 33, 34, 35, 36, 37, 38, 39, 40, 41, 42, 43, 44, 45, 46, 47, 48, 49, 50, 51, 52, 53, 54, 55, 56, 57, 58, 59, 60, 61, 62, 63, 64, 65, 66, 67, 68, 69, 70, 71, 72, 73, 74, 75, 76, 77, 78, 79, 80, 81, 82, 83, 84, 85, 86, 87, 88, 89, 90, 91, 92, 93, 94, 95, 96, 97, 98, 99, 100, 101, 102, 103, 104, 105, 106, 107, 108, 109, 110, 111, 112, 113, 114, 115, 116, 117, 118, 119, 120, 121, 122, 123, 124, 125, 126, 127, 128] (by decide +kernel) (by decide +kernel)) (goodIn_sub (fun _ h => List.mem_cons_of_mem _ (List.mem_append_left _ (List.mem_append_left _ (List.mem_append_right _ h)))) (by decide +kernel))) (goodIn_sub (fun _ h => List.mem_cons_of_mem _ (List.mem_append_left _ (List.mem_append_right _ h))) (by decide +kernel))) (goodIn_sub (fun _ h => List.mem_cons_of_mem _ (List.mem_append_right _ h)) (by decide +kernel))
set_option maxRecDepth 20000 in
theorem gL_add_X5_add : GoodIn wsL_add (wsV RL 7 RX5 yX5_add wsX5_add) := goodIn_app (goodIn_of _ (by decide +kernel)) ggL_add_X5_add
theorem dL_add_0 : decode cL_add 0 = .ok (.aload 4, 2) := by decide +kernel
theorem dL_add_2 : decode cL_add 2 = .ok (.iconst 0, 1) := by decide +kernel
theorem dL_add_3 : decode cL_add 3 = .ok (.aload_n 0, 1) := by decide +kernel
theorem dL_add_4 : decode cL_add 4 = .ok (.iload_n 1, 1) := by decide +kernel
theorem dL_add_5 : decode cL_add 5 = .ok (.iload_n 2, 1) := by decide +kernel
theorem dL_add_6 : decode cL_add 6 = .ok (.iload_n 3, 1) := by decide +kernel
theorem dL_add_7 : decode cL_add 7 = .ok (.invokevirtual 7, 3) := by decide +kernel
theorem dL_add_10 : decode cL_add 10 = .ok (.i2l, 1) := by decide +kernel
theorem dL_add_11 : decode cL_add 11 = .ok (.lastore, 1) := by decide +kernel
theorem dL_add_12 : decode cL_add 12 = .ok (.goto 15, 3) := by decide +kernel
theorem dL_add_15 : decode cL_add 15 = .ok (.astore 5, 2) := by decide +kernel
theorem dL_add_17 : decode cL_add 17 = .ok (.iconst 1, 1) := by decide +kernel
theorem dL_add_18 : decode cL_add 18 = .ok (.ireturn, 1) := by decide +kernel
theorem dL_add_19 : decode cL_add 19 = .ok (.astore 5, 2) := by decide +kernel
theorem dL_add_21 : decode cL_add 21 = .ok (.iconst 2, 1) := by decide +kernel
theorem dL_add_22 : decode cL_add 22 = .ok (.ireturn, 1) := by decide +kernel
theorem dL_add_23 : decode cL_add 23 = .ok (.astore 5, 2) := by decide +kernel
theorem dL_add_25 : decode cL_add 25 = .ok (.iconst 3, 1) := by decide +kernel
theorem dL_add_26 : decode cL_add 26 = .ok (.ireturn, 1) := by decide +kernel
theorem dL_add_27 : decode cL_add 27 = .ok (.iconst 0, 1) := by decide +kernel
theorem dL_add_28 : decode cL_add 28 = .ok (.ireturn, 1) := by decide +kernel
set_option maxRecDepth 20000 in
theorem ggL_merge_X5_merge : GoodIn wsL_merge wsX5_merge := goodIn_ca (goodIn_ca (goodIn_ca (goodIn_r _ [8, 9, 10, 11, 12, 13, 14, 7, 15, 16, 17, 18, 19, 20, 21, 22, 23, 24, 25, 26, 27, 28, 29, 30, 31, 32, 33, 34, 35, 36, 37, 38, 39, 40, 41, 42, 43, 44, 45, 46, 47, 48, 49, 50, 51, 52, 53, 54, 55, 56, 57, 58, 59, 60, 61, 62, 63, 64, 65, 66, 67, 68, 69, 70, 71, 72, 73, 74, 75, 76, 77, 78, 79, 80, 81, 82, 83, 84, 85, 86, 87, 88, 89, 90, 91, 92, 93, 94, 95, 96] (by decide +kernel) (by decide +kernel)) (goodIn_sub (fun _ h => List.mem_cons_of_mem _ (List.mem_append_left _ (List.mem_append_left _ (List.mem_append_right _ h)))) (by decide +kernel))) (goodIn_sub (fun _ h => List.mem_cons_of_mem _ (List.mem_append_left _ (List.mem_append_right _ h))) (by decide +kernel))) (goodIn_sub (fun _ h => List.mem_cons_of_mem _ (List.mem_append_right _ h)) (by decide +kernel))
set_option maxRecDepth 20000 in
theorem gL_merge_X5_merge : GoodIn wsL_merge (wsV RL 19 RX5 yX5_merge wsX5_merge) := goodIn_app (goodIn_of _ (by decide +kernel)) ggL_merge_X5_merge
theorem dL_merge_0 : decode cL_merge 0 = .ok (.aload_n 3, 1) := by decide +kernel
theorem dL_merge_1 : decode cL_merge 1 = .ok (.iconst 0, 1) := by decide +kernel
theorem dL_merge_2 : decode cL_merge 2 = .ok (.aload_n 0, 1) := by decide +kernel
theorem dL_merge_3 : decode cL_merge 3 = .ok (.iload_n 1, 1) := by decide +kernel
theorem dL_merge_4 : decode cL_merge 4 = .ok (.iload_n 2, 1) := by decide +kernel
theorem dL_merge_5 : decode cL_merge 5 = .ok (.invokevirtual 19, 3) := by decide +kernel
theorem dL_merge_8 : decode cL_merge 8 = .ok (.i2l, 1) := by decide +kernel
theorem dL_merge_9 : decode cL_merge 9 = .ok (.lastore, 1) := by decide +kernel
theorem dL_merge_10 : decode cL_merge 10 = .ok (.goto 15, 3) := by decide +kernel
theorem dL_merge_13 : decode cL_merge 13 = .ok (.astore 4, 2) := by decide +kernel
theorem dL_merge_15 : decode cL_merge 15 = .ok (.iconst 1, 1) := by decide +kernel
theorem dL_merge_16 : decode cL_merge 16 = .ok (.ireturn, 1) := by decide +kernel
theorem dL_merge_17 : decode cL_merge 17 = .ok (.astore 4, 2) := by decide +kernel
theorem dL_merge_19 : decode cL_merge 19 = .ok (.iconst 2, 1) := by decide +kernel
theorem dL_merge_20 : decode cL_merge 20 = .ok (.ireturn, 1) := by decide +kernel
theorem dL_merge_21 : decode cL_merge 21 = .ok (.astore 4, 2) := by decide +kernel
theorem dL_merge_23 : decode cL_merge 23 = .ok (.iconst 3, 1) := by decide +kernel
theorem dL_merge_24 : decode cL_merge 24 = .ok (.ireturn, 1) := by decide +kernel
theorem dL_merge_25 : decode cL_merge 25 = .ok (.iconst 0, 1) := by decide +kernel
theorem dL_merge_26 : decode cL_merge 26 = .ok (.ireturn, 1) := by decide +kernel
set_option maxRecDepth 20000 in
theorem ggL_clear_X5_clear : GoodIn wsL_clear wsX5_clear := goodIn_ca (goodIn_r _ [6, 7, 8, 9, 10, 5, 11, 12, 13, 14, 15, 16, 17, 18, 19, 20, 21, 22, 23, 24, 25, 26, 27, 28, 29, 30, 31, 32, 33, 34, 35, 36, 37, 38, 39, 40, 41, 42, 43, 44, 45, 46, 47, 48, 49, 50, 51, 52, 53, 54, 55, 56, 57, 58, 59, 60, 61, 62, 63, 64, 65, 66, 67, 68, 69, 70] (by decide +kernel) (by decide +kernel)) (goodIn_sub (fun _ h => List.mem_cons_of_mem _ (List.mem_append_right _ h)) (by decide +kernel))
set_option maxRecDepth 20000 in
theorem gL_clear_X5_clear : GoodIn wsL_clear (wsV RL 23 RX5 yX5_clear wsX5_clear) := goodIn_app (goodIn_of _ (by decide +kernel)) ggL_clear_X5_clear
theorem dL_clear_0 : decode cL_clear 0 = .ok (.aload_n 2, 1) := by decide +kernel
theorem dL_clear_1 : decode cL_clear 1 = .ok (.iconst 0, 1) := by decide +kernel
theorem dL_clear_2 : decode cL_clear 2 = .ok (.aload_n 0, 1) := by decide +kernel
theorem dL_clear_3 : decode cL_clear 3 = .ok (.iload_n 1, 1) := by decide +kernel
theorem dL_clear_4 : decode cL_clear 4 = .ok (.invokevirtual 23, 3) := by decide +kernel
theorem dL_clear_7 : decode cL_clear 7 = .ok (.i2l, 1) := by decide +kernel
theorem dL_clear_8 : decode cL_clear 8 = .ok (.lastore, 1) := by decide +kernel
theorem dL_clear_9 : decode cL_clear 9 = .ok (.goto 6, 3) := by decide +kernel
theorem dL_clear_12 : decode cL_clear 12 = .ok (.astore_n 3, 1) := by decide +kernel
theorem dL_clear_13 : decode cL_clear 13 = .ok (.iconst 1, 1) := by decide +kernel
theorem dL_clear_14 : decode cL_clear 14 = .ok (.ireturn, 1) := by decide +kernel
theorem dL_clear_15 : decode cL_clear 15 = .ok (.iconst 0, 1) := by decide +kernel
theorem dL_clear_16 : decode cL_clear 16 = .ok (.ireturn, 1) := by decide +kernel
set_option maxRecDepth 20000 in
theorem ggL_total_X5_total : GoodIn wsL_total wsX5_total := goodIn_ca (goodIn_r _ [6, 7, 8, 9, 10, 5, 11, 12, 13, 14, 15, 16, 17, 18, 19, 20, 21, 22, 23, 24, 25] (by decide +kernel) (by decide +kernel)) (goodIn_sub (fun _ h => List.mem_cons_of_mem _ (List.mem_append_right _ h)) (by decide +kernel))
set_option maxRecDepth 20000 in
theorem gL_total_X5_total : GoodIn wsL_total (wsV RL 27 RX5 yX5_total wsX5_total) := goodIn_app (goodIn_of _ (by decide +kernel)) ggL_total_X5_total
theorem dL_total_0 : decode cL_total 0 = .ok (.aload_n 2, 1) := by decide +kernel
theorem dL_total_1 : decode cL_total 1 = .ok (.iconst 0, 1) := by decide +kernel
theorem dL_total_2 : decode cL_total 2 = .ok (.aload_n 0, 1) := by decide +kernel
theorem dL_total_3 : decode cL_total 3 = .ok (.iload_n 1, 1) := by decide +kernel
theorem dL_total_4 : decode cL_total 4 = .ok (.invokevirtual 27, 3) := by decide +kernel
theorem dL_total_7 : decode cL_total 7 = .ok (.i2l, 1) := by decide +kernel
theorem dL_total_8 : decode cL_total 8 = .ok (.lastore, 1) := by decide +kernel
theorem dL_total_9 : decode cL_total 9 = .ok (.goto 6, 3) := by decide +kernel
theorem dL_total_12 : decode cL_total 12 = .ok (.astore_n 3, 1) := by decide +kernel
theorem dL_total_13 : decode cL_total 13 = .ok (.iconst 1, 1) := by decide +kernel
theorem dL_total_14 : decode cL_total 14 = .ok (.ireturn, 1) := by decide +kernel
theorem dL_total_15 : decode cL_total 15 = .ok (.iconst 0, 1) := by decide +kernel
theorem dL_total_16 : decode cL_total 16 = .ok (.ireturn, 1) := by decide +kernel
set_option maxRecDepth 20000 in
theorem ggL_count_X5_count : GoodIn wsL_count wsX5_count := goodIn_ca (goodIn_r _ [6, 7, 8, 9, 10, 5, 11, 12, 13, 14, 15, 16, 17, 18, 19, 20, 21, 22, 23, 24, 25] (by decide +kernel) (by decide +kernel)) (goodIn_sub (fun _ h => List.mem_cons_of_mem _ (List.mem_append_right _ h)) (by decide +kernel))
set_option maxRecDepth 20000 in
theorem gL_count_X5_count : GoodIn wsL_count (wsV RL 30 RX5 yX5_count wsX5_count) := goodIn_app (goodIn_of _ (by decide +kernel)) ggL_count_X5_count
theorem dL_count_0 : decode cL_count 0 = .ok (.aload_n 3, 1) := by decide +kernel
theorem dL_count_1 : decode cL_count 1 = .ok (.iconst 0, 1) := by decide +kernel
theorem dL_count_2 : decode cL_count 2 = .ok (.aload_n 0, 1) := by decide +kernel
theorem dL_count_3 : decode cL_count 3 = .ok (.iload_n 1, 1) := by decide +kernel
theorem dL_count_4 : decode cL_count 4 = .ok (.iload_n 2, 1) := by decide +kernel
theorem dL_count_5 : decode cL_count 5 = .ok (.invokevirtual 30, 3) := by decide +kernel
theorem dL_count_8 : decode cL_count 8 = .ok (.i2l, 1) := by decide +kernel
theorem dL_count_9 : decode cL_count 9 = .ok (.lastore, 1) := by decide +kernel
theorem dL_count_10 : decode cL_count 10 = .ok (.goto 7, 3) := by decide +kernel
theorem dL_count_13 : decode cL_count 13 = .ok (.astore 4, 2) := by decide +kernel
theorem dL_count_15 : decode cL_count 15 = .ok (.iconst 1, 1) := by decide +kernel
theorem dL_count_16 : decode cL_count 16 = .ok (.ireturn, 1) := by decide +kernel
theorem dL_count_17 : decode cL_count 17 = .ok (.iconst 0, 1) := by decide +kernel
theorem dL_count_18 : decode cL_count 18 = .ok (.ireturn, 1) := by decide +kernel
set_option maxRecDepth 20000 in
theorem ggL_countOfRange_X5_countOfRange : GoodIn wsL_countOfRange wsX5_countOfRange := goodIn_ca (goodIn_ca (goodIn_r _ [7, 8, 9, 10, 11, 6, 12, 13, 14, 15, 16, 17, 18, 19, 20, 21, 22, 23, 24, 25, 26, 27, 28, 29, 30, 31] (by decide +kernel) (by decide +kernel)) (goodIn_sub (fun _ h => List.mem_cons_of_mem _ (List.mem_append_left _ (List.mem_append_right _ h))) (by decide +kernel))) (goodIn_sub (fun _ h => List.mem_cons_of_mem _ (List.mem_append_right _ h)) (by decide +kernel))
set_option maxRecDepth 20000 in
theorem gL_countOfRange_X5_countOfRange : GoodIn wsL_countOfRange (wsV RL 33 RX5 yX5_countOfRange wsX5_countOfRange) := goodIn_app (goodIn_of _ (by decide +kernel)) ggL_countOfRange_X5_countOfRange
theorem dL_countOfRange_0 : decode cL_countOfRange 0 = .ok (.aload 4, 2) := by decide +kernel
theorem dL_countOfRange_2 : decode cL_countOfRange 2 = .ok (.iconst 0, 1) := by decide +kernel
theorem dL_countOfRange_3 : decode cL_countOfRange 3 = .ok (.aload_n 0, 1) := by decide +kernel
theorem dL_countOfRange_4 : decode cL_countOfRange 4 = .ok (.iload_n 1, 1) := by decide +kernel
theorem dL_countOfRange_5 : decode cL_countOfRange 5 = .ok (.iload_n 2, 1) := by decide +kernel
theorem dL_countOfRange_6 : decode cL_countOfRange 6 = .ok (.iload_n 3, 1) := by decide +kernel
theorem dL_countOfRange_7 : decode cL_countOfRange 7 = .ok (.invokevirtual 33, 3) := by decide +kernel
theorem dL_countOfRange_10 : decode cL_countOfRange 10 = .ok (.i2l, 1) := by decide +kernel
theorem dL_countOfRange_11 : decode cL_countOfRange 11 = .ok (.lastore, 1) := by decide +kernel
theorem dL_countOfRange_12 : decode cL_countOfRange 12 = .ok (.goto 11, 3) := by decide +kernel
theorem dL_countOfRange_15 : decode cL_countOfRange 15 = .ok (.astore 5, 2) := by decide +kernel
theorem dL_countOfRange_17 : decode cL_countOfRange 17 = .ok (.iconst 1, 1) := by decide +kernel
theorem dL_countOfRange_18 : decode cL_countOfRange 18 = .ok (.ireturn, 1) := by decide +kernel
theorem dL_countOfRange_19 : decode cL_countOfRange 19 = .ok (.astore 5, 2) := by decide +kernel
theorem dL_countOfRange_21 : decode cL_countOfRange 21 = .ok (.iconst 2, 1) := by decide +kernel
theorem dL_countOfRange_22 : decode cL_countOfRange 22 = .ok (.ireturn, 1) := by decide +kernel
theorem dL_countOfRange_23 : decode cL_countOfRange 23 = .ok (.iconst 0, 1) := by decide +kernel
theorem dL_countOfRange_24 : decode cL_countOfRange 24 = .ok (.ireturn, 1) := by decide +kernel
set_option maxRecDepth 20000 in
theorem ggL_product_X5_product : GoodIn wsL_product wsX5_product := goodIn_ca (goodIn_r _ [6, 7, 8, 9, 10, 5, 11, 12, 13, 14, 15, 16, 17, 18, 19, 20, 21, 22, 23, 24, 25] (by decide +kernel) (by decide +kernel)) (goodIn_sub (fun _ h => List.mem_cons_of_mem _ (List.mem_append_right _ h)) (by decide +kernel))
set_option maxRecDepth 20000 in
theorem gL_product_X5_product : GoodIn wsL_product (wsV RL 36 RX5 yX5_product wsX5_product) := goodIn_app (goodIn_of _ (by decide +kernel)) ggL_product_X5_product
theorem dL_product_0 : decode cL_product 0 = .ok (.aload_n 3, 1) := by decide +kernel
theorem dL_product_1 : decode cL_product 1 = .ok (.iconst 0, 1) := by decide +kernel
theorem dL_product_2 : decode cL_product 2 = .ok (.aload_n 0, 1) := by decide +kernel
theorem dL_product_3 : decode cL_product 3 = .ok (.iload_n 1, 1) := by decide +kernel
theorem dL_product_4 : decode cL_product 4 = .ok (.iload_n 2, 1) := by decide +kernel
theorem dL_product_5 : decode cL_product 5 = .ok (.invokevirtual 36, 3) := by decide +kernel
theorem dL_product_8 : decode cL_product 8 = .ok (.lastore, 1) := by decide +kernel
theorem dL_product_9 : decode cL_product 9 = .ok (.goto 7, 3) := by decide +kernel
theorem dL_product_12 : decode cL_product 12 = .ok (.astore 4, 2) := by decide +kernel
theorem dL_product_14 : decode cL_product 14 = .ok (.iconst 1, 1) := by decide +kernel
theorem dL_product_15 : decode cL_product 15 = .ok (.ireturn, 1) := by decide +kernel
theorem dL_product_16 : decode cL_product 16 = .ok (.iconst 0, 1) := by decide +kernel
theorem dL_product_17 : decode cL_product 17 = .ok (.ireturn, 1) := by decide +kernel
set_option maxRecDepth 20000 in
theorem ggL_column_X5_column : GoodIn wsL_column wsX5_column := goodIn_ca (goodIn_r _ [6, 7, 8, 5, 9, 10, 11, 12, 13, 14, 15, 16, 17] (by decide +kernel) (by decide +kernel)) (goodIn_sub (fun _ h => List.mem_cons_of_mem _ (List.mem_append_right _ h)) (by decide +kernel))
set_option maxRecDepth 20000 in
theorem gL_column_X5_column : GoodIn wsL_column (wsV RL 40 RX5 yX5_column wsX5_column) := goodIn_app (goodIn_of _ (by decide +kernel)) ggL_column_X5_column
theorem dL_column_0 : decode cL_column 0 = .ok (.aload_n 3, 1) := by decide +kernel
theorem dL_column_1 : decode cL_column 1 = .ok (.iconst 0, 1) := by decide +kernel
theorem dL_column_2 : decode cL_column 2 = .ok (.aload_n 0, 1) := by decide +kernel
theorem dL_column_3 : decode cL_column 3 = .ok (.iload_n 1, 1) := by decide +kernel
theorem dL_column_4 : decode cL_column 4 = .ok (.iload_n 2, 1) := by decide +kernel
theorem dL_column_5 : decode cL_column 5 = .ok (.invokevirtual 40, 3) := by decide +kernel
theorem dL_column_8 : decode cL_column 8 = .ok (.i2l, 1) := by decide +kernel
theorem dL_column_9 : decode cL_column 9 = .ok (.lastore, 1) := by decide +kernel
theorem dL_column_10 : decode cL_column 10 = .ok (.goto 7, 3) := by decide +kernel
theorem dL_column_13 : decode cL_column 13 = .ok (.astore 4, 2) := by decide +kernel
theorem dL_column_15 : decode cL_column 15 = .ok (.iconst 1, 1) := by decide +kernel
theorem dL_column_16 : decode cL_column 16 = .ok (.ireturn, 1) := by decide +kernel
theorem dL_column_17 : decode cL_column 17 = .ok (.iconst 0, 1) := by decide +kernel
theorem dL_column_18 : decode cL_column 18 = .ok (.ireturn, 1) := by decide +kernel
set_option maxRecDepth 20000 in
theorem ggL_cell_X5_cell : GoodIn wsL_cell wsX5_cell := goodIn_ca (goodIn_r _ [6, 7, 8, 9, 10, 5, 11, 12, 13, 14, 15, 16, 17, 18, 19, 20, 21, 22, 23, 24, 25] (by decide +kernel) (by decide +kernel)) (goodIn_sub (fun _ h => List.mem_cons_of_mem _ (List.mem_append_right _ h)) (by decide +kernel))
set_option maxRecDepth 20000 in
theorem gL_cell_X5_cell : GoodIn wsL_cell (wsV RL 43 RX5 yX5_cell wsX5_cell) := goodIn_app (goodIn_of _ (by decide +kernel)) ggL_cell_X5_cell
