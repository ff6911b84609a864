theorem dL_areRows_0 : decode cL_areRows 0 = .ok (.iconst 1, 1) := by decide +kernel
theorem dL_areRows_1 : decode cL_areRows 1 = .ok (.istore_n 2, 1) := by decide +kernel
theorem dL_areRows_2 : decode cL_areRows 2 = .ok (.iconst 0, 1) := by decide +kernel
theorem dL_areRows_3 : decode cL_areRows 3 = .ok (.istore_n 3, 1) := by decide +kernel
theorem dL_areRows_4 : decode cL_areRows 4 = .ok (.iload_n 3, 1) := by decide +kernel
theorem dL_areRows_5 : decode cL_areRows 5 = .ok (.iconst 5, 1) := by decide +kernel
theorem dL_areRows_6 : decode cL_areRows 6 = .ok (.if_icmp .ge 97, 3) := by decide +kernel
theorem dL_areRows_9 : decode cL_areRows 9 = .ok (.iconst 0, 1) := by decide +kernel
theorem dL_areRows_10 : decode cL_areRows 10 = .ok (.istore 4, 2) := by decide +kernel
theorem dL_areRows_12 : decode cL_areRows 12 = .ok (.iconst 0, 1) := by decide +kernel
theorem dL_areRows_13 : decode cL_areRows 13 = .ok (.istore 5, 2) := by decide +kernel
theorem dL_areRows_15 : decode cL_areRows 15 = .ok (.iconst 0, 1) := by decide +kernel
theorem dL_areRows_16 : decode cL_areRows 16 = .ok (.istore 6, 2) := by decide +kernel
theorem dL_areRows_18 : decode cL_areRows 18 = .ok (.iload 6, 2) := by decide +kernel
theorem dL_areRows_20 : decode cL_areRows 20 = .ok (.bipush 8, 2) := by decide +kernel
theorem dL_areRows_22 : decode cL_areRows 22 = .ok (.if_icmp .ge 22, 3) := by decide +kernel
theorem dL_areRows_25 : decode cL_areRows 25 = .ok (.iload 4, 2) := by decide +kernel
theorem dL_areRows_27 : decode cL_areRows 27 = .ok (.aload_n 0, 1) := by decide +kernel
theorem dL_areRows_28 : decode cL_areRows 28 = .ok (.iload_n 1, 1) := by decide +kernel
theorem dL_areRows_29 : decode cL_areRows 29 = .ok (.iload_n 3, 1) := by decide +kernel
theorem dL_areRows_30 : decode cL_areRows 30 = .ok (.iload 6, 2) := by decide +kernel
theorem dL_areRows_32 : decode cL_areRows 32 = .ok (.invokevirtual 28, 3) := by decide +kernel
theorem dL_areRows_35 : decode cL_areRows 35 = .ok (.iadd, 1) := by decide +kernel
theorem dL_areRows_36 : decode cL_areRows 36 = .ok (.istore 4, 2) := by decide +kernel
theorem dL_areRows_38 : decode cL_areRows 38 = .ok (.iinc 6 1, 3) := by decide +kernel
theorem dL_areRows_41 : decode cL_areRows 41 = .ok (.goto (-23), 3) := by decide +kernel
theorem dL_areRows_44 : decode cL_areRows 44 = .ok (.iconst 0, 1) := by decide +kernel
theorem dL_areRows_45 : decode cL_areRows 45 = .ok (.istore 6, 2) := by decide +kernel
theorem dL_areRows_47 : decode cL_areRows 47 = .ok (.iload 6, 2) := by decide +kernel
theorem dL_areRows_49 : decode cL_areRows 49 = .ok (.bipush 64, 2) := by decide +kernel
theorem dL_areRows_51 : decode cL_areRows 51 = .ok (.if_icmp .ge 29, 3) := by decide +kernel
theorem dL_areRows_54 : decode cL_areRows 54 = .ok (.iload 5, 2) := by decide +kernel
theorem dL_areRows_56 : decode cL_areRows 56 = .ok (.aload_n 0, 1) := by decide +kernel
theorem dL_areRows_57 : decode cL_areRows 57 = .ok (.iload_n 3, 1) := by decide +kernel
theorem dL_areRows_58 : decode cL_areRows 58 = .ok (.iload 6, 2) := by decide +kernel
theorem dL_areRows_60 : decode cL_areRows 60 = .ok (.invokevirtual 34, 3) := by decide +kernel
theorem dL_areRows_63 : decode cL_areRows 63 = .ok (.aload_n 0, 1) := by decide +kernel
theorem dL_areRows_64 : decode cL_areRows 64 = .ok (.iload_n 1, 1) := by decide +kernel
theorem dL_areRows_65 : decode cL_areRows 65 = .ok (.iload 6, 2) := by decide +kernel
theorem dL_areRows_67 : decode cL_areRows 67 = .ok (.invokevirtual 17, 3) := by decide +kernel
theorem dL_areRows_70 : decode cL_areRows 70 = .ok (.imul, 1) := by decide +kernel
theorem dL_areRows_71 : decode cL_areRows 71 = .ok (.iadd, 1) := by decide +kernel
theorem dL_areRows_72 : decode cL_areRows 72 = .ok (.istore 5, 2) := by decide +kernel
theorem dL_areRows_74 : decode cL_areRows 74 = .ok (.iinc 6 1, 3) := by decide +kernel
theorem dL_areRows_77 : decode cL_areRows 77 = .ok (.goto (-30), 3) := by decide +kernel
theorem dL_areRows_80 : decode cL_areRows 80 = .ok (.iload_n 2, 1) := by decide +kernel
theorem dL_areRows_81 : decode cL_areRows 81 = .ok (.ifCond .eq 14, 3) := by decide +kernel
theorem dL_areRows_84 : decode cL_areRows 84 = .ok (.iload 4, 2) := by decide +kernel
theorem dL_areRows_86 : decode cL_areRows 86 = .ok (.iload 5, 2) := by decide +kernel
theorem dL_areRows_88 : decode cL_areRows 88 = .ok (.if_icmp .ne 7, 3) := by decide +kernel
theorem dL_areRows_91 : decode cL_areRows 91 = .ok (.iconst 1, 1) := by decide +kernel
theorem dL_areRows_92 : decode cL_areRows 92 = .ok (.goto 4, 3) := by decide +kernel
theorem dL_areRows_95 : decode cL_areRows 95 = .ok (.iconst 0, 1) := by decide +kernel
theorem dL_areRows_96 : decode cL_areRows 96 = .ok (.istore_n 2, 1) := by decide +kernel
theorem dL_areRows_97 : decode cL_areRows 97 = .ok (.iinc 3 1, 3) := by decide +kernel
theorem dL_areRows_100 : decode cL_areRows 100 = .ok (.goto (-96), 3) := by decide +kernel
theorem dL_areRows_103 : decode cL_areRows 103 = .ok (.iload_n 2, 1) := by decide +kernel
theorem dL_areRows_104 : decode cL_areRows 104 = .ok (.ireturn, 1) := by decide +kernel
set_option maxRecDepth 20000 in
theorem ggL_areAsked_X5_frequent : GoodIn wsL_areAsked wsX5_frequent := goodIn_ca (goodIn_ca (goodIn_r _ [5, 6, 7, 8, 9, 4, 10, 11, 12, 13, 14, 15, 16, 17, 18, 19, 20, 21, 22, 23, 24, 25, 26, 27, 28, 29, 30, 31, 32, 33, 34, 35, 36, 37, 38, 39, 40, 41, 42, 43, 44, 45, 46, 47, 48, 49, 50, 51, 52, 111, 112, 113, 114, 115, 116, 117] (by decide +kernel) (by decide +kernel)) (goodIn_sub (fun _ h => List.mem_cons_of_mem _ (List.mem_append_left _ (List.mem_append_left _ (List.mem_append_right _ h)))) (by decide +kernel))) (goodIn_sub (fun _ h => List.mem_cons_of_mem _ (List.mem_append_left _ (List.mem_append_right _ h))) (by decide +kernel))
set_option maxRecDepth 20000 in
theorem gL_areAsked_X5_frequent : GoodIn wsL_areAsked (wsV RL 73 RX5 yX5_frequent wsX5_frequent) := goodIn_app (goodIn_of _ (by decide +kernel)) ggL_areAsked_X5_frequent
set_option maxRecDepth 20000 in
theorem ggL_areAsked_X5_frequentAt : GoodIn wsL_areAsked wsX5_frequentAt := goodIn_ca (goodIn_ca (goodIn_ca (goodIn_r _ [56, 57, 58, 6, 7, 8, 9, 4, 10, 11, 12, 13, 14, 15, 16, 17, 18, 19, 20, 21, 22, 23, 24, 25, 26, 27, 28, 29, 30, 31, 32, 33, 34, 35, 36, 37, 38, 39, 40, 41, 42, 43, 44, 45, 46, 47, 48, 49, 50, 51, 52, 111, 112, 113, 114, 115, 116, 117] (by decide +kernel) (by decide +kernel)) (goodIn_sub (fun _ h => List.mem_cons_of_mem _ (List.mem_append_right _ h)) (by decide +kernel))) (goodIn_sub (fun _ h => List.mem_cons_of_mem _ (List.mem_append_left _ (List.mem_append_left _ (List.mem_append_right _ h)))) (by decide +kernel))) (goodIn_sub (fun _ h => List.mem_cons_of_mem _ (List.mem_append_left _ (List.mem_append_right _ h))) (by decide +kernel))
set_option maxRecDepth 20000 in
theorem gL_areAsked_X5_frequentAt : GoodIn wsL_areAsked (wsV RL 76 RX5 yX5_frequentAt wsX5_frequentAt) := goodIn_app (goodIn_of _ (by decide +kernel)) ggL_areAsked_X5_frequentAt
set_option maxRecDepth 20000 in
theorem ggL_areAsked_X5_count : GoodIn wsL_areAsked wsX5_count := goodIn_ca (goodIn_r _ [62, 7, 63, 8, 9, 4, 10, 11, 12, 64, 48, 49, 50, 51, 52, 111, 112, 113, 114, 115, 117] (by decide +kernel) (by decide +kernel)) (goodIn_sub (fun _ h => List.mem_cons_of_mem _ (List.mem_append_left _ (List.mem_append_left _ (List.mem_append_right _ h)))) (by decide +kernel))
set_option maxRecDepth 20000 in
theorem gL_areAsked_X5_count : GoodIn wsL_areAsked (wsV RL 17 RX5 yX5_count wsX5_count) := goodIn_app (goodIn_of _ (by decide +kernel)) ggL_areAsked_X5_count
set_option maxRecDepth 20000 in
theorem ggL_areAsked_X5_estimateOfRange : GoodIn wsL_areAsked wsX5_estimateOfRange := goodIn_ca (goodIn_ca (goodIn_r _ [68, 7, 8, 9, 4, 10, 11, 12, 69, 70, 71, 16, 17, 72, 73, 74, 75, 76, 77, 78, 24, 25, 21, 26, 27, 28, 29, 30, 31, 32, 33, 34, 35, 36, 37, 38, 39, 40, 41, 42, 43, 44, 45, 46, 47, 48, 49, 50, 51, 52, 111, 112, 113, 114, 115, 116, 117] (by decide +kernel) (by decide +kernel)) (goodIn_sub (fun _ h => List.mem_cons_of_mem _ (List.mem_append_left _ (List.mem_append_left _ (List.mem_append_right _ h)))) (by decide +kernel))) (goodIn_sub (fun _ h => List.mem_cons_of_mem _ (List.mem_append_left _ (List.mem_append_right _ h))) (by decide +kernel))
set_option maxRecDepth 20000 in
theorem gL_areAsked_X5_estimateOfRange : GoodIn wsL_areAsked (wsV RL 79 RX5 yX5_estimateOfRange wsX5_estimateOfRange) := goodIn_app (goodIn_of _ (by decide +kernel)) ggL_areAsked_X5_estimateOfRange
set_option maxRecDepth 20000 in
theorem ggL_areAsked_X5_countOfRange : GoodIn wsL_areAsked wsX5_countOfRange := goodIn_ca (goodIn_ca (goodIn_r _ [82, 7, 63, 8, 9, 4, 10, 11, 12, 69, 70, 71, 16, 17, 83, 84, 85, 50, 86, 52, 111, 112, 113, 114, 115, 117] (by decide +kernel) (by decide +kernel)) (goodIn_sub (fun _ h => List.mem_cons_of_mem _ (List.mem_append_left _ (List.mem_append_left _ (List.mem_append_right _ h)))) (by decide +kernel))) (goodIn_sub (fun _ h => List.mem_cons_of_mem _ (List.mem_append_left _ (List.mem_append_right _ h))) (by decide +kernel))
set_option maxRecDepth 20000 in
theorem gL_areAsked_X5_countOfRange : GoodIn wsL_areAsked (wsV RL 61 RX5 yX5_countOfRange wsX5_countOfRange) := goodIn_app (goodIn_of _ (by decide +kernel)) ggL_areAsked_X5_countOfRange
set_option maxRecDepth 20000 in
theorem ggL_areAsked_X5_parts : GoodIn wsL_areAsked wsX5_parts := goodIn_ca (goodIn_ca (goodIn_r _ [90, 69, 70, 4, 71, 16, 17, 8, 9, 10, 11, 12, 72, 73, 74, 75, 76, 77] (by decide +kernel) (by decide +kernel)) (goodIn_sub (fun _ h => List.mem_cons_of_mem _ (List.mem_append_left _ (List.mem_append_right _ h))) (by decide +kernel))) (goodIn_sub (fun _ h => List.mem_cons_of_mem _ (List.mem_append_left _ (List.mem_append_left _ (List.mem_append_right _ h)))) (by decide +kernel))
set_option maxRecDepth 20000 in
theorem gL_areAsked_X5_parts : GoodIn wsL_areAsked (wsV RL 82 RX5 yX5_parts wsX5_parts) := goodIn_app (goodIn_of _ (by decide +kernel)) ggL_areAsked_X5_parts
set_option maxRecDepth 20000 in
theorem ggL_areAsked_X5_total : GoodIn wsL_areAsked wsX5_total := goodIn_ca (goodIn_r _ [94, 7, 63, 8, 9, 4, 10, 11, 12, 95, 96, 97, 50, 98, 52, 111, 112, 113, 114, 115, 117] (by decide +kernel) (by decide +kernel)) (goodIn_sub (fun _ h => List.mem_cons_of_mem _ (List.mem_append_left _ (List.mem_append_left _ (List.mem_append_right _ h)))) (by decide +kernel))
set_option maxRecDepth 20000 in
theorem gL_areAsked_X5_total : GoodIn wsL_areAsked (wsV RL 10 RX5 yX5_total wsX5_total) := goodIn_app (goodIn_of _ (by decide +kernel)) ggL_areAsked_X5_total
set_option maxRecDepth 20000 in
theorem ggL_areAsked_X5_itemOfRank : GoodIn wsL_areAsked wsX5_itemOfRank := goodIn_ca (goodIn_ca (goodIn_r _ [102, 7, 63, 8, 9, 4, 10, 11, 12, 95, 96, 97, 50, 98, 52, 13, 14, 15, 16, 17, 78, 24, 25, 21, 26, 27, 28, 29, 30, 31, 32, 33, 34, 35, 36, 37, 38, 39, 40, 41, 42, 43, 44, 45, 46, 47, 48, 49, 51, 111, 112, 113, 114, 115, 117, 116] (by decide +kernel) (by decide +kernel)) (goodIn_sub (fun _ h => List.mem_cons_of_mem _ (List.mem_append_left _ (List.mem_append_left _ (List.mem_append_right _ h)))) (by decide +kernel))) (goodIn_sub (fun _ h => List.mem_cons_of_mem _ (List.mem_append_left _ (List.mem_append_right _ h))) (by decide +kernel))
set_option maxRecDepth 20000 in
theorem gL_areAsked_X5_itemOfRank : GoodIn wsL_areAsked (wsV RL 85 RX5 yX5_itemOfRank wsX5_itemOfRank) := goodIn_app (goodIn_of _ (by decide +kernel)) ggL_areAsked_X5_itemOfRank
set_option maxRecDepth 20000 in
theorem ggL_areAsked_X5_share : GoodIn wsL_areAsked wsX5_share := goodIn_ca (goodIn_r _ [106, 7, 63, 8, 9, 4, 10, 11, 12, 95, 96, 97, 50, 98, 52, 78, 24, 25, 21, 26, 27, 28, 29, 30, 31, 32, 33, 34, 35, 36, 37, 38, 39, 40, 41, 42, 43, 44, 45, 46, 47, 48, 49, 51, 111, 112, 113, 114, 115, 117, 116] (by decide +kernel) (by decide +kernel)) (goodIn_sub (fun _ h => List.mem_cons_of_mem _ (List.mem_append_left _ (List.mem_append_left _ (List.mem_append_right _ h)))) (by decide +kernel))
set_option maxRecDepth 20000 in
theorem gL_areAsked_X5_share : GoodIn wsL_areAsked (wsV RL 53 RX5 yX5_share wsX5_share) := goodIn_app (goodIn_of _ (by decide +kernel)) ggL_areAsked_X5_share
set_option maxRecDepth 20000 in
theorem ggL_areAsked_X5_estimate : GoodIn wsL_areAsked wsX5_estimate := goodIn_ca (goodIn_r _ [110, 7, 8, 9, 4, 10, 11, 12, 78, 24, 25, 21, 26, 27, 28, 29, 30, 31, 32, 33, 34, 35, 36, 37, 38, 39, 40, 41, 42, 43, 44, 45, 46, 47, 48, 49, 50, 51, 52, 111, 112, 113, 114, 115, 116, 117] (by decide +kernel) (by decide +kernel)) (goodIn_sub (fun _ h => List.mem_cons_of_mem _ (List.mem_append_left _ (List.mem_append_left _ (List.mem_append_right _ h)))) (by decide +kernel))
set_option maxRecDepth 20000 in
theorem gL_areAsked_X5_estimate : GoodIn wsL_areAsked (wsV RL 21 RX5 yX5_estimate wsX5_estimate) := goodIn_app (goodIn_of _ (by decide +kernel)) ggL_areAsked_X5_estimate
theorem dL_areAsked_0 : decode cL_areAsked 0 = .ok (.aload_n 0, 1) := by decide +kernel
theorem dL_areAsked_1 : decode cL_areAsked 1 = .ok (.iload_n 1, 1) := by decide +kernel
theorem dL_areAsked_2 : decode cL_areAsked 2 = .ok (.iload_n 2, 1) := by decide +kernel
theorem dL_areAsked_3 : decode cL_areAsked 3 = .ok (.invokevirtual 73, 3) := by decide +kernel
theorem dL_areAsked_6 : decode cL_areAsked 6 = .ok (.istore 5, 2) := by decide +kernel
theorem dL_areAsked_8 : decode cL_areAsked 8 = .ok (.iconst 0, 1) := by decide +kernel
theorem dL_areAsked_9 : decode cL_areAsked 9 = .ok (.istore 6, 2) := by decide +kernel
theorem dL_areAsked_11 : decode cL_areAsked 11 = .ok (.iconst 1, 1) := by decide +kernel
theorem dL_areAsked_12 : decode cL_areAsked 12 = .ok (.istore 7, 2) := by decide +kernel
theorem dL_areAsked_14 : decode cL_areAsked 14 = .ok (.iconst 0, 1) := by decide +kernel
theorem dL_areAsked_15 : decode cL_areAsked 15 = .ok (.istore 8, 2) := by decide +kernel
theorem dL_areAsked_17 : decode cL_areAsked 17 = .ok (.iload 8, 2) := by decide +kernel
theorem dL_areAsked_19 : decode cL_areAsked 19 = .ok (.bipush 64, 2) := by decide +kernel
theorem dL_areAsked_21 : decode cL_areAsked 21 = .ok (.if_icmp .ge 79, 3) := by decide +kernel
theorem dL_areAsked_24 : decode cL_areAsked 24 = .ok (.iload 7, 2) := by decide +kernel
theorem dL_areAsked_26 : decode cL_areAsked 26 = .ok (.ifCond .eq 74, 3) := by decide +kernel
theorem dL_areAsked_29 : decode cL_areAsked 29 = .ok (.iload 6, 2) := by decide +kernel
theorem dL_areAsked_31 : decode cL_areAsked 31 = .ok (.iload 5, 2) := by decide +kernel
theorem dL_areAsked_33 : decode cL_areAsked 33 = .ok (.if_icmp .ge 20, 3) := by decide +kernel
theorem dL_areAsked_36 : decode cL_areAsked 36 = .ok (.aload_n 0, 1) := by decide +kernel
theorem dL_areAsked_37 : decode cL_areAsked 37 = .ok (.iload_n 1, 1) := by decide +kernel
theorem dL_areAsked_38 : decode cL_areAsked 38 = .ok (.iload_n 2, 1) := by decide +kernel
theorem dL_areAsked_39 : decode cL_areAsked 39 = .ok (.iload 6, 2) := by decide +kernel
theorem dL_areAsked_41 : decode cL_areAsked 41 = .ok (.invokevirtual 76, 3) := by decide +kernel
theorem dL_areAsked_44 : decode cL_areAsked 44 = .ok (.iload 8, 2) := by decide +kernel
theorem dL_areAsked_46 : decode cL_areAsked 46 = .ok (.if_icmp .ne 7, 3) := by decide +kernel
theorem dL_areAsked_49 : decode cL_areAsked 49 = .ok (.iconst 1, 1) := by decide +kernel
theorem dL_areAsked_50 : decode cL_areAsked 50 = .ok (.goto 4, 3) := by decide +kernel
theorem dL_areAsked_53 : decode cL_areAsked 53 = .ok (.iconst 0, 1) := by decide +kernel
theorem dL_areAsked_54 : decode cL_areAsked 54 = .ok (.istore 9, 2) := by decide +kernel
theorem dL_areAsked_56 : decode cL_areAsked 56 = .ok (.iload 9, 2) := by decide +kernel
theorem dL_areAsked_58 : decode cL_areAsked 58 = .ok (.ifCond .ne 14, 3) := by decide +kernel
theorem dL_areAsked_61 : decode cL_areAsked 61 = .ok (.aload_n 0, 1) := by decide +kernel
theorem dL_areAsked_62 : decode cL_areAsked 62 = .ok (.iload_n 1, 1) := by decide +kernel
theorem dL_areAsked_63 : decode cL_areAsked 63 = .ok (.iload 8, 2) := by decide +kernel
theorem dL_areAsked_65 : decode cL_areAsked 65 = .ok (.invokevirtual 17, 3) := by decide +kernel
theorem dL_areAsked_68 : decode cL_areAsked 68 = .ok (.iload_n 2, 1) := by decide +kernel
theorem dL_areAsked_69 : decode cL_areAsked 69 = .ok (.if_icmp .ge 7, 3) := by decide +kernel
theorem dL_areAsked_72 : decode cL_areAsked 72 = .ok (.iconst 1, 1) := by decide +kernel
theorem dL_areAsked_73 : decode cL_areAsked 73 = .ok (.goto 4, 3) := by decide +kernel
theorem dL_areAsked_76 : decode cL_areAsked 76 = .ok (.iconst 0, 1) := by decide +kernel
theorem dL_areAsked_77 : decode cL_areAsked 77 = .ok (.istore 7, 2) := by decide +kernel
theorem dL_areAsked_79 : decode cL_areAsked 79 = .ok (.iload 6, 2) := by decide +kernel
theorem dL_areAsked_81 : decode cL_areAsked 81 = .ok (.iload 9, 2) := by decide +kernel
theorem dL_areAsked_83 : decode cL_areAsked 83 = .ok (.ifCond .eq 7, 3) := by decide +kernel
theorem dL_areAsked_86 : decode cL_areAsked 86 = .ok (.iconst 1, 1) := by decide +kernel
theorem dL_areAsked_87 : decode cL_areAsked 87 = .ok (.goto 4, 3) := by decide +kernel
theorem dL_areAsked_90 : decode cL_areAsked 90 = .ok (.iconst 0, 1) := by decide +kernel
theorem dL_areAsked_91 : decode cL_areAsked 91 = .ok (.iadd, 1) := by decide +kernel
theorem dL_areAsked_92 : decode cL_areAsked 92 = .ok (.istore 6, 2) := by decide +kernel
theorem dL_areAsked_94 : decode cL_areAsked 94 = .ok (.iinc 8 1, 3) := by decide +kernel
theorem dL_areAsked_97 : decode cL_areAsked 97 = .ok (.goto (-80), 3) := by decide +kernel
theorem dL_areAsked_100 : decode cL_areAsked 100 = .ok (.iload 7, 2) := by decide +kernel
theorem dL_areAsked_102 : decode cL_areAsked 102 = .ok (.ifCond .eq 56, 3) := by decide +kernel
theorem dL_areAsked_105 : decode cL_areAsked 105 = .ok (.iload 6, 2) := by decide +kernel
theorem dL_areAsked_107 : decode cL_areAsked 107 = .ok (.iload 5, 2) := by decide +kernel
theorem dL_areAsked_109 : decode cL_areAsked 109 = .ok (.if_icmp .ne 49, 3) := by decide +kernel
theorem dL_areAsked_112 : decode cL_areAsked 112 = .ok (.aload_n 0, 1) := by decide +kernel
theorem dL_areAsked_113 : decode cL_areAsked 113 = .ok (.iload_n 1, 1) := by decide +kernel
theorem dL_areAsked_114 : decode cL_areAsked 114 = .ok (.iload_n 3, 1) := by decide +kernel
theorem dL_areAsked_115 : decode cL_areAsked 115 = .ok (.iload 4, 2) := by decide +kernel
theorem dL_areAsked_117 : decode cL_areAsked 117 = .ok (.invokevirtual 79, 3) := by decide +kernel
theorem dL_areAsked_120 : decode cL_areAsked 120 = .ok (.aload_n 0, 1) := by decide +kernel
theorem dL_areAsked_121 : decode cL_areAsked 121 = .ok (.iload_n 1, 1) := by decide +kernel
theorem dL_areAsked_122 : decode cL_areAsked 122 = .ok (.iload_n 3, 1) := by decide +kernel
theorem dL_areAsked_123 : decode cL_areAsked 123 = .ok (.iload 4, 2) := by decide +kernel
theorem dL_areAsked_125 : decode cL_areAsked 125 = .ok (.invokevirtual 61, 3) := by decide +kernel
theorem dL_areAsked_128 : decode cL_areAsked 128 = .ok (.if_icmp .lt 30, 3) := by decide +kernel
theorem dL_areAsked_131 : decode cL_areAsked 131 = .ok (.aload_n 0, 1) := by decide +kernel
theorem dL_areAsked_132 : decode cL_areAsked 132 = .ok (.iload_n 3, 1) := by decide +kernel
theorem dL_areAsked_133 : decode cL_areAsked 133 = .ok (.iload 4, 2) := by decide +kernel
theorem dL_areAsked_135 : decode cL_areAsked 135 = .ok (.invokevirtual 82, 3) := by decide +kernel
theorem dL_areAsked_138 : decode cL_areAsked 138 = .ok (.iconst 1, 1) := by decide +kernel
theorem dL_areAsked_139 : decode cL_areAsked 139 = .ok (.if_icmp .lt 19, 3) := by decide +kernel
theorem dL_areAsked_142 : decode cL_areAsked 142 = .ok (.aload_n 0, 1) := by decide +kernel
theorem dL_areAsked_143 : decode cL_areAsked 143 = .ok (.iload_n 3, 1) := by decide +kernel
theorem dL_areAsked_144 : decode cL_areAsked 144 = .ok (.iload 4, 2) := by decide +kernel
theorem dL_areAsked_146 : decode cL_areAsked 146 = .ok (.invokevirtual 82, 3) := by decide +kernel
theorem dL_areAsked_149 : decode cL_areAsked 149 = .ok (.bipush 12, 2) := by decide +kernel
theorem dL_areAsked_151 : decode cL_areAsked 151 = .ok (.if_icmp .gt 7, 3) := by decide +kernel
theorem dL_areAsked_154 : decode cL_areAsked 154 = .ok (.iconst 1, 1) := by decide +kernel
theorem dL_areAsked_155 : decode cL_areAsked 155 = .ok (.goto 4, 3) := by decide +kernel
theorem dL_areAsked_158 : decode cL_areAsked 158 = .ok (.iconst 0, 1) := by decide +kernel
theorem dL_areAsked_159 : decode cL_areAsked 159 = .ok (.istore 7, 2) := by decide +kernel
theorem dL_areAsked_161 : decode cL_areAsked 161 = .ok (.aload_n 0, 1) := by decide +kernel
theorem dL_areAsked_162 : decode cL_areAsked 162 = .ok (.iload_n 1, 1) := by decide +kernel
theorem dL_areAsked_163 : decode cL_areAsked 163 = .ok (.invokevirtual 10, 3) := by decide +kernel
theorem dL_areAsked_166 : decode cL_areAsked 166 = .ok (.istore 8, 2) := by decide +kernel
theorem dL_areAsked_168 : decode cL_areAsked 168 = .ok (.iload 8, 2) := by decide +kernel
theorem dL_areAsked_170 : decode cL_areAsked 170 = .ok (.ifCond .le 78, 3) := by decide +kernel
theorem dL_areAsked_173 : decode cL_areAsked 173 = .ok (.iconst 1, 1) := by decide +kernel
theorem dL_areAsked_174 : decode cL_areAsked 174 = .ok (.iload_n 2, 1) := by decide +kernel
theorem dL_areAsked_175 : decode cL_areAsked 175 = .ok (.iload 8, 2) := by decide +kernel
theorem dL_areAsked_177 : decode cL_areAsked 177 = .ok (.irem, 1) := by decide +kernel
theorem dL_areAsked_178 : decode cL_areAsked 178 = .ok (.iadd, 1) := by decide +kernel
theorem dL_areAsked_179 : decode cL_areAsked 179 = .ok (.istore 9, 2) := by decide +kernel
theorem dL_areAsked_181 : decode cL_areAsked 181 = .ok (.iload 7, 2) := by decide +kernel
theorem dL_areAsked_183 : decode cL_areAsked 183 = .ok (.ifCond .eq 62, 3) := by decide +kernel
theorem dL_areAsked_186 : decode cL_areAsked 186 = .ok (.aload_n 0, 1) := by decide +kernel
theorem dL_areAsked_187 : decode cL_areAsked 187 = .ok (.iload_n 1, 1) := by decide +kernel
theorem dL_areAsked_188 : decode cL_areAsked 188 = .ok (.iload 9, 2) := by decide +kernel
theorem dL_areAsked_190 : decode cL_areAsked 190 = .ok (.invokevirtual 85, 3) := by decide +kernel
theorem dL_areAsked_193 : decode cL_areAsked 193 = .ok (.aload_n 0, 1) := by decide +kernel
theorem dL_areAsked_194 : decode cL_areAsked 194 = .ok (.iload_n 1, 1) := by decide +kernel
theorem dL_areAsked_195 : decode cL_areAsked 195 = .ok (.iload 8, 2) := by decide +kernel
theorem dL_areAsked_197 : decode cL_areAsked 197 = .ok (.invokevirtual 85, 3) := by decide +kernel
theorem dL_areAsked_200 : decode cL_areAsked 200 = .ok (.if_icmp .gt 45, 3) := by decide +kernel
theorem dL_areAsked_203 : decode cL_areAsked 203 = .ok (.aload_n 0, 1) := by decide +kernel
theorem dL_areAsked_204 : decode cL_areAsked 204 = .ok (.iload_n 1, 1) := by decide +kernel
theorem dL_areAsked_205 : decode cL_areAsked 205 = .ok (.iconst 1, 1) := by decide +kernel
theorem dL_areAsked_206 : decode cL_areAsked 206 = .ok (.invokevirtual 85, 3) := by decide +kernel
theorem dL_areAsked_209 : decode cL_areAsked 209 = .ok (.aload_n 0, 1) := by decide +kernel
theorem dL_areAsked_210 : decode cL_areAsked 210 = .ok (.iload_n 1, 1) := by decide +kernel
theorem dL_areAsked_211 : decode cL_areAsked 211 = .ok (.iload 9, 2) := by decide +kernel
theorem dL_areAsked_213 : decode cL_areAsked 213 = .ok (.invokevirtual 85, 3) := by decide +kernel
theorem dL_areAsked_216 : decode cL_areAsked 216 = .ok (.if_icmp .gt 29, 3) := by decide +kernel
theorem dL_areAsked_219 : decode cL_areAsked 219 = .ok (.aload_n 0, 1) := by decide +kernel
theorem dL_areAsked_220 : decode cL_areAsked 220 = .ok (.iload_n 1, 1) := by decide +kernel
theorem dL_areAsked_221 : decode cL_areAsked 221 = .ok (.iload_n 3, 1) := by decide +kernel
theorem dL_areAsked_222 : decode cL_areAsked 222 = .ok (.invokevirtual 53, 3) := by decide +kernel
theorem dL_areAsked_225 : decode cL_areAsked 225 = .ok (.aload_n 0, 1) := by decide +kernel
theorem dL_areAsked_226 : decode cL_areAsked 226 = .ok (.iload_n 1, 1) := by decide +kernel
theorem dL_areAsked_227 : decode cL_areAsked 227 = .ok (.iconst 0, 1) := by decide +kernel
theorem dL_areAsked_228 : decode cL_areAsked 228 = .ok (.iload_n 3, 1) := by decide +kernel
theorem dL_areAsked_229 : decode cL_areAsked 229 = .ok (.invokevirtual 21, 3) := by decide +kernel
theorem dL_areAsked_232 : decode cL_areAsked 232 = .ok (.i2d, 1) := by decide +kernel
theorem dL_areAsked_233 : decode cL_areAsked 233 = .ok (.iload 8, 2) := by decide +kernel
theorem dL_areAsked_235 : decode cL_areAsked 235 = .ok (.i2d, 1) := by decide +kernel
theorem dL_areAsked_236 : decode cL_areAsked 236 = .ok (.ddiv, 1) := by decide +kernel
theorem dL_areAsked_237 : decode cL_areAsked 237 = .ok (.dcmp .l, 1) := by decide +kernel
theorem dL_areAsked_238 : decode cL_areAsked 238 = .ok (.ifCond .ne 7, 3) := by decide +kernel
theorem dL_areAsked_241 : decode cL_areAsked 241 = .ok (.iconst 1, 1) := by decide +kernel
theorem dL_areAsked_242 : decode cL_areAsked 242 = .ok (.goto 4, 3) := by decide +kernel
theorem dL_areAsked_245 : decode cL_areAsked 245 = .ok (.iconst 0, 1) := by decide +kernel
theorem dL_areAsked_246 : decode cL_areAsked 246 = .ok (.istore 7, 2) := by decide +kernel
theorem dL_areAsked_248 : decode cL_areAsked 248 = .ok (.iload 7, 2) := by decide +kernel
theorem dL_areAsked_250 : decode cL_areAsked 250 = .ok (.ireturn, 1) := by decide +kernel
set_option maxRecDepth 20000 in
theorem ggL_law_X5_init : GoodIn wsL_law wsX5_init := goodIn_r _ [5, 6, 7, 8, 9, 10, 11, 12, 13, 14, 15, 16, 17, 18, 19, 20, 21, 22, 23, 24, 25, 26, 27, 28, 29, 30, 31, 32, 33, 34, 35, 36, 37, 38, 39, 40, 41, 42, 43, 44, 45, 46, 47, 48, 49, 50, 51, 52, 383, 384, 385, 386, 387, 388, 389, 390, 391, 392, 393, 394, 395] (by decide +kernel) (by decide +kernel)
set_option maxRecDepth 20000 in
theorem gL_law_X5_init : GoodIn wsL_law (wsX5_init) := ggL_law_X5_init
set_option maxRecDepth 20000 in
theorem ggL_law_L_areHalves : GoodIn wsL_law wsL_areHalves := goodIn_ca (goodIn_ca (goodIn_r _ [56, 57, 58, 59, 2, 60, 10, 61, 62, 63, 64, 65, 66, 67, 68, 12, 69, 22, 20, 70, 71, 72, 32, 73, 52, 74, 75, 76, 77, 78, 79, 80, 81, 82, 83, 84, 85, 86, 87, 88, 19, 89, 37, 90, 91, 92, 93, 94, 95, 96, 97, 98, 99, 100, 101, 102, 103, 104, 105, 106, 107, 108, 109, 110, 111, 112, 113, 114, 115, 116, 117, 118, 119, 120, 121, 122, 123, 124, 125, 383, 384, 385, 386, 387, 395, 388] (by decide +kernel) (by decide +kernel)) (goodIn_sub (fun _ h => List.mem_append_left _ (List.mem_append_left _ (List.mem_append_left _ (List.mem_append_right _ h)))) (by decide +kernel))) (goodIn_sub (fun _ h => List.mem_append_left _ (List.mem_append_left _ (List.mem_append_right _ h))) (by decide +kernel))
set_option maxRecDepth 20000 in
theorem gL_law_L_areHalves : GoodIn wsL_law (va_wsS RL 89 yL_areHalves wsL_areHalves) := goodIn_app (goodIn_of _ (by decide +kernel)) ggL_law_L_areHalves
set_option maxRecDepth 20000 in
theorem ggL_law_L_areCounters : GoodIn wsL_law wsL_areCounters := goodIn_ca (goodIn_r _ [128, 129, 130, 131, 2, 132, 10, 133, 61, 62, 63, 64, 65, 134, 135, 136, 137, 138, 139, 140, 141, 142, 143, 144, 29, 145, 48, 146, 147, 148, 149, 150, 47, 151, 152, 153, 154, 94, 155, 87, 88, 19, 89, 37, 156, 157, 158, 159, 90, 91, 92, 93, 95, 96, 97, 98, 383, 384, 385, 386, 387, 391, 392, 393, 394, 388] (by decide +kernel) (by decide +kernel)) (goodIn_sub (fun _ h => List.mem_append_left _ (List.mem_append_left _ (List.mem_append_left _ (List.mem_append_right _ h)))) (by decide +kernel))
set_option maxRecDepth 20000 in
theorem gL_law_L_areCounters : GoodIn wsL_law (va_wsS RL 95 yL_areCounters wsL_areCounters) := goodIn_app (goodIn_of _ (by decide +kernel)) ggL_law_L_areCounters
set_option maxRecDepth 20000 in
theorem ggL_law_X5_frequent : GoodIn wsL_law wsX5_frequent := goodIn_ca (goodIn_ca (goodIn_r _ [163, 164, 10, 61, 62, 2, 63, 64, 65, 165, 166, 167, 106, 107, 168, 169, 170, 12, 171, 172, 67, 68, 69, 22, 20, 70, 71, 72, 32, 73, 52, 74, 75, 76, 77, 78, 79, 80, 81, 82, 83, 84, 85, 86, 87, 88, 19, 89, 37, 383, 384, 385, 386, 387, 395, 388] (by decide +kernel) (by decide +kernel)) (goodIn_sub (fun _ h => List.mem_append_left _ (List.mem_append_left _ (List.mem_append_left _ (List.mem_append_right _ h)))) (by decide +kernel))) (goodIn_sub (fun _ h => List.mem_append_left _ (List.mem_append_left _ (List.mem_append_right _ h))) (by decide +kernel))
set_option maxRecDepth 20000 in
theorem gL_law_X5_frequent : GoodIn wsL_law (wsV RL 73 RX5 yX5_frequent wsX5_frequent) := goodIn_app (goodIn_of _ (by decide +kernel)) ggL_law_X5_frequent
set_option maxRecDepth 20000 in
theorem ggL_law_L_draw : GoodIn wsL_law wsL_draw := goodIn_r _ [175, 176, 177, 178] (by decide +kernel) (by decide +kernel)
set_option maxRecDepth 20000 in
theorem gL_law_L_draw : GoodIn wsL_law (va_wsS RL 98 yL_draw wsL_draw) := goodIn_app (goodIn_of _ (by decide +kernel)) ggL_law_L_draw
set_option maxRecDepth 20000 in
theorem ggL_law_L_step : GoodIn wsL_law wsL_step := goodIn_ca (goodIn_ca (goodIn_ca (goodIn_r _ [181, 182, 90, 91, 92, 2, 93, 10, 94, 61, 62, 63, 64, 65, 95, 96, 97, 19, 98, 37, 151, 152, 153, 154, 155, 87, 88, 89, 57, 58, 59, 60, 66, 67, 68, 12, 69, 22, 20, 70, 71, 72, 32, 73, 52, 74, 75, 76, 77, 78, 79, 80, 81, 82, 83, 84, 85, 86, 183, 184, 185, 186, 187, 188, 25, 189, 190, 191, 192, 193, 194, 195, 196, 197, 198, 199, 200, 41, 201, 202, 203, 204, 165, 166, 167, 106, 107, 205, 206, 207, 208, 209, 164, 210, 211, 212, 213, 26, 30, 214, 215, 216, 217, 218, 219, 220, 221, 222, 223, 224, 225, 226, 227, 228, 229, 230, 231, 232, 233, 234, 235, 236, 237, 238, 239, 240, 241, 29, 242, 150, 243, 146, 147, 148, 149, 47, 244, 245, 246, 247, 48, 248, 249, 250, 251, 252, 253, 254, 255, 256, 257, 258, 259, 260, 261, 117, 118, 119, 120, 121, 122, 123, 124, 125, 156, 157, 158, 159, 133, 262, 263, 264, 265, 266, 267, 268, 269, 270, 271, 272, 273, 274, 275, 276, 277, 278, 279, 280, 281, 282, 283, 284, 285, 286, 287, 288, 289, 290, 291, 292, 293, 294, 295, 296, 297, 298, 299, 300, 301, 302, 303, 304, 305, 306, 307, 308, 309, 310, 311, 312, 313, 314, 315, 316, 317, 318, 319, 320, 321, 322, 323, 129, 130, 131, 132, 324, 325, 326, 327, 328, 329, 330, 331, 332, 333, 334, 335, 43, 336, 337, 338, 339, 340, 341, 342, 343, 344, 383, 384, 385, 386, 387, 388, 395, 389, 390, 391, 392, 393, 394] (by decide +kernel) (by decide +kernel)) (goodIn_sub (fun _ h => List.mem_append_left _ (List.mem_append_left _ (List.mem_append_left _ (List.mem_append_right _ h)))) (by decide +kernel))) (goodIn_sub (fun _ h => List.mem_append_left _ (List.mem_append_left _ (List.mem_append_right _ h))) (by decide +kernel))) (goodIn_sub (fun _ h => List.mem_append_left _ (List.mem_append_right _ h)) (by decide +kernel))
set_option maxRecDepth 20000 in
theorem gL_law_L_step : GoodIn wsL_law (va_wsS RL 102 yL_step wsL_step) := goodIn_app (goodIn_of _ (by decide +kernel)) ggL_law_L_step
set_option maxRecDepth 20000 in
theorem ggL_law_L_areRows : GoodIn wsL_law wsL_areRows := goodIn_ca (goodIn_r _ [347, 192, 193, 194, 2, 195, 10, 196, 61, 62, 63, 64, 65, 197, 198, 199, 25, 200, 41, 257, 258, 259, 260, 261, 235, 236, 237, 238, 151, 152, 153, 154, 94, 155, 87, 88, 19, 89, 37, 383, 384, 385, 386, 387, 389, 390, 388] (by decide +kernel) (by decide +kernel)) (goodIn_sub (fun _ h => List.mem_append_left _ (List.mem_append_left _ (List.mem_append_left _ (List.mem_append_right _ h)))) (by decide +kernel))
set_option maxRecDepth 20000 in
theorem gL_law_L_areRows : GoodIn wsL_law (va_wsS RL 106 yL_areRows wsL_areRows) := goodIn_app (goodIn_of _ (by decide +kernel)) ggL_law_L_areRows
set_option maxRecDepth 20000 in
theorem ggL_law_L_areAsked : GoodIn wsL_law wsL_areAsked := goodIn_ca (goodIn_ca (goodIn_ca (goodIn_r _ [350, 160, 161, 162, 2, 163, 164, 10, 61, 62, 63, 64, 65, 165, 166, 167, 106, 107, 168, 169, 170, 12, 171, 172, 67, 68, 69, 22, 20, 70, 71, 72, 32, 73, 52, 74, 75, 76, 77, 78, 79, 80, 81, 82, 83, 84, 85, 86, 87, 88, 19, 89, 37, 351, 352, 353, 354, 355, 356, 151, 152, 153, 154, 94, 155, 357, 358, 359, 360, 103, 104, 105, 361, 362, 363, 364, 365, 366, 66, 99, 100, 101, 102, 108, 109, 110, 111, 367, 368, 369, 370, 90, 91, 92, 93, 95, 96, 97, 98, 371, 372, 373, 374, 324, 325, 326, 327, 57, 58, 59, 60, 383, 384, 385, 386, 387, 395, 388] (by decide +kernel) (by decide +kernel)) (goodIn_sub (fun _ h => List.mem_append_left _ (List.mem_append_left _ (List.mem_append_left _ (List.mem_append_right _ h)))) (by decide +kernel))) (goodIn_sub (fun _ h => List.mem_append_left _ (List.mem_append_left _ (List.mem_append_right _ h))) (by decide +kernel))) (goodIn_sub (fun _ h => List.mem_append_right _ h) (by decide +kernel))
set_option maxRecDepth 20000 in
theorem gL_law_L_areAsked : GoodIn wsL_law (va_wsS RL 109 yL_areAsked wsL_areAsked) := goodIn_app (goodIn_of _ (by decide +kernel)) ggL_law_L_areAsked
set_option maxRecDepth 20000 in
theorem ggL_law_X5_product : GoodIn wsL_law wsX5_product := goodIn_ca (goodIn_r _ [378, 10, 94, 61, 62, 2, 63, 64, 65, 379, 380, 381, 19, 382, 37, 383, 384, 385, 386, 387, 388] (by decide +kernel) (by decide +kernel)) (goodIn_sub (fun _ h => List.mem_append_left _ (List.mem_append_left _ (List.mem_append_left _ (List.mem_append_right _ h)))) (by decide +kernel))
set_option maxRecDepth 20000 in
theorem gL_law_X5_product : GoodIn wsL_law (wsV RL 113 RX5 yX5_product wsX5_product) := goodIn_app (goodIn_of _ (by decide +kernel)) ggL_law_X5_product
set_option maxRecDepth 20000 in
theorem ggL_law_X5_signedProduct : GoodIn wsL_law wsX5_signedProduct := goodIn_ca (goodIn_r _ [331, 10, 196, 61, 62, 2, 63, 64, 65, 332, 333, 334, 25, 335, 43, 336, 337, 338, 339, 340, 198, 199, 200, 41, 341, 342, 343, 344, 383, 384, 385, 386, 387, 389, 390] (by decide +kernel) (by decide +kernel)) (goodIn_sub (fun _ h => List.mem_append_left _ (List.mem_append_left _ (List.mem_append_left _ (List.mem_append_right _ h)))) (by decide +kernel))
set_option maxRecDepth 20000 in
theorem gL_law_X5_signedProduct : GoodIn wsL_law (wsV RL 57 RX5 yX5_signedProduct wsX5_signedProduct) := goodIn_app (goodIn_of _ (by decide +kernel)) ggL_law_X5_signedProduct
