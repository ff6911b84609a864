theorem dL_draw_0 : decode cL_draw 0 = .ok (.iload_n 1, 1) := by decide +kernel
theorem dL_draw_1 : decode cL_draw 1 = .ok (.aload_n 0, 1) := by decide +kernel
theorem dL_draw_2 : decode cL_draw 2 = .ok (.arraylength, 1) := by decide +kernel
theorem dL_draw_3 : decode cL_draw 3 = .ok (.if_icmp .ge 12, 3) := by decide +kernel
theorem dL_draw_6 : decode cL_draw 6 = .ok (.aload_n 0, 1) := by decide +kernel
theorem dL_draw_7 : decode cL_draw 7 = .ok (.iload_n 1, 1) := by decide +kernel
theorem dL_draw_8 : decode cL_draw 8 = .ok (.iaload, 1) := by decide +kernel
theorem dL_draw_9 : decode cL_draw 9 = .ok (.ldc 7, 2) := by decide +kernel
theorem dL_draw_11 : decode cL_draw 11 = .ok (.iand, 1) := by decide +kernel
theorem dL_draw_12 : decode cL_draw 12 = .ok (.goto 12, 3) := by decide +kernel
theorem dL_draw_15 : decode cL_draw 15 = .ok (.ldc 8, 2) := by decide +kernel
theorem dL_draw_17 : decode cL_draw 17 = .ok (.iload_n 1, 1) := by decide +kernel
theorem dL_draw_18 : decode cL_draw 18 = .ok (.iconst 2, 1) := by decide +kernel
theorem dL_draw_19 : decode cL_draw 19 = .ok (.iadd, 1) := by decide +kernel
theorem dL_draw_20 : decode cL_draw 20 = .ok (.imul, 1) := by decide +kernel
theorem dL_draw_21 : decode cL_draw 21 = .ok (.ldc 9, 2) := by decide +kernel
theorem dL_draw_23 : decode cL_draw 23 = .ok (.irem, 1) := by decide +kernel
theorem dL_draw_24 : decode cL_draw 24 = .ok (.ireturn, 1) := by decide +kernel
set_option maxRecDepth 20000 in
theorem ggL_step_X5_total : GoodIn wsL_step wsX5_total := goodIn_ca (goodIn_r _ [6, 7, 8, 9, 10, 5, 11, 12, 13, 14, 15, 16, 17, 18, 19, 257, 258, 259, 260, 261, 262] (by decide +kernel) (by decide +kernel)) (goodIn_sub (fun _ h => List.mem_cons_of_mem _ (List.mem_append_left _ (List.mem_append_left _ (List.mem_append_right _ h)))) (by decide +kernel))
set_option maxRecDepth 20000 in
theorem gL_step_X5_total : GoodIn wsL_step (wsV RL 10 RX5 yX5_total wsX5_total) := goodIn_app (goodIn_of _ (by decide +kernel)) ggL_step_X5_total
set_option maxRecDepth 20000 in
theorem ggL_step_X5_count : GoodIn wsL_step wsX5_count := goodIn_ca (goodIn_r _ [23, 7, 8, 9, 10, 5, 11, 12, 13, 24, 25, 26, 17, 27, 19, 257, 258, 259, 260, 261, 262] (by decide +kernel) (by decide +kernel)) (goodIn_sub (fun _ h => List.mem_cons_of_mem _ (List.mem_append_left _ (List.mem_append_left _ (List.mem_append_right _ h)))) (by decide +kernel))
set_option maxRecDepth 20000 in
theorem gL_step_X5_count : GoodIn wsL_step (wsV RL 17 RX5 yX5_count wsX5_count) := goodIn_app (goodIn_of _ (by decide +kernel)) ggL_step_X5_count
set_option maxRecDepth 20000 in
theorem ggL_step_X5_estimate : GoodIn wsL_step wsX5_estimate := goodIn_ca (goodIn_r _ [31, 7, 9, 10, 5, 11, 12, 13, 32, 33, 34, 35, 36, 37, 38, 39, 40, 41, 42, 43, 44, 45, 46, 47, 48, 49, 50, 51, 52, 53, 54, 55, 56, 57, 25, 26, 17, 27, 19, 257, 258, 259, 260, 261, 263, 262] (by decide +kernel) (by decide +kernel)) (goodIn_sub (fun _ h => List.mem_cons_of_mem _ (List.mem_append_left _ (List.mem_append_left _ (List.mem_append_right _ h)))) (by decide +kernel))
set_option maxRecDepth 20000 in
theorem gL_step_X5_estimate : GoodIn wsL_step (wsV RL 21 RX5 yX5_estimate wsX5_estimate) := goodIn_app (goodIn_of _ (by decide +kernel)) ggL_step_X5_estimate
set_option maxRecDepth 20000 in
theorem ggL_step_X5_signedColumn : GoodIn wsL_step wsX5_signedColumn := goodIn_ca (goodIn_r _ [61, 9, 10, 5, 11, 12, 13, 62, 63, 64, 65, 66, 67] (by decide +kernel) (by decide +kernel)) (goodIn_sub (fun _ h => List.mem_cons_of_mem _ (List.mem_append_left _ (List.mem_append_left _ (List.mem_append_right _ h)))) (by decide +kernel))
set_option maxRecDepth 20000 in
theorem gL_step_X5_signedColumn : GoodIn wsL_step (wsV RL 25 RX5 yX5_signedColumn wsX5_signedColumn) := goodIn_app (goodIn_of _ (by decide +kernel)) ggL_step_X5_signedColumn
set_option maxRecDepth 20000 in
theorem ggL_step_X5_signedCell : GoodIn wsL_step wsX5_signedCell := goodIn_ca (goodIn_r _ [71, 7, 72, 9, 10, 5, 11, 12, 13, 73, 74, 75, 64, 76, 77, 257, 258, 259, 260, 261, 264, 265] (by decide +kernel) (by decide +kernel)) (goodIn_sub (fun _ h => List.mem_cons_of_mem _ (List.mem_append_left _ (List.mem_append_left _ (List.mem_append_right _ h)))) (by decide +kernel))
set_option maxRecDepth 20000 in
theorem gL_step_X5_signedCell : GoodIn wsL_step (wsV RL 28 RX5 yX5_signedCell wsX5_signedCell) := goodIn_app (goodIn_of _ (by decide +kernel)) ggL_step_X5_signedCell
set_option maxRecDepth 20000 in
theorem ggL_step_X5_add : GoodIn wsL_step wsX5_add := goodIn_ca (goodIn_ca (goodIn_ca (goodIn_r _ [81, 7, 8, 9, 10, 5, 11, 12, 13, 82, 83, 84, 85, 86, 14, 15, 16, 17, 18, 19, 87, 88, 89, 90, 91, 92, 93, 94, 95, 35, 96, 38, 37, 97, 98, 99, 100, 101, 102, 103, 104, 105, 42, 106, 44, 107, 108, 47, 109, 110, 40, 41, 43, 45, 46, 48, 49, 50, 51, 52, 53, 54, 55, 56, 111, 112, 113, 64, 114, 77, 115, 116, 117, 118, 63, 65, 66, 67, 119, 120, 121, 122, 123, 124, 125, 126, 127, 128, 129, 130, 131, 132, 133, 134, 135, 136, 137, 138, 139, 140, 141, 142, 143, 144, 145, 146, 147, 148, 149, 257, 258, 259, 260, 261, 262, 263, 264, 265, 266, 267, 268, 269] (by decide +kernel) (by decide +kernel)) (goodIn_sub (fun _ h => List.mem_cons_of_mem _ (List.mem_append_left _ (List.mem_append_left _ (List.mem_append_right _ h)))) (by decide +kernel))) (goodIn_sub (fun _ h => List.mem_cons_of_mem _ (List.mem_append_left _ (List.mem_append_right _ h))) (by decide +kernel))) (goodIn_sub (fun _ h => List.mem_cons_of_mem _ (List.mem_append_right _ h)) (by decide +kernel))
set_option maxRecDepth 20000 in
theorem gL_step_X5_add : GoodIn wsL_step (wsV RL 31 RX5 yX5_add wsX5_add) := goodIn_app (goodIn_of _ (by decide +kernel)) ggL_step_X5_add
set_option maxRecDepth 20000 in
theorem ggL_step_X5_sign : GoodIn wsL_step wsX5_sign := goodIn_ca (goodIn_r _ [153, 9, 10, 5, 11, 12, 13, 154, 120, 64, 121, 122, 123] (by decide +kernel) (by decide +kernel)) (goodIn_sub (fun _ h => List.mem_cons_of_mem _ (List.mem_append_left _ (List.mem_append_left _ (List.mem_append_right _ h)))) (by decide +kernel))
set_option maxRecDepth 20000 in
theorem gL_step_X5_sign : GoodIn wsL_step (wsV RL 34 RX5 yX5_sign wsX5_sign) := goodIn_app (goodIn_of _ (by decide +kernel)) ggL_step_X5_sign
set_option maxRecDepth 20000 in
theorem ggL_step_X5_cell : GoodIn wsL_step wsX5_cell := goodIn_ca (goodIn_r _ [158, 7, 159, 9, 10, 5, 11, 12, 13, 160, 161, 162, 42, 163, 44, 257, 258, 259, 260, 261, 263] (by decide +kernel) (by decide +kernel)) (goodIn_sub (fun _ h => List.mem_cons_of_mem _ (List.mem_append_left _ (List.mem_append_left _ (List.mem_append_right _ h)))) (by decide +kernel))
set_option maxRecDepth 20000 in
theorem gL_step_X5_cell : GoodIn wsL_step (wsV RL 37 RX5 yX5_cell wsX5_cell) := goodIn_app (goodIn_of _ (by decide +kernel)) ggL_step_X5_cell
set_option maxRecDepth 20000 in
theorem ggL_step_X5_taken : GoodIn wsL_step wsX5_taken := goodIn_ca (goodIn_r _ [167, 7, 168, 9, 10, 5, 11, 12, 13, 257, 258, 259, 260, 261, 266, 267, 268, 269] (by decide +kernel) (by decide +kernel)) (goodIn_sub (fun _ h => List.mem_cons_of_mem _ (List.mem_append_left _ (List.mem_append_left _ (List.mem_append_right _ h)))) (by decide +kernel))
set_option maxRecDepth 20000 in
theorem gL_step_X5_taken : GoodIn wsL_step (wsV RL 41 RX5 yX5_taken wsX5_taken) := goodIn_app (goodIn_of _ (by decide +kernel)) ggL_step_X5_taken
set_option maxRecDepth 20000 in
theorem ggL_step_X5_merge : GoodIn wsL_step wsX5_merge := goodIn_ca (goodIn_ca (goodIn_ca (goodIn_r _ [172, 85, 86, 7, 8, 9, 10, 5, 11, 12, 13, 14, 15, 16, 17, 18, 19, 87, 88, 89, 90, 91, 92, 173, 174, 175, 35, 176, 38, 37, 97, 98, 177, 178, 179, 180, 181, 182, 183, 42, 184, 44, 185, 186, 187, 64, 188, 77, 189, 190, 191, 127, 192, 129, 135, 140, 149, 136, 137, 138, 139, 131, 132, 133, 134, 193, 194, 195, 196, 197, 198, 199, 200, 145, 146, 147, 148, 257, 258, 259, 260, 261, 262, 263, 264, 265, 266, 267, 268, 269] (by decide +kernel) (by decide +kernel)) (goodIn_sub (fun _ h => List.mem_cons_of_mem _ (List.mem_append_left _ (List.mem_append_right _ h))) (by decide +kernel))) (goodIn_sub (fun _ h => List.mem_cons_of_mem _ (List.mem_append_left _ (List.mem_append_left _ (List.mem_append_right _ h)))) (by decide +kernel))) (goodIn_sub (fun _ h => List.mem_cons_of_mem _ (List.mem_append_right _ h)) (by decide +kernel))
set_option maxRecDepth 20000 in
theorem gL_step_X5_merge : GoodIn wsL_step (wsV RL 44 RX5 yX5_merge wsX5_merge) := goodIn_app (goodIn_of _ (by decide +kernel)) ggL_step_X5_merge
set_option maxRecDepth 20000 in
theorem ggL_step_X5_clear : GoodIn wsL_step wsX5_clear := goodIn_ca (goodIn_r _ [204, 7, 8, 9, 10, 5, 11, 12, 13, 14, 15, 16, 17, 18, 19, 205, 206, 207, 35, 208, 38, 37, 97, 98, 209, 210, 211, 212, 213, 214, 215, 216, 217, 218, 219, 42, 220, 44, 221, 222, 223, 224, 64, 225, 77, 226, 227, 228, 229, 127, 230, 129, 149, 257, 258, 259, 260, 261, 262, 263, 264, 265, 266, 267, 268, 269] (by decide +kernel) (by decide +kernel)) (goodIn_sub (fun _ h => List.mem_cons_of_mem _ (List.mem_append_left _ (List.mem_append_left _ (List.mem_append_right _ h)))) (by decide +kernel))
set_option maxRecDepth 20000 in
theorem gL_step_X5_clear : GoodIn wsL_step (wsV RL 47 RX5 yX5_clear wsX5_clear) := goodIn_app (goodIn_of _ (by decide +kernel)) ggL_step_X5_clear
set_option maxRecDepth 20000 in
theorem ggL_step_X5_counters : GoodIn wsL_step wsX5_counters := goodIn_ca (goodIn_r _ [234, 7, 168, 9, 10, 5, 11, 12, 13, 257, 258, 259, 260, 261, 266, 267, 268, 269] (by decide +kernel) (by decide +kernel)) (goodIn_sub (fun _ h => List.mem_cons_of_mem _ (List.mem_append_left _ (List.mem_append_left _ (List.mem_append_right _ h)))) (by decide +kernel))
set_option maxRecDepth 20000 in
theorem gL_step_X5_counters : GoodIn wsL_step (wsV RL 50 RX5 yX5_counters wsX5_counters) := goodIn_app (goodIn_of _ (by decide +kernel)) ggL_step_X5_counters
set_option maxRecDepth 20000 in
theorem ggL_step_X5_share : GoodIn wsL_step wsX5_share := goodIn_ca (goodIn_r _ [238, 7, 8, 9, 10, 5, 11, 12, 13, 14, 15, 16, 17, 18, 19, 32, 33, 34, 35, 36, 37, 38, 39, 40, 41, 42, 43, 44, 45, 46, 47, 48, 49, 50, 51, 52, 53, 54, 55, 56, 57, 25, 26, 27, 257, 258, 259, 260, 261, 262, 263] (by decide +kernel) (by decide +kernel)) (goodIn_sub (fun _ h => List.mem_cons_of_mem _ (List.mem_append_left _ (List.mem_append_left _ (List.mem_append_right _ h)))) (by decide +kernel))
set_option maxRecDepth 20000 in
theorem gL_step_X5_share : GoodIn wsL_step (wsV RL 53 RX5 yX5_share wsX5_share) := goodIn_app (goodIn_of _ (by decide +kernel)) ggL_step_X5_share
set_option maxRecDepth 20000 in
theorem ggL_step_X5_signedProduct : GoodIn wsL_step wsX5_signedProduct := goodIn_ca (goodIn_r _ [242, 7, 72, 9, 10, 5, 11, 12, 13, 243, 244, 245, 64, 246, 247, 248, 249, 250, 251, 252, 74, 75, 76, 77, 253, 254, 255, 256, 257, 258, 259, 260, 261, 264, 265] (by decide +kernel) (by decide +kernel)) (goodIn_sub (fun _ h => List.mem_cons_of_mem _ (List.mem_append_left _ (List.mem_append_left _ (List.mem_append_right _ h)))) (by decide +kernel))
set_option maxRecDepth 20000 in
theorem gL_step_X5_signedProduct : GoodIn wsL_step (wsV RL 57 RX5 yX5_signedProduct wsX5_signedProduct) := goodIn_app (goodIn_of _ (by decide +kernel)) ggL_step_X5_signedProduct
theorem dL_step_0 : decode cL_step 0 = .ok (.iload_n 2, 1) := by decide +kernel
theorem dL_step_1 : decode cL_step 1 = .ok (.iconst 4, 1) := by decide +kernel
theorem dL_step_2 : decode cL_step 2 = .ok (.irem, 1) := by decide +kernel
theorem dL_step_3 : decode cL_step 3 = .ok (.istore 4, 2) := by decide +kernel
theorem dL_step_5 : decode cL_step 5 = .ok (.iload_n 2, 1) := by decide +kernel
theorem dL_step_6 : decode cL_step 6 = .ok (.iconst 4, 1) := by decide +kernel
theorem dL_step_7 : decode cL_step 7 = .ok (.idiv, 1) := by decide +kernel
theorem dL_step_8 : decode cL_step 8 = .ok (.iconst 4, 1) := by decide +kernel
theorem dL_step_9 : decode cL_step 9 = .ok (.irem, 1) := by decide +kernel
theorem dL_step_10 : decode cL_step 10 = .ok (.istore 5, 2) := by decide +kernel
theorem dL_step_12 : decode cL_step 12 = .ok (.aload_n 0, 1) := by decide +kernel
theorem dL_step_13 : decode cL_step 13 = .ok (.iload 4, 2) := by decide +kernel
theorem dL_step_15 : decode cL_step 15 = .ok (.invokevirtual 10, 3) := by decide +kernel
theorem dL_step_18 : decode cL_step 18 = .ok (.istore 6, 2) := by decide +kernel
theorem dL_step_20 : decode cL_step 20 = .ok (.iload_n 1, 1) := by decide +kernel
theorem dL_step_21 : decode cL_step 21 = .ok (.bipush 8, 2) := by decide +kernel
theorem dL_step_23 : decode cL_step 23 = .ok (.irem, 1) := by decide +kernel
theorem dL_step_24 : decode cL_step 24 = .ok (.bipush 6, 2) := by decide +kernel
theorem dL_step_26 : decode cL_step 26 = .ok (.if_icmp .ge 192, 3) := by decide +kernel
theorem dL_step_29 : decode cL_step 29 = .ok (.iload_n 2, 1) := by decide +kernel
theorem dL_step_30 : decode cL_step 30 = .ok (.bipush 16, 2) := by decide +kernel
theorem dL_step_32 : decode cL_step 32 = .ok (.idiv, 1) := by decide +kernel
theorem dL_step_33 : decode cL_step 33 = .ok (.iload_n 3, 1) := by decide +kernel
theorem dL_step_34 : decode cL_step 34 = .ok (.iconst 3, 1) := by decide +kernel
theorem dL_step_35 : decode cL_step 35 = .ok (.irem, 1) := by decide +kernel
theorem dL_step_36 : decode cL_step 36 = .ok (.ifCond .ne 8, 3) := by decide +kernel
theorem dL_step_39 : decode cL_step 39 = .ok (.bipush 64, 2) := by decide +kernel
theorem dL_step_41 : decode cL_step 41 = .ok (.goto 5, 3) := by decide +kernel
theorem dL_step_44 : decode cL_step 44 = .ok (.bipush 9, 2) := by decide +kernel
theorem dL_step_46 : decode cL_step 46 = .ok (.irem, 1) := by decide +kernel
theorem dL_step_47 : decode cL_step 47 = .ok (.istore 7, 2) := by decide +kernel
theorem dL_step_49 : decode cL_step 49 = .ok (.iconst 1, 1) := by decide +kernel
theorem dL_step_50 : decode cL_step 50 = .ok (.iload_n 3, 1) := by decide +kernel
theorem dL_step_51 : decode cL_step 51 = .ok (.iconst 3, 1) := by decide +kernel
theorem dL_step_52 : decode cL_step 52 = .ok (.idiv, 1) := by decide +kernel
theorem dL_step_53 : decode cL_step 53 = .ok (.iload_n 3, 1) := by decide +kernel
theorem dL_step_54 : decode cL_step 54 = .ok (.iconst 2, 1) := by decide +kernel
theorem dL_step_55 : decode cL_step 55 = .ok (.irem, 1) := by decide +kernel
theorem dL_step_56 : decode cL_step 56 = .ok (.ifCond .ne 9, 3) := by decide +kernel
theorem dL_step_59 : decode cL_step 59 = .ok (.sipush 1000, 3) := by decide +kernel
theorem dL_step_62 : decode cL_step 62 = .ok (.goto 5, 3) := by decide +kernel
theorem dL_step_65 : decode cL_step 65 = .ok (.bipush 12, 2) := by decide +kernel
theorem dL_step_67 : decode cL_step 67 = .ok (.irem, 1) := by decide +kernel
theorem dL_step_68 : decode cL_step 68 = .ok (.iadd, 1) := by decide +kernel
theorem dL_step_69 : decode cL_step 69 = .ok (.istore 8, 2) := by decide +kernel
theorem dL_step_71 : decode cL_step 71 = .ok (.iload 6, 2) := by decide +kernel
theorem dL_step_73 : decode cL_step 73 = .ok (.iload 8, 2) := by decide +kernel
theorem dL_step_75 : decode cL_step 75 = .ok (.iadd, 1) := by decide +kernel
theorem dL_step_76 : decode cL_step 76 = .ok (.ldc 16, 2) := by decide +kernel
theorem dL_step_78 : decode cL_step 78 = .ok (.if_icmp .le 16, 3) := by decide +kernel
theorem dL_step_81 : decode cL_step 81 = .ok (.iload 6, 2) := by decide +kernel
theorem dL_step_83 : decode cL_step 83 = .ok (.ldc 16, 2) := by decide +kernel
theorem dL_step_85 : decode cL_step 85 = .ok (.if_icmp .gt 7, 3) := by decide +kernel
theorem dL_step_88 : decode cL_step 88 = .ok (.iconst 1, 1) := by decide +kernel
theorem dL_step_89 : decode cL_step 89 = .ok (.goto 4, 3) := by decide +kernel
theorem dL_step_92 : decode cL_step 92 = .ok (.iconst 0, 1) := by decide +kernel
theorem dL_step_93 : decode cL_step 93 = .ok (.ireturn, 1) := by decide +kernel
theorem dL_step_94 : decode cL_step 94 = .ok (.aload_n 0, 1) := by decide +kernel
theorem dL_step_95 : decode cL_step 95 = .ok (.iload 4, 2) := by decide +kernel
theorem dL_step_97 : decode cL_step 97 = .ok (.iload 7, 2) := by decide +kernel
theorem dL_step_99 : decode cL_step 99 = .ok (.invokevirtual 17, 3) := by decide +kernel
theorem dL_step_102 : decode cL_step 102 = .ok (.istore 9, 2) := by decide +kernel
theorem dL_step_104 : decode cL_step 104 = .ok (.aload_n 0, 1) := by decide +kernel
theorem dL_step_105 : decode cL_step 105 = .ok (.iload 4, 2) := by decide +kernel
theorem dL_step_107 : decode cL_step 107 = .ok (.iconst 0, 1) := by decide +kernel
theorem dL_step_108 : decode cL_step 108 = .ok (.iload 7, 2) := by decide +kernel
theorem dL_step_110 : decode cL_step 110 = .ok (.invokevirtual 21, 3) := by decide +kernel
theorem dL_step_113 : decode cL_step 113 = .ok (.istore 10, 2) := by decide +kernel
theorem dL_step_115 : decode cL_step 115 = .ok (.aload_n 0, 1) := by decide +kernel
theorem dL_step_116 : decode cL_step 116 = .ok (.iload 4, 2) := by decide +kernel
theorem dL_step_118 : decode cL_step 118 = .ok (.iconst 2, 1) := by decide +kernel
theorem dL_step_119 : decode cL_step 119 = .ok (.aload_n 0, 1) := by decide +kernel
theorem dL_step_120 : decode cL_step 120 = .ok (.iconst 2, 1) := by decide +kernel
theorem dL_step_121 : decode cL_step 121 = .ok (.iload 7, 2) := by decide +kernel
theorem dL_step_123 : decode cL_step 123 = .ok (.invokevirtual 25, 3) := by decide +kernel
theorem dL_step_126 : decode cL_step 126 = .ok (.invokevirtual 28, 3) := by decide +kernel
theorem dL_step_129 : decode cL_step 129 = .ok (.istore 11, 2) := by decide +kernel
theorem dL_step_131 : decode cL_step 131 = .ok (.aload_n 0, 1) := by decide +kernel
theorem dL_step_132 : decode cL_step 132 = .ok (.iload 4, 2) := by decide +kernel
theorem dL_step_134 : decode cL_step 134 = .ok (.iload 7, 2) := by decide +kernel
theorem dL_step_136 : decode cL_step 136 = .ok (.iload 8, 2) := by decide +kernel
theorem dL_step_138 : decode cL_step 138 = .ok (.invokevirtual 31, 3) := by decide +kernel
theorem dL_step_141 : decode cL_step 141 = .ok (.iload 6, 2) := by decide +kernel
theorem dL_step_143 : decode cL_step 143 = .ok (.iload 8, 2) := by decide +kernel
theorem dL_step_145 : decode cL_step 145 = .ok (.iadd, 1) := by decide +kernel
theorem dL_step_146 : decode cL_step 146 = .ok (.if_icmp .ne 70, 3) := by decide +kernel
theorem dL_step_149 : decode cL_step 149 = .ok (.aload_n 0, 1) := by decide +kernel
theorem dL_step_150 : decode cL_step 150 = .ok (.iload 4, 2) := by decide +kernel
theorem dL_step_152 : decode cL_step 152 = .ok (.iload 7, 2) := by decide +kernel
theorem dL_step_154 : decode cL_step 154 = .ok (.invokevirtual 17, 3) := by decide +kernel
theorem dL_step_157 : decode cL_step 157 = .ok (.iload 9, 2) := by decide +kernel
theorem dL_step_159 : decode cL_step 159 = .ok (.iload 8, 2) := by decide +kernel
theorem dL_step_161 : decode cL_step 161 = .ok (.iadd, 1) := by decide +kernel
theorem dL_step_162 : decode cL_step 162 = .ok (.if_icmp .ne 54, 3) := by decide +kernel
theorem dL_step_165 : decode cL_step 165 = .ok (.aload_n 0, 1) := by decide +kernel
theorem dL_step_166 : decode cL_step 166 = .ok (.iload 4, 2) := by decide +kernel
theorem dL_step_168 : decode cL_step 168 = .ok (.iconst 0, 1) := by decide +kernel
theorem dL_step_169 : decode cL_step 169 = .ok (.iload 7, 2) := by decide +kernel
theorem dL_step_171 : decode cL_step 171 = .ok (.invokevirtual 21, 3) := by decide +kernel
theorem dL_step_174 : decode cL_step 174 = .ok (.iload 10, 2) := by decide +kernel
theorem dL_step_176 : decode cL_step 176 = .ok (.iload 8, 2) := by decide +kernel
theorem dL_step_178 : decode cL_step 178 = .ok (.iadd, 1) := by decide +kernel
theorem dL_step_179 : decode cL_step 179 = .ok (.if_icmp .ne 37, 3) := by decide +kernel
theorem dL_step_182 : decode cL_step 182 = .ok (.aload_n 0, 1) := by decide +kernel
theorem dL_step_183 : decode cL_step 183 = .ok (.iload 4, 2) := by decide +kernel
theorem dL_step_185 : decode cL_step 185 = .ok (.iconst 2, 1) := by decide +kernel
theorem dL_step_186 : decode cL_step 186 = .ok (.aload_n 0, 1) := by decide +kernel
theorem dL_step_187 : decode cL_step 187 = .ok (.iconst 2, 1) := by decide +kernel
theorem dL_step_188 : decode cL_step 188 = .ok (.iload 7, 2) := by decide +kernel
theorem dL_step_190 : decode cL_step 190 = .ok (.invokevirtual 25, 3) := by decide +kernel
theorem dL_step_193 : decode cL_step 193 = .ok (.invokevirtual 28, 3) := by decide +kernel
theorem dL_step_196 : decode cL_step 196 = .ok (.iload 11, 2) := by decide +kernel
theorem dL_step_198 : decode cL_step 198 = .ok (.aload_n 0, 1) := by decide +kernel
theorem dL_step_199 : decode cL_step 199 = .ok (.iconst 2, 1) := by decide +kernel
theorem dL_step_200 : decode cL_step 200 = .ok (.iload 7, 2) := by decide +kernel
theorem dL_step_202 : decode cL_step 202 = .ok (.invokevirtual 34, 3) := by decide +kernel
theorem dL_step_205 : decode cL_step 205 = .ok (.iload 8, 2) := by decide +kernel
theorem dL_step_207 : decode cL_step 207 = .ok (.imul, 1) := by decide +kernel
theorem dL_step_208 : decode cL_step 208 = .ok (.iadd, 1) := by decide +kernel
theorem dL_step_209 : decode cL_step 209 = .ok (.if_icmp .ne 7, 3) := by decide +kernel
theorem dL_step_212 : decode cL_step 212 = .ok (.iconst 1, 1) := by decide +kernel
theorem dL_step_213 : decode cL_step 213 = .ok (.goto 4, 3) := by decide +kernel
theorem dL_step_216 : decode cL_step 216 = .ok (.iconst 0, 1) := by decide +kernel
theorem dL_step_217 : decode cL_step 217 = .ok (.ireturn, 1) := by decide +kernel
theorem dL_step_218 : decode cL_step 218 = .ok (.iload_n 1, 1) := by decide +kernel
theorem dL_step_219 : decode cL_step 219 = .ok (.bipush 8, 2) := by decide +kernel
theorem dL_step_221 : decode cL_step 221 = .ok (.irem, 1) := by decide +kernel
theorem dL_step_222 : decode cL_step 222 = .ok (.bipush 6, 2) := by decide +kernel
theorem dL_step_224 : decode cL_step 224 = .ok (.if_icmp .ne 167, 3) := by decide +kernel
theorem dL_step_227 : decode cL_step 227 = .ok (.iload 4, 2) := by decide +kernel
theorem dL_step_229 : decode cL_step 229 = .ok (.iload 5, 2) := by decide +kernel
theorem dL_step_231 : decode cL_step 231 = .ok (.if_icmp .eq 160, 3) := by decide +kernel
theorem dL_step_234 : decode cL_step 234 = .ok (.iload 6, 2) := by decide +kernel
theorem dL_step_236 : decode cL_step 236 = .ok (.aload_n 0, 1) := by decide +kernel
theorem dL_step_237 : decode cL_step 237 = .ok (.iload 5, 2) := by decide +kernel
theorem dL_step_239 : decode cL_step 239 = .ok (.invokevirtual 10, 3) := by decide +kernel
theorem dL_step_242 : decode cL_step 242 = .ok (.iadd, 1) := by decide +kernel
theorem dL_step_243 : decode cL_step 243 = .ok (.ldc 16, 2) := by decide +kernel
theorem dL_step_245 : decode cL_step 245 = .ok (.if_icmp .gt 146, 3) := by decide +kernel
theorem dL_step_248 : decode cL_step 248 = .ok (.aload_n 0, 1) := by decide +kernel
theorem dL_step_249 : decode cL_step 249 = .ok (.iload 4, 2) := by decide +kernel
theorem dL_step_251 : decode cL_step 251 = .ok (.iload_n 2, 1) := by decide +kernel
theorem dL_step_252 : decode cL_step 252 = .ok (.bipush 16, 2) := by decide +kernel
theorem dL_step_254 : decode cL_step 254 = .ok (.idiv, 1) := by decide +kernel
theorem dL_step_255 : decode cL_step 255 = .ok (.bipush 64, 2) := by decide +kernel
theorem dL_step_257 : decode cL_step 257 = .ok (.irem, 1) := by decide +kernel
theorem dL_step_258 : decode cL_step 258 = .ok (.invokevirtual 17, 3) := by decide +kernel
theorem dL_step_261 : decode cL_step 261 = .ok (.aload_n 0, 1) := by decide +kernel
theorem dL_step_262 : decode cL_step 262 = .ok (.iload 5, 2) := by decide +kernel
theorem dL_step_264 : decode cL_step 264 = .ok (.iload_n 2, 1) := by decide +kernel
theorem dL_step_265 : decode cL_step 265 = .ok (.bipush 16, 2) := by decide +kernel
theorem dL_step_267 : decode cL_step 267 = .ok (.idiv, 1) := by decide +kernel
theorem dL_step_268 : decode cL_step 268 = .ok (.bipush 64, 2) := by decide +kernel
theorem dL_step_270 : decode cL_step 270 = .ok (.irem, 1) := by decide +kernel
theorem dL_step_271 : decode cL_step 271 = .ok (.invokevirtual 17, 3) := by decide +kernel
theorem dL_step_274 : decode cL_step 274 = .ok (.iadd, 1) := by decide +kernel
theorem dL_step_275 : decode cL_step 275 = .ok (.istore 7, 2) := by decide +kernel
theorem dL_step_277 : decode cL_step 277 = .ok (.aload_n 0, 1) := by decide +kernel
theorem dL_step_278 : decode cL_step 278 = .ok (.iload 4, 2) := by decide +kernel
theorem dL_step_280 : decode cL_step 280 = .ok (.iconst 1, 1) := by decide +kernel
theorem dL_step_281 : decode cL_step 281 = .ok (.iconst 2, 1) := by decide +kernel
theorem dL_step_282 : decode cL_step 282 = .ok (.iload_n 3, 1) := by decide +kernel
theorem dL_step_283 : decode cL_step 283 = .ok (.bipush 8, 2) := by decide +kernel
theorem dL_step_285 : decode cL_step 285 = .ok (.irem, 1) := by decide +kernel
theorem dL_step_286 : decode cL_step 286 = .ok (.invokevirtual 37, 3) := by decide +kernel
theorem dL_step_289 : decode cL_step 289 = .ok (.aload_n 0, 1) := by decide +kernel
theorem dL_step_290 : decode cL_step 290 = .ok (.iload 5, 2) := by decide +kernel
theorem dL_step_292 : decode cL_step 292 = .ok (.iconst 1, 1) := by decide +kernel
theorem dL_step_293 : decode cL_step 293 = .ok (.iconst 2, 1) := by decide +kernel
theorem dL_step_294 : decode cL_step 294 = .ok (.iload_n 3, 1) := by decide +kernel
theorem dL_step_295 : decode cL_step 295 = .ok (.bipush 8, 2) := by decide +kernel
theorem dL_step_297 : decode cL_step 297 = .ok (.irem, 1) := by decide +kernel
theorem dL_step_298 : decode cL_step 298 = .ok (.invokevirtual 37, 3) := by decide +kernel
theorem dL_step_301 : decode cL_step 301 = .ok (.iadd, 1) := by decide +kernel
theorem dL_step_302 : decode cL_step 302 = .ok (.istore 8, 2) := by decide +kernel
theorem dL_step_304 : decode cL_step 304 = .ok (.aload_n 0, 1) := by decide +kernel
theorem dL_step_305 : decode cL_step 305 = .ok (.iload 4, 2) := by decide +kernel
theorem dL_step_307 : decode cL_step 307 = .ok (.invokevirtual 41, 3) := by decide +kernel
theorem dL_step_310 : decode cL_step 310 = .ok (.aload_n 0, 1) := by decide +kernel
theorem dL_step_311 : decode cL_step 311 = .ok (.iload 5, 2) := by decide +kernel
theorem dL_step_313 : decode cL_step 313 = .ok (.invokevirtual 41, 3) := by decide +kernel
theorem dL_step_316 : decode cL_step 316 = .ok (.iadd, 1) := by decide +kernel
theorem dL_step_317 : decode cL_step 317 = .ok (.istore 9, 2) := by decide +kernel
theorem dL_step_319 : decode cL_step 319 = .ok (.aload_n 0, 1) := by decide +kernel
theorem dL_step_320 : decode cL_step 320 = .ok (.iload 4, 2) := by decide +kernel
theorem dL_step_322 : decode cL_step 322 = .ok (.iload 5, 2) := by decide +kernel
theorem dL_step_324 : decode cL_step 324 = .ok (.invokevirtual 44, 3) := by decide +kernel
theorem dL_step_327 : decode cL_step 327 = .ok (.iload 6, 2) := by decide +kernel
theorem dL_step_329 : decode cL_step 329 = .ok (.aload_n 0, 1) := by decide +kernel
theorem dL_step_330 : decode cL_step 330 = .ok (.iload 5, 2) := by decide +kernel
theorem dL_step_332 : decode cL_step 332 = .ok (.invokevirtual 10, 3) := by decide +kernel
theorem dL_step_335 : decode cL_step 335 = .ok (.iadd, 1) := by decide +kernel
theorem dL_step_336 : decode cL_step 336 = .ok (.if_icmp .ne 53, 3) := by decide +kernel
theorem dL_step_339 : decode cL_step 339 = .ok (.aload_n 0, 1) := by decide +kernel
theorem dL_step_340 : decode cL_step 340 = .ok (.iload 4, 2) := by decide +kernel
theorem dL_step_342 : decode cL_step 342 = .ok (.iload_n 2, 1) := by decide +kernel
theorem dL_step_343 : decode cL_step 343 = .ok (.bipush 16, 2) := by decide +kernel
theorem dL_step_345 : decode cL_step 345 = .ok (.idiv, 1) := by decide +kernel
theorem dL_step_346 : decode cL_step 346 = .ok (.bipush 64, 2) := by decide +kernel
theorem dL_step_348 : decode cL_step 348 = .ok (.irem, 1) := by decide +kernel
theorem dL_step_349 : decode cL_step 349 = .ok (.invokevirtual 17, 3) := by decide +kernel
theorem dL_step_352 : decode cL_step 352 = .ok (.iload 7, 2) := by decide +kernel
theorem dL_step_354 : decode cL_step 354 = .ok (.if_icmp .ne 35, 3) := by decide +kernel
theorem dL_step_357 : decode cL_step 357 = .ok (.aload_n 0, 1) := by decide +kernel
theorem dL_step_358 : decode cL_step 358 = .ok (.iload 4, 2) := by decide +kernel
theorem dL_step_360 : decode cL_step 360 = .ok (.iconst 1, 1) := by decide +kernel
theorem dL_step_361 : decode cL_step 361 = .ok (.iconst 2, 1) := by decide +kernel
theorem dL_step_362 : decode cL_step 362 = .ok (.iload_n 3, 1) := by decide +kernel
theorem dL_step_363 : decode cL_step 363 = .ok (.bipush 8, 2) := by decide +kernel
theorem dL_step_365 : decode cL_step 365 = .ok (.irem, 1) := by decide +kernel
theorem dL_step_366 : decode cL_step 366 = .ok (.invokevirtual 37, 3) := by decide +kernel
theorem dL_step_369 : decode cL_step 369 = .ok (.iload 8, 2) := by decide +kernel
theorem dL_step_371 : decode cL_step 371 = .ok (.if_icmp .ne 18, 3) := by decide +kernel
theorem dL_step_374 : decode cL_step 374 = .ok (.aload_n 0, 1) := by decide +kernel
theorem dL_step_375 : decode cL_step 375 = .ok (.iload 4, 2) := by decide +kernel
theorem dL_step_377 : decode cL_step 377 = .ok (.invokevirtual 41, 3) := by decide +kernel
theorem dL_step_380 : decode cL_step 380 = .ok (.iload 9, 2) := by decide +kernel
theorem dL_step_382 : decode cL_step 382 = .ok (.if_icmp .lt 7, 3) := by decide +kernel
theorem dL_step_385 : decode cL_step 385 = .ok (.iconst 1, 1) := by decide +kernel
theorem dL_step_386 : decode cL_step 386 = .ok (.goto 4, 3) := by decide +kernel
theorem dL_step_389 : decode cL_step 389 = .ok (.iconst 0, 1) := by decide +kernel
theorem dL_step_390 : decode cL_step 390 = .ok (.ireturn, 1) := by decide +kernel
theorem dL_step_391 : decode cL_step 391 = .ok (.iload_n 3, 1) := by decide +kernel
theorem dL_step_392 : decode cL_step 392 = .ok (.iconst 5, 1) := by decide +kernel
theorem dL_step_393 : decode cL_step 393 = .ok (.irem, 1) := by decide +kernel
theorem dL_step_394 : decode cL_step 394 = .ok (.ifCond .gt 72, 3) := by decide +kernel
theorem dL_step_397 : decode cL_step 397 = .ok (.aload_n 0, 1) := by decide +kernel
theorem dL_step_398 : decode cL_step 398 = .ok (.iload 4, 2) := by decide +kernel
theorem dL_step_400 : decode cL_step 400 = .ok (.invokevirtual 47, 3) := by decide +kernel
theorem dL_step_403 : decode cL_step 403 = .ok (.iload 6, 2) := by decide +kernel
theorem dL_step_405 : decode cL_step 405 = .ok (.if_icmp .ne 65, 3) := by decide +kernel
theorem dL_step_408 : decode cL_step 408 = .ok (.aload_n 0, 1) := by decide +kernel
theorem dL_step_409 : decode cL_step 409 = .ok (.iload 4, 2) := by decide +kernel
theorem dL_step_411 : decode cL_step 411 = .ok (.invokevirtual 10, 3) := by decide +kernel
theorem dL_step_414 : decode cL_step 414 = .ok (.ifCond .ne 56, 3) := by decide +kernel
theorem dL_step_417 : decode cL_step 417 = .ok (.aload_n 0, 1) := by decide +kernel
theorem dL_step_418 : decode cL_step 418 = .ok (.iload 4, 2) := by decide +kernel
theorem dL_step_420 : decode cL_step 420 = .ok (.invokevirtual 50, 3) := by decide +kernel
theorem dL_step_423 : decode cL_step 423 = .ok (.ifCond .ne 47, 3) := by decide +kernel
theorem dL_step_426 : decode cL_step 426 = .ok (.aload_n 0, 1) := by decide +kernel
theorem dL_step_427 : decode cL_step 427 = .ok (.iload 4, 2) := by decide +kernel
theorem dL_step_429 : decode cL_step 429 = .ok (.invokevirtual 41, 3) := by decide +kernel
theorem dL_step_432 : decode cL_step 432 = .ok (.ifCond .ne 38, 3) := by decide +kernel
theorem dL_step_435 : decode cL_step 435 = .ok (.aload_n 0, 1) := by decide +kernel
theorem dL_step_436 : decode cL_step 436 = .ok (.iload 4, 2) := by decide +kernel
theorem dL_step_438 : decode cL_step 438 = .ok (.iload_n 2, 1) := by decide +kernel
theorem dL_step_439 : decode cL_step 439 = .ok (.bipush 16, 2) := by decide +kernel
theorem dL_step_441 : decode cL_step 441 = .ok (.idiv, 1) := by decide +kernel
theorem dL_step_442 : decode cL_step 442 = .ok (.bipush 64, 2) := by decide +kernel
theorem dL_step_444 : decode cL_step 444 = .ok (.irem, 1) := by decide +kernel
theorem dL_step_445 : decode cL_step 445 = .ok (.invokevirtual 53, 3) := by decide +kernel
theorem dL_step_448 : decode cL_step 448 = .ok (.dconst 0, 1) := by decide +kernel
theorem dL_step_449 : decode cL_step 449 = .ok (.dcmp .l, 1) := by decide +kernel
theorem dL_step_450 : decode cL_step 450 = .ok (.ifCond .ne 20, 3) := by decide +kernel
theorem dL_step_453 : decode cL_step 453 = .ok (.aload_n 0, 1) := by decide +kernel
theorem dL_step_454 : decode cL_step 454 = .ok (.iload 4, 2) := by decide +kernel
theorem dL_step_456 : decode cL_step 456 = .ok (.iload 5, 2) := by decide +kernel
theorem dL_step_458 : decode cL_step 458 = .ok (.invokevirtual 57, 3) := by decide +kernel
theorem dL_step_461 : decode cL_step 461 = .ok (.lconst 0, 1) := by decide +kernel
theorem dL_step_462 : decode cL_step 462 = .ok (.lcmp, 1) := by decide +kernel
theorem dL_step_463 : decode cL_step 463 = .ok (.ifCond .ne 7, 3) := by decide +kernel
theorem dL_step_466 : decode cL_step 466 = .ok (.iconst 1, 1) := by decide +kernel
theorem dL_step_467 : decode cL_step 467 = .ok (.goto 4, 3) := by decide +kernel
theorem dL_step_470 : decode cL_step 470 = .ok (.iconst 0, 1) := by decide +kernel
theorem dL_step_471 : decode cL_step 471 = .ok (.ireturn, 1) := by decide +kernel
set_option maxRecDepth 20000 in
theorem ggL_areHalves_X5_estimate : GoodIn wsL_areHalves wsX5_estimate := goodIn_ca (goodIn_r _ [5, 6, 7, 8, 4, 9, 10, 11, 12, 13, 14, 15, 16, 17, 18, 19, 20, 21, 22, 23, 24, 25, 26, 27, 28, 29, 30, 31, 32, 33, 34, 35, 36, 37, 38, 39, 40, 41, 42, 79, 80, 81, 82, 83, 84, 85] (by decide +kernel) (by decide +kernel)) (goodIn_sub (fun _ h => List.mem_cons_of_mem _ (List.mem_append_left _ (List.mem_append_right _ h))) (by decide +kernel))
set_option maxRecDepth 20000 in
theorem gL_areHalves_X5_estimate : GoodIn wsL_areHalves (wsV RL 21 RX5 yX5_estimate wsX5_estimate) := goodIn_app (goodIn_of _ (by decide +kernel)) ggL_areHalves_X5_estimate
set_option maxRecDepth 20000 in
theorem ggL_areHalves_X5_total : GoodIn wsL_areHalves wsX5_total := goodIn_ca (goodIn_r _ [46, 6, 47, 7, 8, 4, 9, 10, 11, 48, 49, 50, 40, 51, 42, 79, 80, 81, 82, 83, 85] (by decide +kernel) (by decide +kernel)) (goodIn_sub (fun _ h => List.mem_cons_of_mem _ (List.mem_append_left _ (List.mem_append_right _ h))) (by decide +kernel))
set_option maxRecDepth 20000 in
theorem gL_areHalves_X5_total : GoodIn wsL_areHalves (wsV RL 10 RX5 yX5_total wsX5_total) := goodIn_app (goodIn_of _ (by decide +kernel)) ggL_areHalves_X5_total
set_option maxRecDepth 20000 in
theorem ggL_areHalves_X5_countOfRange : GoodIn wsL_areHalves wsX5_countOfRange := goodIn_ca (goodIn_ca (goodIn_r _ [55, 6, 47, 7, 8, 4, 9, 10, 11, 56, 57, 58, 59, 60, 61, 62, 63, 40, 64, 42, 79, 80, 81, 82, 83, 85] (by decide +kernel) (by decide +kernel)) (goodIn_sub (fun _ h => List.mem_cons_of_mem _ (List.mem_append_left _ (List.mem_append_right _ h))) (by decide +kernel))) (goodIn_sub (fun _ h => List.mem_cons_of_mem _ (List.mem_append_right _ h)) (by decide +kernel))
set_option maxRecDepth 20000 in
theorem gL_areHalves_X5_countOfRange : GoodIn wsL_areHalves (wsV RL 61 RX5 yX5_countOfRange wsX5_countOfRange) := goodIn_app (goodIn_of _ (by decide +kernel)) ggL_areHalves_X5_countOfRange
set_option maxRecDepth 20000 in
theorem ggL_areHalves_X5_column : GoodIn wsL_areHalves wsX5_column := goodIn_ca (goodIn_r _ [68, 7, 8, 4, 9, 10, 11, 69, 33, 22, 34, 35, 36] (by decide +kernel) (by decide +kernel)) (goodIn_sub (fun _ h => List.mem_cons_of_mem _ (List.mem_append_left _ (List.mem_append_right _ h))) (by decide +kernel))
set_option maxRecDepth 20000 in
theorem gL_areHalves_X5_column : GoodIn wsL_areHalves (wsV RL 64 RX5 yX5_column wsX5_column) := goodIn_app (goodIn_of _ (by decide +kernel)) ggL_areHalves_X5_column
set_option maxRecDepth 20000 in
theorem ggL_areHalves_X5_cell : GoodIn wsL_areHalves wsX5_cell := goodIn_ca (goodIn_r _ [73, 6, 74, 7, 8, 4, 9, 10, 11, 75, 76, 77, 22, 78, 24, 79, 80, 81, 82, 83, 84] (by decide +kernel) (by decide +kernel)) (goodIn_sub (fun _ h => List.mem_cons_of_mem _ (List.mem_append_left _ (List.mem_append_right _ h))) (by decide +kernel))
set_option maxRecDepth 20000 in
theorem gL_areHalves_X5_cell : GoodIn wsL_areHalves (wsV RL 37 RX5 yX5_cell wsX5_cell) := goodIn_app (goodIn_of _ (by decide +kernel)) ggL_areHalves_X5_cell
