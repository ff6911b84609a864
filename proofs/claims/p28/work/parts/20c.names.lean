theorem dL_areHalves_0 : decode cL_areHalves 0 = .ok (.aload_n 0, 1) := by decide +kernel
theorem dL_areHalves_1 : decode cL_areHalves 1 = .ok (.iload_n 1, 1) := by decide +kernel
theorem dL_areHalves_2 : decode cL_areHalves 2 = .ok (.bipush 6, 2) := by decide +kernel
theorem dL_areHalves_4 : decode cL_areHalves 4 = .ok (.iconst 0, 1) := by decide +kernel
theorem dL_areHalves_5 : decode cL_areHalves 5 = .ok (.invokevirtual 21, 3) := by decide +kernel
theorem dL_areHalves_8 : decode cL_areHalves 8 = .ok (.aload_n 0, 1) := by decide +kernel
theorem dL_areHalves_9 : decode cL_areHalves 9 = .ok (.iload_n 1, 1) := by decide +kernel
theorem dL_areHalves_10 : decode cL_areHalves 10 = .ok (.invokevirtual 10, 3) := by decide +kernel
theorem dL_areHalves_13 : decode cL_areHalves 13 = .ok (.if_icmp .ne 7, 3) := by decide +kernel
theorem dL_areHalves_16 : decode cL_areHalves 16 = .ok (.iconst 1, 1) := by decide +kernel
theorem dL_areHalves_17 : decode cL_areHalves 17 = .ok (.goto 4, 3) := by decide +kernel
theorem dL_areHalves_20 : decode cL_areHalves 20 = .ok (.iconst 0, 1) := by decide +kernel
theorem dL_areHalves_21 : decode cL_areHalves 21 = .ok (.istore_n 2, 1) := by decide +kernel
theorem dL_areHalves_22 : decode cL_areHalves 22 = .ok (.iconst 0, 1) := by decide +kernel
theorem dL_areHalves_23 : decode cL_areHalves 23 = .ok (.istore_n 3, 1) := by decide +kernel
theorem dL_areHalves_24 : decode cL_areHalves 24 = .ok (.iload_n 3, 1) := by decide +kernel
theorem dL_areHalves_25 : decode cL_areHalves 25 = .ok (.bipush 7, 2) := by decide +kernel
theorem dL_areHalves_27 : decode cL_areHalves 27 = .ok (.if_icmp .ge 200, 3) := by decide +kernel
theorem dL_areHalves_30 : decode cL_areHalves 30 = .ok (.iconst 0, 1) := by decide +kernel
theorem dL_areHalves_31 : decode cL_areHalves 31 = .ok (.istore 4, 2) := by decide +kernel
theorem dL_areHalves_33 : decode cL_areHalves 33 = .ok (.iload 4, 2) := by decide +kernel
theorem dL_areHalves_35 : decode cL_areHalves 35 = .ok (.bipush 64, 2) := by decide +kernel
theorem dL_areHalves_37 : decode cL_areHalves 37 = .ok (.iload_n 3, 1) := by decide +kernel
theorem dL_areHalves_38 : decode cL_areHalves 38 = .ok (.ishr, 1) := by decide +kernel
theorem dL_areHalves_39 : decode cL_areHalves 39 = .ok (.if_icmp .ge 182, 3) := by decide +kernel
theorem dL_areHalves_42 : decode cL_areHalves 42 = .ok (.aload_n 0, 1) := by decide +kernel
theorem dL_areHalves_43 : decode cL_areHalves 43 = .ok (.iload_n 1, 1) := by decide +kernel
theorem dL_areHalves_44 : decode cL_areHalves 44 = .ok (.iload_n 3, 1) := by decide +kernel
theorem dL_areHalves_45 : decode cL_areHalves 45 = .ok (.iload 4, 2) := by decide +kernel
theorem dL_areHalves_47 : decode cL_areHalves 47 = .ok (.invokevirtual 21, 3) := by decide +kernel
theorem dL_areHalves_50 : decode cL_areHalves 50 = .ok (.istore 5, 2) := by decide +kernel
theorem dL_areHalves_52 : decode cL_areHalves 52 = .ok (.aload_n 0, 1) := by decide +kernel
theorem dL_areHalves_53 : decode cL_areHalves 53 = .ok (.iload_n 1, 1) := by decide +kernel
theorem dL_areHalves_54 : decode cL_areHalves 54 = .ok (.iload 4, 2) := by decide +kernel
theorem dL_areHalves_56 : decode cL_areHalves 56 = .ok (.iload_n 3, 1) := by decide +kernel
theorem dL_areHalves_57 : decode cL_areHalves 57 = .ok (.ishl, 1) := by decide +kernel
theorem dL_areHalves_58 : decode cL_areHalves 58 = .ok (.iload 4, 2) := by decide +kernel
theorem dL_areHalves_60 : decode cL_areHalves 60 = .ok (.iconst 1, 1) := by decide +kernel
theorem dL_areHalves_61 : decode cL_areHalves 61 = .ok (.iadd, 1) := by decide +kernel
theorem dL_areHalves_62 : decode cL_areHalves 62 = .ok (.iload_n 3, 1) := by decide +kernel
theorem dL_areHalves_63 : decode cL_areHalves 63 = .ok (.ishl, 1) := by decide +kernel
theorem dL_areHalves_64 : decode cL_areHalves 64 = .ok (.iconst 1, 1) := by decide +kernel
theorem dL_areHalves_65 : decode cL_areHalves 65 = .ok (.isub, 1) := by decide +kernel
theorem dL_areHalves_66 : decode cL_areHalves 66 = .ok (.invokevirtual 61, 3) := by decide +kernel
theorem dL_areHalves_69 : decode cL_areHalves 69 = .ok (.istore 6, 2) := by decide +kernel
theorem dL_areHalves_71 : decode cL_areHalves 71 = .ok (.iload_n 2, 1) := by decide +kernel
theorem dL_areHalves_72 : decode cL_areHalves 72 = .ok (.ifCond .eq 36, 3) := by decide +kernel
theorem dL_areHalves_75 : decode cL_areHalves 75 = .ok (.iload 5, 2) := by decide +kernel
theorem dL_areHalves_77 : decode cL_areHalves 77 = .ok (.iload 6, 2) := by decide +kernel
theorem dL_areHalves_79 : decode cL_areHalves 79 = .ok (.if_icmp .lt 29, 3) := by decide +kernel
theorem dL_areHalves_82 : decode cL_areHalves 82 = .ok (.iload 5, 2) := by decide +kernel
theorem dL_areHalves_84 : decode cL_areHalves 84 = .ok (.aload_n 0, 1) := by decide +kernel
theorem dL_areHalves_85 : decode cL_areHalves 85 = .ok (.iload_n 1, 1) := by decide +kernel
theorem dL_areHalves_86 : decode cL_areHalves 86 = .ok (.invokevirtual 10, 3) := by decide +kernel
theorem dL_areHalves_89 : decode cL_areHalves 89 = .ok (.if_icmp .gt 19, 3) := by decide +kernel
theorem dL_areHalves_92 : decode cL_areHalves 92 = .ok (.iload_n 3, 1) := by decide +kernel
theorem dL_areHalves_93 : decode cL_areHalves 93 = .ok (.iconst 3, 1) := by decide +kernel
theorem dL_areHalves_94 : decode cL_areHalves 94 = .ok (.if_icmp .lt 10, 3) := by decide +kernel
theorem dL_areHalves_97 : decode cL_areHalves 97 = .ok (.iload 5, 2) := by decide +kernel
theorem dL_areHalves_99 : decode cL_areHalves 99 = .ok (.iload 6, 2) := by decide +kernel
theorem dL_areHalves_101 : decode cL_areHalves 101 = .ok (.if_icmp .ne 7, 3) := by decide +kernel
theorem dL_areHalves_104 : decode cL_areHalves 104 = .ok (.iconst 1, 1) := by decide +kernel
theorem dL_areHalves_105 : decode cL_areHalves 105 = .ok (.goto 4, 3) := by decide +kernel
theorem dL_areHalves_108 : decode cL_areHalves 108 = .ok (.iconst 0, 1) := by decide +kernel
theorem dL_areHalves_109 : decode cL_areHalves 109 = .ok (.istore_n 2, 1) := by decide +kernel
theorem dL_areHalves_110 : decode cL_areHalves 110 = .ok (.iload_n 3, 1) := by decide +kernel
theorem dL_areHalves_111 : decode cL_areHalves 111 = .ok (.iconst 3, 1) := by decide +kernel
theorem dL_areHalves_112 : decode cL_areHalves 112 = .ok (.if_icmp .ge 103, 3) := by decide +kernel
theorem dL_areHalves_115 : decode cL_areHalves 115 = .ok (.aload_n 0, 1) := by decide +kernel
theorem dL_areHalves_116 : decode cL_areHalves 116 = .ok (.iload_n 1, 1) := by decide +kernel
theorem dL_areHalves_117 : decode cL_areHalves 117 = .ok (.iload_n 3, 1) := by decide +kernel
theorem dL_areHalves_118 : decode cL_areHalves 118 = .ok (.iconst 0, 1) := by decide +kernel
theorem dL_areHalves_119 : decode cL_areHalves 119 = .ok (.aload_n 0, 1) := by decide +kernel
theorem dL_areHalves_120 : decode cL_areHalves 120 = .ok (.iconst 0, 1) := by decide +kernel
theorem dL_areHalves_121 : decode cL_areHalves 121 = .ok (.iload 4, 2) := by decide +kernel
theorem dL_areHalves_123 : decode cL_areHalves 123 = .ok (.invokevirtual 64, 3) := by decide +kernel
theorem dL_areHalves_126 : decode cL_areHalves 126 = .ok (.invokevirtual 37, 3) := by decide +kernel
theorem dL_areHalves_129 : decode cL_areHalves 129 = .ok (.istore 7, 2) := by decide +kernel
theorem dL_areHalves_131 : decode cL_areHalves 131 = .ok (.aload_n 0, 1) := by decide +kernel
theorem dL_areHalves_132 : decode cL_areHalves 132 = .ok (.iload_n 1, 1) := by decide +kernel
theorem dL_areHalves_133 : decode cL_areHalves 133 = .ok (.iload_n 3, 1) := by decide +kernel
theorem dL_areHalves_134 : decode cL_areHalves 134 = .ok (.iconst 1, 1) := by decide +kernel
theorem dL_areHalves_135 : decode cL_areHalves 135 = .ok (.aload_n 0, 1) := by decide +kernel
theorem dL_areHalves_136 : decode cL_areHalves 136 = .ok (.iconst 1, 1) := by decide +kernel
theorem dL_areHalves_137 : decode cL_areHalves 137 = .ok (.iload 4, 2) := by decide +kernel
theorem dL_areHalves_139 : decode cL_areHalves 139 = .ok (.invokevirtual 64, 3) := by decide +kernel
theorem dL_areHalves_142 : decode cL_areHalves 142 = .ok (.invokevirtual 37, 3) := by decide +kernel
theorem dL_areHalves_145 : decode cL_areHalves 145 = .ok (.istore 8, 2) := by decide +kernel
theorem dL_areHalves_147 : decode cL_areHalves 147 = .ok (.aload_n 0, 1) := by decide +kernel
theorem dL_areHalves_148 : decode cL_areHalves 148 = .ok (.iload_n 1, 1) := by decide +kernel
theorem dL_areHalves_149 : decode cL_areHalves 149 = .ok (.iload_n 3, 1) := by decide +kernel
theorem dL_areHalves_150 : decode cL_areHalves 150 = .ok (.iconst 2, 1) := by decide +kernel
theorem dL_areHalves_151 : decode cL_areHalves 151 = .ok (.aload_n 0, 1) := by decide +kernel
theorem dL_areHalves_152 : decode cL_areHalves 152 = .ok (.iconst 2, 1) := by decide +kernel
theorem dL_areHalves_153 : decode cL_areHalves 153 = .ok (.iload 4, 2) := by decide +kernel
theorem dL_areHalves_155 : decode cL_areHalves 155 = .ok (.invokevirtual 64, 3) := by decide +kernel
theorem dL_areHalves_158 : decode cL_areHalves 158 = .ok (.invokevirtual 37, 3) := by decide +kernel
theorem dL_areHalves_161 : decode cL_areHalves 161 = .ok (.istore 9, 2) := by decide +kernel
theorem dL_areHalves_163 : decode cL_areHalves 163 = .ok (.iload_n 2, 1) := by decide +kernel
theorem dL_areHalves_164 : decode cL_areHalves 164 = .ok (.ifCond .eq 49, 3) := by decide +kernel
theorem dL_areHalves_167 : decode cL_areHalves 167 = .ok (.iload 5, 2) := by decide +kernel
theorem dL_areHalves_169 : decode cL_areHalves 169 = .ok (.iload 7, 2) := by decide +kernel
theorem dL_areHalves_171 : decode cL_areHalves 171 = .ok (.if_icmp .gt 42, 3) := by decide +kernel
theorem dL_areHalves_174 : decode cL_areHalves 174 = .ok (.iload 5, 2) := by decide +kernel
theorem dL_areHalves_176 : decode cL_areHalves 176 = .ok (.iload 8, 2) := by decide +kernel
theorem dL_areHalves_178 : decode cL_areHalves 178 = .ok (.if_icmp .gt 35, 3) := by decide +kernel
theorem dL_areHalves_181 : decode cL_areHalves 181 = .ok (.iload 5, 2) := by decide +kernel
theorem dL_areHalves_183 : decode cL_areHalves 183 = .ok (.iload 9, 2) := by decide +kernel
theorem dL_areHalves_185 : decode cL_areHalves 185 = .ok (.if_icmp .gt 28, 3) := by decide +kernel
theorem dL_areHalves_188 : decode cL_areHalves 188 = .ok (.iload 5, 2) := by decide +kernel
theorem dL_areHalves_190 : decode cL_areHalves 190 = .ok (.iload 7, 2) := by decide +kernel
theorem dL_areHalves_192 : decode cL_areHalves 192 = .ok (.if_icmp .eq 17, 3) := by decide +kernel
theorem dL_areHalves_195 : decode cL_areHalves 195 = .ok (.iload 5, 2) := by decide +kernel
theorem dL_areHalves_197 : decode cL_areHalves 197 = .ok (.iload 8, 2) := by decide +kernel
theorem dL_areHalves_199 : decode cL_areHalves 199 = .ok (.if_icmp .eq 10, 3) := by decide +kernel
theorem dL_areHalves_202 : decode cL_areHalves 202 = .ok (.iload 5, 2) := by decide +kernel
theorem dL_areHalves_204 : decode cL_areHalves 204 = .ok (.iload 9, 2) := by decide +kernel
theorem dL_areHalves_206 : decode cL_areHalves 206 = .ok (.if_icmp .ne 7, 3) := by decide +kernel
theorem dL_areHalves_209 : decode cL_areHalves 209 = .ok (.iconst 1, 1) := by decide +kernel
theorem dL_areHalves_210 : decode cL_areHalves 210 = .ok (.goto 4, 3) := by decide +kernel
theorem dL_areHalves_213 : decode cL_areHalves 213 = .ok (.iconst 0, 1) := by decide +kernel
theorem dL_areHalves_214 : decode cL_areHalves 214 = .ok (.istore_n 2, 1) := by decide +kernel
theorem dL_areHalves_215 : decode cL_areHalves 215 = .ok (.iinc 4 1, 3) := by decide +kernel
theorem dL_areHalves_218 : decode cL_areHalves 218 = .ok (.goto (-185), 3) := by decide +kernel
theorem dL_areHalves_221 : decode cL_areHalves 221 = .ok (.iinc 3 1, 3) := by decide +kernel
theorem dL_areHalves_224 : decode cL_areHalves 224 = .ok (.goto (-200), 3) := by decide +kernel
theorem dL_areHalves_227 : decode cL_areHalves 227 = .ok (.iload_n 2, 1) := by decide +kernel
theorem dL_areHalves_228 : decode cL_areHalves 228 = .ok (.ireturn, 1) := by decide +kernel
set_option maxRecDepth 20000 in
theorem ggL_areCounters_X5_counters : GoodIn wsL_areCounters wsX5_counters := goodIn_ca (goodIn_r _ [5, 6, 7, 8, 9, 4, 10, 11, 12, 56, 57, 58, 59, 60, 61, 62, 63, 64] (by decide +kernel) (by decide +kernel)) (goodIn_sub (fun _ h => List.mem_cons_of_mem _ (List.mem_append_right _ h)) (by decide +kernel))
set_option maxRecDepth 20000 in
theorem gL_areCounters_X5_counters : GoodIn wsL_areCounters (wsV RL 50 RX5 yX5_counters wsX5_counters) := goodIn_app (goodIn_of _ (by decide +kernel)) ggL_areCounters_X5_counters
set_option maxRecDepth 20000 in
theorem ggL_areCounters_X5_counterItem : GoodIn wsL_areCounters wsX5_counterItem := goodIn_ca (goodIn_r _ [16, 6, 7, 8, 9, 4, 10, 11, 12, 56, 57, 58, 59, 60, 61, 62, 63, 64] (by decide +kernel) (by decide +kernel)) (goodIn_sub (fun _ h => List.mem_cons_of_mem _ (List.mem_append_right _ h)) (by decide +kernel))
set_option maxRecDepth 20000 in
theorem gL_areCounters_X5_counterItem : GoodIn wsL_areCounters (wsV RL 67 RX5 yX5_counterItem wsX5_counterItem) := goodIn_app (goodIn_of _ (by decide +kernel)) ggL_areCounters_X5_counterItem
set_option maxRecDepth 20000 in
theorem ggL_areCounters_X5_counterOf : GoodIn wsL_areCounters wsX5_counterOf := goodIn_ca (goodIn_r _ [20, 6, 7, 8, 9, 4, 10, 11, 12, 21, 22, 23, 24, 25, 26, 27, 28, 29, 30, 31, 32, 56, 57, 58, 59, 60, 61, 62, 63, 64] (by decide +kernel) (by decide +kernel)) (goodIn_sub (fun _ h => List.mem_cons_of_mem _ (List.mem_append_right _ h)) (by decide +kernel))
set_option maxRecDepth 20000 in
theorem gL_areCounters_X5_counterOf : GoodIn wsL_areCounters (wsV RL 70 RX5 yX5_counterOf wsX5_counterOf) := goodIn_app (goodIn_of _ (by decide +kernel)) ggL_areCounters_X5_counterOf
set_option maxRecDepth 20000 in
theorem ggL_areCounters_X5_count : GoodIn wsL_areCounters wsX5_count := goodIn_ca (goodIn_r _ [36, 6, 37, 8, 9, 4, 10, 11, 12, 38, 39, 40, 41, 42, 43, 56, 57, 58, 59, 60, 65] (by decide +kernel) (by decide +kernel)) (goodIn_sub (fun _ h => List.mem_cons_of_mem _ (List.mem_append_right _ h)) (by decide +kernel))
set_option maxRecDepth 20000 in
theorem gL_areCounters_X5_count : GoodIn wsL_areCounters (wsV RL 17 RX5 yX5_count wsX5_count) := goodIn_app (goodIn_of _ (by decide +kernel)) ggL_areCounters_X5_count
set_option maxRecDepth 20000 in
theorem ggL_areCounters_X5_taken : GoodIn wsL_areCounters wsX5_taken := goodIn_ca (goodIn_r _ [47, 6, 7, 8, 9, 4, 10, 11, 12, 56, 57, 58, 59, 60, 61, 62, 63, 64] (by decide +kernel) (by decide +kernel)) (goodIn_sub (fun _ h => List.mem_cons_of_mem _ (List.mem_append_right _ h)) (by decide +kernel))
set_option maxRecDepth 20000 in
theorem gL_areCounters_X5_taken : GoodIn wsL_areCounters (wsV RL 41 RX5 yX5_taken wsX5_taken) := goodIn_app (goodIn_of _ (by decide +kernel)) ggL_areCounters_X5_taken
set_option maxRecDepth 20000 in
theorem ggL_areCounters_X5_total : GoodIn wsL_areCounters wsX5_total := goodIn_ca (goodIn_r _ [51, 6, 37, 8, 9, 4, 10, 11, 12, 52, 53, 54, 41, 55, 43, 56, 57, 58, 59, 60, 65] (by decide +kernel) (by decide +kernel)) (goodIn_sub (fun _ h => List.mem_cons_of_mem _ (List.mem_append_right _ h)) (by decide +kernel))
set_option maxRecDepth 20000 in
theorem gL_areCounters_X5_total : GoodIn wsL_areCounters (wsV RL 10 RX5 yX5_total wsX5_total) := goodIn_app (goodIn_of _ (by decide +kernel)) ggL_areCounters_X5_total
theorem dL_areCounters_0 : decode cL_areCounters 0 = .ok (.iconst 0, 1) := by decide +kernel
theorem dL_areCounters_1 : decode cL_areCounters 1 = .ok (.istore_n 2, 1) := by decide +kernel
theorem dL_areCounters_2 : decode cL_areCounters 2 = .ok (.aload_n 0, 1) := by decide +kernel
theorem dL_areCounters_3 : decode cL_areCounters 3 = .ok (.iload_n 1, 1) := by decide +kernel
theorem dL_areCounters_4 : decode cL_areCounters 4 = .ok (.invokevirtual 50, 3) := by decide +kernel
theorem dL_areCounters_7 : decode cL_areCounters 7 = .ok (.iconst 4, 1) := by decide +kernel
theorem dL_areCounters_8 : decode cL_areCounters 8 = .ok (.if_icmp .gt 7, 3) := by decide +kernel
theorem dL_areCounters_11 : decode cL_areCounters 11 = .ok (.iconst 1, 1) := by decide +kernel
theorem dL_areCounters_12 : decode cL_areCounters 12 = .ok (.goto 4, 3) := by decide +kernel
theorem dL_areCounters_15 : decode cL_areCounters 15 = .ok (.iconst 0, 1) := by decide +kernel
theorem dL_areCounters_16 : decode cL_areCounters 16 = .ok (.istore_n 3, 1) := by decide +kernel
theorem dL_areCounters_17 : decode cL_areCounters 17 = .ok (.iconst 0, 1) := by decide +kernel
theorem dL_areCounters_18 : decode cL_areCounters 18 = .ok (.istore 4, 2) := by decide +kernel
theorem dL_areCounters_20 : decode cL_areCounters 20 = .ok (.iload 4, 2) := by decide +kernel
theorem dL_areCounters_22 : decode cL_areCounters 22 = .ok (.aload_n 0, 1) := by decide +kernel
theorem dL_areCounters_23 : decode cL_areCounters 23 = .ok (.iload_n 1, 1) := by decide +kernel
theorem dL_areCounters_24 : decode cL_areCounters 24 = .ok (.invokevirtual 50, 3) := by decide +kernel
theorem dL_areCounters_27 : decode cL_areCounters 27 = .ok (.if_icmp .ge 86, 3) := by decide +kernel
theorem dL_areCounters_30 : decode cL_areCounters 30 = .ok (.iload_n 3, 1) := by decide +kernel
theorem dL_areCounters_31 : decode cL_areCounters 31 = .ok (.ifCond .eq 82, 3) := by decide +kernel
theorem dL_areCounters_34 : decode cL_areCounters 34 = .ok (.aload_n 0, 1) := by decide +kernel
theorem dL_areCounters_35 : decode cL_areCounters 35 = .ok (.iload_n 1, 1) := by decide +kernel
theorem dL_areCounters_36 : decode cL_areCounters 36 = .ok (.iload 4, 2) := by decide +kernel
theorem dL_areCounters_38 : decode cL_areCounters 38 = .ok (.invokevirtual 67, 3) := by decide +kernel
theorem dL_areCounters_41 : decode cL_areCounters 41 = .ok (.istore 5, 2) := by decide +kernel
theorem dL_areCounters_43 : decode cL_areCounters 43 = .ok (.iload_n 2, 1) := by decide +kernel
theorem dL_areCounters_44 : decode cL_areCounters 44 = .ok (.aload_n 0, 1) := by decide +kernel
theorem dL_areCounters_45 : decode cL_areCounters 45 = .ok (.iload_n 1, 1) := by decide +kernel
theorem dL_areCounters_46 : decode cL_areCounters 46 = .ok (.iload 5, 2) := by decide +kernel
theorem dL_areCounters_48 : decode cL_areCounters 48 = .ok (.invokevirtual 70, 3) := by decide +kernel
theorem dL_areCounters_51 : decode cL_areCounters 51 = .ok (.iadd, 1) := by decide +kernel
theorem dL_areCounters_52 : decode cL_areCounters 52 = .ok (.istore_n 2, 1) := by decide +kernel
theorem dL_areCounters_53 : decode cL_areCounters 53 = .ok (.aload_n 0, 1) := by decide +kernel
theorem dL_areCounters_54 : decode cL_areCounters 54 = .ok (.iload_n 1, 1) := by decide +kernel
theorem dL_areCounters_55 : decode cL_areCounters 55 = .ok (.iload 5, 2) := by decide +kernel
theorem dL_areCounters_57 : decode cL_areCounters 57 = .ok (.invokevirtual 70, 3) := by decide +kernel
theorem dL_areCounters_60 : decode cL_areCounters 60 = .ok (.ifCond .le 7, 3) := by decide +kernel
theorem dL_areCounters_63 : decode cL_areCounters 63 = .ok (.iconst 1, 1) := by decide +kernel
theorem dL_areCounters_64 : decode cL_areCounters 64 = .ok (.goto 4, 3) := by decide +kernel
theorem dL_areCounters_67 : decode cL_areCounters 67 = .ok (.iconst 0, 1) := by decide +kernel
theorem dL_areCounters_68 : decode cL_areCounters 68 = .ok (.istore_n 3, 1) := by decide +kernel
theorem dL_areCounters_69 : decode cL_areCounters 69 = .ok (.iconst 0, 1) := by decide +kernel
theorem dL_areCounters_70 : decode cL_areCounters 70 = .ok (.istore 6, 2) := by decide +kernel
theorem dL_areCounters_72 : decode cL_areCounters 72 = .ok (.iload 6, 2) := by decide +kernel
theorem dL_areCounters_74 : decode cL_areCounters 74 = .ok (.iload 4, 2) := by decide +kernel
theorem dL_areCounters_76 : decode cL_areCounters 76 = .ok (.if_icmp .ge 31, 3) := by decide +kernel
theorem dL_areCounters_79 : decode cL_areCounters 79 = .ok (.iload_n 3, 1) := by decide +kernel
theorem dL_areCounters_80 : decode cL_areCounters 80 = .ok (.ifCond .eq 19, 3) := by decide +kernel
theorem dL_areCounters_83 : decode cL_areCounters 83 = .ok (.aload_n 0, 1) := by decide +kernel
theorem dL_areCounters_84 : decode cL_areCounters 84 = .ok (.iload_n 1, 1) := by decide +kernel
theorem dL_areCounters_85 : decode cL_areCounters 85 = .ok (.iload 6, 2) := by decide +kernel
theorem dL_areCounters_87 : decode cL_areCounters 87 = .ok (.invokevirtual 67, 3) := by decide +kernel
theorem dL_areCounters_90 : decode cL_areCounters 90 = .ok (.iload 5, 2) := by decide +kernel
theorem dL_areCounters_92 : decode cL_areCounters 92 = .ok (.if_icmp .eq 7, 3) := by decide +kernel
theorem dL_areCounters_95 : decode cL_areCounters 95 = .ok (.iconst 1, 1) := by decide +kernel
theorem dL_areCounters_96 : decode cL_areCounters 96 = .ok (.goto 4, 3) := by decide +kernel
theorem dL_areCounters_99 : decode cL_areCounters 99 = .ok (.iconst 0, 1) := by decide +kernel
theorem dL_areCounters_100 : decode cL_areCounters 100 = .ok (.istore_n 3, 1) := by decide +kernel
theorem dL_areCounters_101 : decode cL_areCounters 101 = .ok (.iinc 6 1, 3) := by decide +kernel
theorem dL_areCounters_104 : decode cL_areCounters 104 = .ok (.goto (-32), 3) := by decide +kernel
theorem dL_areCounters_107 : decode cL_areCounters 107 = .ok (.iinc 4 1, 3) := by decide +kernel
theorem dL_areCounters_110 : decode cL_areCounters 110 = .ok (.goto (-90), 3) := by decide +kernel
theorem dL_areCounters_113 : decode cL_areCounters 113 = .ok (.iconst 0, 1) := by decide +kernel
theorem dL_areCounters_114 : decode cL_areCounters 114 = .ok (.istore 4, 2) := by decide +kernel
theorem dL_areCounters_116 : decode cL_areCounters 116 = .ok (.iload 4, 2) := by decide +kernel
theorem dL_areCounters_118 : decode cL_areCounters 118 = .ok (.bipush 64, 2) := by decide +kernel
theorem dL_areCounters_120 : decode cL_areCounters 120 = .ok (.if_icmp .ge 59, 3) := by decide +kernel
theorem dL_areCounters_123 : decode cL_areCounters 123 = .ok (.iload_n 3, 1) := by decide +kernel
theorem dL_areCounters_124 : decode cL_areCounters 124 = .ok (.ifCond .eq 55, 3) := by decide +kernel
theorem dL_areCounters_127 : decode cL_areCounters 127 = .ok (.aload_n 0, 1) := by decide +kernel
theorem dL_areCounters_128 : decode cL_areCounters 128 = .ok (.iload_n 1, 1) := by decide +kernel
theorem dL_areCounters_129 : decode cL_areCounters 129 = .ok (.iload 4, 2) := by decide +kernel
theorem dL_areCounters_131 : decode cL_areCounters 131 = .ok (.invokevirtual 70, 3) := by decide +kernel
theorem dL_areCounters_134 : decode cL_areCounters 134 = .ok (.aload_n 0, 1) := by decide +kernel
theorem dL_areCounters_135 : decode cL_areCounters 135 = .ok (.iload_n 1, 1) := by decide +kernel
theorem dL_areCounters_136 : decode cL_areCounters 136 = .ok (.iload 4, 2) := by decide +kernel
theorem dL_areCounters_138 : decode cL_areCounters 138 = .ok (.invokevirtual 17, 3) := by decide +kernel
theorem dL_areCounters_141 : decode cL_areCounters 141 = .ok (.if_icmp .gt 30, 3) := by decide +kernel
theorem dL_areCounters_144 : decode cL_areCounters 144 = .ok (.aload_n 0, 1) := by decide +kernel
theorem dL_areCounters_145 : decode cL_areCounters 145 = .ok (.iload_n 1, 1) := by decide +kernel
theorem dL_areCounters_146 : decode cL_areCounters 146 = .ok (.iload 4, 2) := by decide +kernel
theorem dL_areCounters_148 : decode cL_areCounters 148 = .ok (.invokevirtual 17, 3) := by decide +kernel
theorem dL_areCounters_151 : decode cL_areCounters 151 = .ok (.aload_n 0, 1) := by decide +kernel
theorem dL_areCounters_152 : decode cL_areCounters 152 = .ok (.iload_n 1, 1) := by decide +kernel
theorem dL_areCounters_153 : decode cL_areCounters 153 = .ok (.iload 4, 2) := by decide +kernel
theorem dL_areCounters_155 : decode cL_areCounters 155 = .ok (.invokevirtual 70, 3) := by decide +kernel
theorem dL_areCounters_158 : decode cL_areCounters 158 = .ok (.aload_n 0, 1) := by decide +kernel
theorem dL_areCounters_159 : decode cL_areCounters 159 = .ok (.iload_n 1, 1) := by decide +kernel
theorem dL_areCounters_160 : decode cL_areCounters 160 = .ok (.invokevirtual 41, 3) := by decide +kernel
theorem dL_areCounters_163 : decode cL_areCounters 163 = .ok (.iadd, 1) := by decide +kernel
theorem dL_areCounters_164 : decode cL_areCounters 164 = .ok (.if_icmp .gt 7, 3) := by decide +kernel
theorem dL_areCounters_167 : decode cL_areCounters 167 = .ok (.iconst 1, 1) := by decide +kernel
theorem dL_areCounters_168 : decode cL_areCounters 168 = .ok (.goto 4, 3) := by decide +kernel
theorem dL_areCounters_171 : decode cL_areCounters 171 = .ok (.iconst 0, 1) := by decide +kernel
theorem dL_areCounters_172 : decode cL_areCounters 172 = .ok (.istore_n 3, 1) := by decide +kernel
theorem dL_areCounters_173 : decode cL_areCounters 173 = .ok (.iinc 4 1, 3) := by decide +kernel
theorem dL_areCounters_176 : decode cL_areCounters 176 = .ok (.goto (-60), 3) := by decide +kernel
theorem dL_areCounters_179 : decode cL_areCounters 179 = .ok (.iload_n 3, 1) := by decide +kernel
theorem dL_areCounters_180 : decode cL_areCounters 180 = .ok (.ifCond .eq 24, 3) := by decide +kernel
theorem dL_areCounters_183 : decode cL_areCounters 183 = .ok (.iload_n 2, 1) := by decide +kernel
theorem dL_areCounters_184 : decode cL_areCounters 184 = .ok (.iconst 5, 1) := by decide +kernel
theorem dL_areCounters_185 : decode cL_areCounters 185 = .ok (.aload_n 0, 1) := by decide +kernel
theorem dL_areCounters_186 : decode cL_areCounters 186 = .ok (.iload_n 1, 1) := by decide +kernel
theorem dL_areCounters_187 : decode cL_areCounters 187 = .ok (.invokevirtual 41, 3) := by decide +kernel
theorem dL_areCounters_190 : decode cL_areCounters 190 = .ok (.imul, 1) := by decide +kernel
theorem dL_areCounters_191 : decode cL_areCounters 191 = .ok (.iadd, 1) := by decide +kernel
theorem dL_areCounters_192 : decode cL_areCounters 192 = .ok (.aload_n 0, 1) := by decide +kernel
theorem dL_areCounters_193 : decode cL_areCounters 193 = .ok (.iload_n 1, 1) := by decide +kernel
theorem dL_areCounters_194 : decode cL_areCounters 194 = .ok (.invokevirtual 10, 3) := by decide +kernel
theorem dL_areCounters_197 : decode cL_areCounters 197 = .ok (.if_icmp .gt 7, 3) := by decide +kernel
theorem dL_areCounters_200 : decode cL_areCounters 200 = .ok (.iconst 1, 1) := by decide +kernel
theorem dL_areCounters_201 : decode cL_areCounters 201 = .ok (.goto 4, 3) := by decide +kernel
theorem dL_areCounters_204 : decode cL_areCounters 204 = .ok (.iconst 0, 1) := by decide +kernel
theorem dL_areCounters_205 : decode cL_areCounters 205 = .ok (.ireturn, 1) := by decide +kernel
set_option maxRecDepth 20000 in
theorem ggL_areRows_X5_signedCell : GoodIn wsL_areRows wsX5_signedCell := goodIn_ca (goodIn_r _ [5, 6, 7, 8, 9, 4, 10, 11, 12, 13, 14, 15, 16, 17, 18, 39, 40, 41, 42, 43, 44, 45] (by decide +kernel) (by decide +kernel)) (goodIn_sub (fun _ h => List.mem_cons_of_mem _ (List.mem_append_right _ h)) (by decide +kernel))
set_option maxRecDepth 20000 in
theorem gL_areRows_X5_signedCell : GoodIn wsL_areRows (wsV RL 28 RX5 yX5_signedCell wsX5_signedCell) := goodIn_app (goodIn_of _ (by decide +kernel)) ggL_areRows_X5_signedCell
set_option maxRecDepth 20000 in
theorem ggL_areRows_X5_sign : GoodIn wsL_areRows wsX5_sign := goodIn_ca (goodIn_r _ [22, 8, 9, 4, 10, 11, 12, 23, 24, 16, 25, 26, 27] (by decide +kernel) (by decide +kernel)) (goodIn_sub (fun _ h => List.mem_cons_of_mem _ (List.mem_append_right _ h)) (by decide +kernel))
set_option maxRecDepth 20000 in
theorem gL_areRows_X5_sign : GoodIn wsL_areRows (wsV RL 34 RX5 yX5_sign wsX5_sign) := goodIn_app (goodIn_of _ (by decide +kernel)) ggL_areRows_X5_sign
set_option maxRecDepth 20000 in
theorem ggL_areRows_X5_count : GoodIn wsL_areRows wsX5_count := goodIn_ca (goodIn_r _ [31, 6, 32, 8, 9, 4, 10, 11, 12, 33, 34, 35, 36, 37, 38, 39, 40, 41, 42, 43, 46] (by decide +kernel) (by decide +kernel)) (goodIn_sub (fun _ h => List.mem_cons_of_mem _ (List.mem_append_right _ h)) (by decide +kernel))
set_option maxRecDepth 20000 in
theorem gL_areRows_X5_count : GoodIn wsL_areRows (wsV RL 17 RX5 yX5_count wsX5_count) := goodIn_app (goodIn_of _ (by decide +kernel)) ggL_areRows_X5_count
