theorem wsL_law_in0 : ∀ w ∈ wsL_law0, w ∈ lw_tbl := by
  unfold wsL_law0
  exact (List.forall_mem_append.mpr ⟨(List.forall_mem_append.mpr ⟨(List.forall_mem_append.mpr ⟨(List.forall_mem_append.mpr ⟨(List.forall_mem_append.mpr ⟨(List.forall_mem_append.mpr ⟨(List.forall_mem_append.mpr ⟨(List.forall_mem_append.mpr ⟨(List.forall_mem_append.mpr ⟨wsL_law_p1, (List.forall_mem_append.mpr ⟨wsL_law_p2, (List.forall_mem_append.mpr ⟨wsL_law_p3, (List.forall_mem_append.mpr ⟨wsL_law_p4, (List.forall_mem_append.mpr ⟨wsL_law_p5, (List.forall_mem_append.mpr ⟨wsL_law_p6, (List.forall_mem_append.mpr ⟨wsL_law_p7, (List.forall_mem_append.mpr ⟨wsL_law_p8, (List.forall_mem_append.mpr ⟨wsL_law_p9, (List.forall_mem_append.mpr ⟨wsL_law_p10, (List.forall_mem_append.mpr ⟨wsL_law_p11, (List.forall_mem_append.mpr ⟨wsL_law_p12, (List.forall_mem_append.mpr ⟨wsL_law_p13, (List.forall_mem_append.mpr ⟨wsL_law_p14, (List.forall_mem_append.mpr ⟨wsL_law_p15, (List.forall_mem_append.mpr ⟨wsL_law_p16, (List.forall_mem_append.mpr ⟨wsL_law_p17, (List.forall_mem_append.mpr ⟨wsL_law_p18, (List.forall_mem_append.mpr ⟨wsL_law_p19, (List.forall_mem_append.mpr ⟨wsL_law_p20, (List.forall_mem_append.mpr ⟨wsL_law_p21, (List.forall_mem_append.mpr ⟨wsL_law_p22, (List.forall_mem_append.mpr ⟨wsL_law_p23, (List.forall_mem_append.mpr ⟨wsL_law_p24, (List.forall_mem_append.mpr ⟨wsL_law_p25, (List.forall_mem_append.mpr ⟨wsL_law_p26, (List.forall_mem_append.mpr ⟨wsL_law_p27, wsL_law_p28⟩)⟩)⟩)⟩)⟩)⟩)⟩)⟩)⟩)⟩)⟩)⟩)⟩)⟩)⟩)⟩)⟩)⟩)⟩)⟩)⟩)⟩)⟩)⟩)⟩)⟩)⟩), wsL_law_qX5⟩), wsL_law_qX6⟩), wsL_law_qX4⟩), wsL_law_qX2⟩), wsL_law_qX3⟩), wsL_law_qX1⟩), wsL_law_qX0⟩), fun _ h => absurd h List.not_mem_nil⟩)
theorem wsL_law_x0 : ∀ w ∈ (vx_atS RX5 140 "java/lang/IndexOutOfBoundsException" ["java/lang/RuntimeException", "java/lang/Exception"]).filter goodWord, w ∈ lw_tbl := by decide +kernel
theorem wsL_law_x1 : ∀ w ∈ (vx_atS RX5 45 "java/lang/IllegalArgumentException" ["java/lang/RuntimeException", "java/lang/Exception"]).filter goodWord, w ∈ lw_tbl := by decide +kernel
theorem wsL_law_x2 : ∀ w ∈ (vx_atS RX5 149 "java/lang/IllegalStateException" ["java/lang/RuntimeException", "java/lang/Exception"]).filter goodWord, w ∈ lw_tbl := by decide +kernel
theorem wsL_law_x3 : ∀ w ∈ zatN.filter goodWord, w ∈ lw_tbl := by decide +kernel
theorem wsL_law_in : ∀ w ∈ wsL_law, w ∈ lw_tbl := fun w h => (List.mem_append.mp h).elim (fun h => (List.mem_append.mp h).elim (fun h => (List.mem_append.mp h).elim (fun h => (List.mem_append.mp h).elim (fun h => wsL_law_in0 w h) (fun h => wsL_law_x0 w h)) (fun h => wsL_law_x1 w h)) (fun h => wsL_law_x2 w h)) (fun h => wsL_law_x3 w h)
theorem inlX0 : ∀ w ∈ wsX00, w ∈ wsL_law := fun _ h => List.mem_append_left _ (List.mem_append_left _ (List.mem_append_left _ (List.mem_append_left _ (List.mem_append_left _ (List.mem_append_right _ h)))))
theorem inX0 : ∀ w ∈ wsX00, w ∈ lw_tbl := fun w h => wsL_law_in w (inlX0 w h)
theorem inlX1 : ∀ w ∈ wsX10, w ∈ wsL_law := fun _ h => List.mem_append_left _ (List.mem_append_left _ (List.mem_append_left _ (List.mem_append_left _ (List.mem_append_left _ (List.mem_append_left _ (List.mem_append_right _ h))))))
theorem inX1 : ∀ w ∈ wsX10, w ∈ lw_tbl := fun w h => wsL_law_in w (inlX1 w h)
theorem inlX2 : ∀ w ∈ wsX20, w ∈ wsL_law := fun _ h => List.mem_append_left _ (List.mem_append_left _ (List.mem_append_left _ (List.mem_append_left _ (List.mem_append_left _ (List.mem_append_left _ (List.mem_append_left _ (List.mem_append_left _ (List.mem_append_right _ h))))))))
theorem inX2 : ∀ w ∈ wsX20, w ∈ lw_tbl := fun w h => wsL_law_in w (inlX2 w h)
theorem inlX3 : ∀ w ∈ wsX30, w ∈ wsL_law := fun _ h => List.mem_append_left _ (List.mem_append_left _ (List.mem_append_left _ (List.mem_append_left _ (List.mem_append_left _ (List.mem_append_left _ (List.mem_append_left _ (List.mem_append_right _ h)))))))
theorem inX3 : ∀ w ∈ wsX30, w ∈ lw_tbl := fun w h => wsL_law_in w (inlX3 w h)
theorem inlX4 : ∀ w ∈ wsX40, w ∈ wsL_law := fun _ h => List.mem_append_left _ (List.mem_append_left _ (List.mem_append_left _ (List.mem_append_left _ (List.mem_append_left _ (List.mem_append_left _ (List.mem_append_left _ (List.mem_append_left _ (List.mem_append_left _ (List.mem_append_right _ h)))))))))
theorem inX4 : ∀ w ∈ wsX40, w ∈ lw_tbl := fun w h => wsL_law_in w (inlX4 w h)
theorem inlX5 : ∀ w ∈ wsX50, w ∈ wsL_law := fun _ h => List.mem_append_left _ (List.mem_append_left _ (List.mem_append_left _ (List.mem_append_left _ (List.mem_append_left _ (List.mem_append_left _ (List.mem_append_left _ (List.mem_append_left _ (List.mem_append_left _ (List.mem_append_left _ (List.mem_append_left _ (List.mem_append_right _ h)))))))))))
theorem inX5 : ∀ w ∈ wsX50, w ∈ lw_tbl := fun w h => wsL_law_in w (inlX5 w h)
theorem inlX6 : ∀ w ∈ wsX60, w ∈ wsL_law := fun _ h => List.mem_append_left _ (List.mem_append_left _ (List.mem_append_left _ (List.mem_append_left _ (List.mem_append_left _ (List.mem_append_left _ (List.mem_append_left _ (List.mem_append_left _ (List.mem_append_left _ (List.mem_append_left _ (List.mem_append_right _ h))))))))))
theorem inX6 : ∀ w ∈ wsX60, w ∈ lw_tbl := fun w h => wsL_law_in w (inlX6 w h)
theorem inJx145de : ∀ w ∈ wsJx145de0, w ∈ lw_tbl := by decide +kernel
theorem inJ9 : ∀ w ∈ wsJ90, w ∈ lw_tbl := by decide +kernel
theorem inJ0 : ∀ w ∈ wsJ00, w ∈ lw_tbl := by decide +kernel
theorem inJ7 : ∀ w ∈ wsJ70, w ∈ lw_tbl := by decide +kernel
theorem dL_cell_0 : decode cL_cell 0 = .ok (.aload 5, 2) := by decide +kernel
theorem dL_cell_2 : decode cL_cell 2 = .ok (.iconst 0, 1) := by decide +kernel
theorem dL_cell_3 : decode cL_cell 3 = .ok (.aload_n 0, 1) := by decide +kernel
theorem dL_cell_4 : decode cL_cell 4 = .ok (.iload_n 1, 1) := by decide +kernel
theorem dL_cell_5 : decode cL_cell 5 = .ok (.iload_n 2, 1) := by decide +kernel
theorem dL_cell_6 : decode cL_cell 6 = .ok (.iload_n 3, 1) := by decide +kernel
theorem dL_cell_7 : decode cL_cell 7 = .ok (.iload 4, 2) := by decide +kernel
theorem dL_cell_9 : decode cL_cell 9 = .ok (.invokevirtual 43, 3) := by decide +kernel
theorem dL_cell_12 : decode cL_cell 12 = .ok (.i2l, 1) := by decide +kernel
theorem dL_cell_13 : decode cL_cell 13 = .ok (.lastore, 1) := by decide +kernel
theorem dL_cell_14 : decode cL_cell 14 = .ok (.goto 7, 3) := by decide +kernel
theorem dL_cell_17 : decode cL_cell 17 = .ok (.astore 6, 2) := by decide +kernel
theorem dL_cell_19 : decode cL_cell 19 = .ok (.iconst 1, 1) := by decide +kernel
theorem dL_cell_20 : decode cL_cell 20 = .ok (.ireturn, 1) := by decide +kernel
theorem dL_cell_21 : decode cL_cell 21 = .ok (.iconst 0, 1) := by decide +kernel
theorem dL_cell_22 : decode cL_cell 22 = .ok (.ireturn, 1) := by decide +kernel
set_option maxRecDepth 20000 in
theorem ggL_estimate_X5_estimate : GoodIn wsL_estimate wsX5_estimate := goodIn_ca (goodIn_r _ [6, 7, 8, 9, 5, 10, 11, 12, 13, 14, 15, 16, 17, 18, 19, 20, 21, 22, 23, 24, 25, 26, 27, 28, 29, 30, 31, 32, 33, 34, 35, 36, 37, 38, 39, 40, 41, 42, 43, 44, 45, 46, 47, 48, 49, 50] (by decide +kernel) (by decide +kernel)) (goodIn_sub (fun _ h => List.mem_cons_of_mem _ (List.mem_append_right _ h)) (by decide +kernel))
set_option maxRecDepth 20000 in
theorem gL_estimate_X5_estimate : GoodIn wsL_estimate (wsV RL 47 RX5 yX5_estimate wsX5_estimate) := goodIn_app (goodIn_of _ (by decide +kernel)) ggL_estimate_X5_estimate
theorem dL_estimate_0 : decode cL_estimate 0 = .ok (.aload 4, 2) := by decide +kernel
theorem dL_estimate_2 : decode cL_estimate 2 = .ok (.iconst 0, 1) := by decide +kernel
theorem dL_estimate_3 : decode cL_estimate 3 = .ok (.aload_n 0, 1) := by decide +kernel
theorem dL_estimate_4 : decode cL_estimate 4 = .ok (.iload_n 1, 1) := by decide +kernel
theorem dL_estimate_5 : decode cL_estimate 5 = .ok (.iload_n 2, 1) := by decide +kernel
theorem dL_estimate_6 : decode cL_estimate 6 = .ok (.iload_n 3, 1) := by decide +kernel
theorem dL_estimate_7 : decode cL_estimate 7 = .ok (.invokevirtual 47, 3) := by decide +kernel
theorem dL_estimate_10 : decode cL_estimate 10 = .ok (.i2l, 1) := by decide +kernel
theorem dL_estimate_11 : decode cL_estimate 11 = .ok (.lastore, 1) := by decide +kernel
theorem dL_estimate_12 : decode cL_estimate 12 = .ok (.goto 7, 3) := by decide +kernel
theorem dL_estimate_15 : decode cL_estimate 15 = .ok (.astore 5, 2) := by decide +kernel
theorem dL_estimate_17 : decode cL_estimate 17 = .ok (.iconst 1, 1) := by decide +kernel
theorem dL_estimate_18 : decode cL_estimate 18 = .ok (.ireturn, 1) := by decide +kernel
theorem dL_estimate_19 : decode cL_estimate 19 = .ok (.iconst 0, 1) := by decide +kernel
theorem dL_estimate_20 : decode cL_estimate 20 = .ok (.ireturn, 1) := by decide +kernel
set_option maxRecDepth 20000 in
theorem ggL_share_X5_share : GoodIn wsL_share wsX5_share := goodIn_ca (goodIn_r _ [6, 7, 8, 9, 10, 5, 11, 12, 13, 14, 15, 16, 17, 18, 19, 20, 21, 22, 23, 24, 25, 26, 27, 28, 29, 30, 31, 32, 33, 34, 35, 36, 37, 38, 39, 40, 41, 42, 43, 44, 45, 46, 47, 48, 49, 50, 51, 52, 53, 54, 55] (by decide +kernel) (by decide +kernel)) (goodIn_sub (fun _ h => List.mem_cons_of_mem _ (List.mem_append_right _ h)) (by decide +kernel))
set_option maxRecDepth 20000 in
theorem gL_share_X5_share : GoodIn wsL_share (wsV RL 50 RX5 yX5_share wsX5_share) := goodIn_app (goodIn_of _ (by decide +kernel)) ggL_share_X5_share
theorem dL_share_0 : decode cL_share 0 = .ok (.aload_n 3, 1) := by decide +kernel
theorem dL_share_1 : decode cL_share 1 = .ok (.iconst 0, 1) := by decide +kernel
theorem dL_share_2 : decode cL_share 2 = .ok (.aload_n 0, 1) := by decide +kernel
theorem dL_share_3 : decode cL_share 3 = .ok (.iload_n 1, 1) := by decide +kernel
theorem dL_share_4 : decode cL_share 4 = .ok (.iload_n 2, 1) := by decide +kernel
theorem dL_share_5 : decode cL_share 5 = .ok (.invokevirtual 50, 3) := by decide +kernel
theorem dL_share_8 : decode cL_share 8 = .ok (.dastore, 1) := by decide +kernel
theorem dL_share_9 : decode cL_share 9 = .ok (.goto 7, 3) := by decide +kernel
theorem dL_share_12 : decode cL_share 12 = .ok (.astore 4, 2) := by decide +kernel
theorem dL_share_14 : decode cL_share 14 = .ok (.iconst 1, 1) := by decide +kernel
theorem dL_share_15 : decode cL_share 15 = .ok (.ireturn, 1) := by decide +kernel
theorem dL_share_16 : decode cL_share 16 = .ok (.iconst 0, 1) := by decide +kernel
theorem dL_share_17 : decode cL_share 17 = .ok (.ireturn, 1) := by decide +kernel
set_option maxRecDepth 20000 in
theorem ggL_parts_X5_parts : GoodIn wsL_parts wsX5_parts := goodIn_ca (goodIn_ca (goodIn_r _ [7, 8, 9, 6, 10, 11, 12, 13, 14, 15, 16, 17, 18, 19, 20, 21, 22, 23] (by decide +kernel) (by decide +kernel)) (goodIn_sub (fun _ h => List.mem_cons_of_mem _ (List.mem_append_left _ (List.mem_append_right _ h))) (by decide +kernel))) (goodIn_sub (fun _ h => List.mem_cons_of_mem _ (List.mem_append_right _ h)) (by decide +kernel))
set_option maxRecDepth 20000 in
theorem gL_parts_X5_parts : GoodIn wsL_parts (wsV RL 54 RX5 yX5_parts wsX5_parts) := goodIn_app (goodIn_of _ (by decide +kernel)) ggL_parts_X5_parts
theorem dL_parts_0 : decode cL_parts 0 = .ok (.aload_n 3, 1) := by decide +kernel
theorem dL_parts_1 : decode cL_parts 1 = .ok (.iconst 0, 1) := by decide +kernel
theorem dL_parts_2 : decode cL_parts 2 = .ok (.aload_n 0, 1) := by decide +kernel
theorem dL_parts_3 : decode cL_parts 3 = .ok (.iload_n 1, 1) := by decide +kernel
theorem dL_parts_4 : decode cL_parts 4 = .ok (.iload_n 2, 1) := by decide +kernel
theorem dL_parts_5 : decode cL_parts 5 = .ok (.invokevirtual 54, 3) := by decide +kernel
theorem dL_parts_8 : decode cL_parts 8 = .ok (.i2l, 1) := by decide +kernel
theorem dL_parts_9 : decode cL_parts 9 = .ok (.lastore, 1) := by decide +kernel
theorem dL_parts_10 : decode cL_parts 10 = .ok (.goto 11, 3) := by decide +kernel
theorem dL_parts_13 : decode cL_parts 13 = .ok (.astore 4, 2) := by decide +kernel
theorem dL_parts_15 : decode cL_parts 15 = .ok (.iconst 1, 1) := by decide +kernel
theorem dL_parts_16 : decode cL_parts 16 = .ok (.ireturn, 1) := by decide +kernel
theorem dL_parts_17 : decode cL_parts 17 = .ok (.astore 4, 2) := by decide +kernel
theorem dL_parts_19 : decode cL_parts 19 = .ok (.iconst 2, 1) := by decide +kernel
theorem dL_parts_20 : decode cL_parts 20 = .ok (.ireturn, 1) := by decide +kernel
theorem dL_parts_21 : decode cL_parts 21 = .ok (.iconst 0, 1) := by decide +kernel
theorem dL_parts_22 : decode cL_parts 22 = .ok (.ireturn, 1) := by decide +kernel
set_option maxRecDepth 20000 in
theorem ggL_estimateOfRange_X5_estimateOfRange : GoodIn wsL_estimateOfRange wsX5_estimateOfRange := goodIn_ca (goodIn_ca (goodIn_r _ [7, 8, 9, 10, 6, 11, 12, 13, 14, 15, 16, 17, 18, 19, 20, 21, 22, 23, 24, 25, 26, 27, 28, 29, 30, 31, 32, 33, 34, 35, 36, 37, 38, 39, 40, 41, 42, 43, 44, 45, 46, 47, 48, 49, 50, 51, 52, 53, 54, 55, 56, 57, 58, 59, 60, 61, 62] (by decide +kernel) (by decide +kernel)) (goodIn_sub (fun _ h => List.mem_cons_of_mem _ (List.mem_append_left _ (List.mem_append_right _ h))) (by decide +kernel))) (goodIn_sub (fun _ h => List.mem_cons_of_mem _ (List.mem_append_right _ h)) (by decide +kernel))
set_option maxRecDepth 20000 in
theorem gL_estimateOfRange_X5_estimateOfRange : GoodIn wsL_estimateOfRange (wsV RL 57 RX5 yX5_estimateOfRange wsX5_estimateOfRange) := goodIn_app (goodIn_of _ (by decide +kernel)) ggL_estimateOfRange_X5_estimateOfRange
theorem dL_estimateOfRange_0 : decode cL_estimateOfRange 0 = .ok (.aload 4, 2) := by decide +kernel
theorem dL_estimateOfRange_2 : decode cL_estimateOfRange 2 = .ok (.iconst 0, 1) := by decide +kernel
theorem dL_estimateOfRange_3 : decode cL_estimateOfRange 3 = .ok (.aload_n 0, 1) := by decide +kernel
theorem dL_estimateOfRange_4 : decode cL_estimateOfRange 4 = .ok (.iload_n 1, 1) := by decide +kernel
theorem dL_estimateOfRange_5 : decode cL_estimateOfRange 5 = .ok (.iload_n 2, 1) := by decide +kernel
theorem dL_estimateOfRange_6 : decode cL_estimateOfRange 6 = .ok (.iload_n 3, 1) := by decide +kernel
theorem dL_estimateOfRange_7 : decode cL_estimateOfRange 7 = .ok (.invokevirtual 57, 3) := by decide +kernel
theorem dL_estimateOfRange_10 : decode cL_estimateOfRange 10 = .ok (.i2l, 1) := by decide +kernel
theorem dL_estimateOfRange_11 : decode cL_estimateOfRange 11 = .ok (.lastore, 1) := by decide +kernel
theorem dL_estimateOfRange_12 : decode cL_estimateOfRange 12 = .ok (.goto 11, 3) := by decide +kernel
theorem dL_estimateOfRange_15 : decode cL_estimateOfRange 15 = .ok (.astore 5, 2) := by decide +kernel
theorem dL_estimateOfRange_17 : decode cL_estimateOfRange 17 = .ok (.iconst 1, 1) := by decide +kernel
theorem dL_estimateOfRange_18 : decode cL_estimateOfRange 18 = .ok (.ireturn, 1) := by decide +kernel
theorem dL_estimateOfRange_19 : decode cL_estimateOfRange 19 = .ok (.astore 5, 2) := by decide +kernel
theorem dL_estimateOfRange_21 : decode cL_estimateOfRange 21 = .ok (.iconst 2, 1) := by decide +kernel
theorem dL_estimateOfRange_22 : decode cL_estimateOfRange 22 = .ok (.ireturn, 1) := by decide +kernel
theorem dL_estimateOfRange_23 : decode cL_estimateOfRange 23 = .ok (.iconst 0, 1) := by decide +kernel
theorem dL_estimateOfRange_24 : decode cL_estimateOfRange 24 = .ok (.ireturn, 1) := by decide +kernel
set_option maxRecDepth 20000 in
theorem ggL_frequent_X5_frequent : GoodIn wsL_frequent wsX5_frequent := goodIn_ca (goodIn_ca (goodIn_r _ [7, 8, 9, 10, 11, 6, 12, 13, 14, 15, 16, 17, 18, 19, 20, 21, 22, 23, 24, 25, 26, 27, 28, 29, 30, 31, 32, 33, 34, 35, 36, 37, 38, 39, 40, 41, 42, 43, 44, 45, 46, 47, 48, 49, 50, 51, 52, 53, 54, 55, 56, 57, 58, 59, 60, 61] (by decide +kernel) (by decide +kernel)) (goodIn_sub (fun _ h => List.mem_cons_of_mem _ (List.mem_append_left _ (List.mem_append_right _ h))) (by decide +kernel))) (goodIn_sub (fun _ h => List.mem_cons_of_mem _ (List.mem_append_right _ h)) (by decide +kernel))
set_option maxRecDepth 20000 in
theorem gL_frequent_X5_frequent : GoodIn wsL_frequent (wsV RL 60 RX5 yX5_frequent wsX5_frequent) := goodIn_app (goodIn_of _ (by decide +kernel)) ggL_frequent_X5_frequent
theorem dL_frequent_0 : decode cL_frequent 0 = .ok (.aload_n 3, 1) := by decide +kernel
theorem dL_frequent_1 : decode cL_frequent 1 = .ok (.iconst 0, 1) := by decide +kernel
theorem dL_frequent_2 : decode cL_frequent 2 = .ok (.aload_n 0, 1) := by decide +kernel
theorem dL_frequent_3 : decode cL_frequent 3 = .ok (.iload_n 1, 1) := by decide +kernel
theorem dL_frequent_4 : decode cL_frequent 4 = .ok (.iload_n 2, 1) := by decide +kernel
theorem dL_frequent_5 : decode cL_frequent 5 = .ok (.invokevirtual 60, 3) := by decide +kernel
theorem dL_frequent_8 : decode cL_frequent 8 = .ok (.i2l, 1) := by decide +kernel
theorem dL_frequent_9 : decode cL_frequent 9 = .ok (.lastore, 1) := by decide +kernel
theorem dL_frequent_10 : decode cL_frequent 10 = .ok (.goto 11, 3) := by decide +kernel
theorem dL_frequent_13 : decode cL_frequent 13 = .ok (.astore 4, 2) := by decide +kernel
theorem dL_frequent_15 : decode cL_frequent 15 = .ok (.iconst 1, 1) := by decide +kernel
theorem dL_frequent_16 : decode cL_frequent 16 = .ok (.ireturn, 1) := by decide +kernel
theorem dL_frequent_17 : decode cL_frequent 17 = .ok (.astore 4, 2) := by decide +kernel
theorem dL_frequent_19 : decode cL_frequent 19 = .ok (.iconst 2, 1) := by decide +kernel
theorem dL_frequent_20 : decode cL_frequent 20 = .ok (.ireturn, 1) := by decide +kernel
theorem dL_frequent_21 : decode cL_frequent 21 = .ok (.iconst 0, 1) := by decide +kernel
theorem dL_frequent_22 : decode cL_frequent 22 = .ok (.ireturn, 1) := by decide +kernel
set_option maxRecDepth 20000 in
theorem ggL_frequentAt_X5_frequentAt : GoodIn wsL_frequentAt wsX5_frequentAt := goodIn_ca (goodIn_ca (goodIn_ca (goodIn_r _ [8, 9, 10, 11, 12, 13, 14, 7, 15, 16, 17, 18, 19, 20, 21, 22, 23, 24, 25, 26, 27, 28, 29, 30, 31, 32, 33, 34, 35, 36, 37, 38, 39, 40, 41, 42, 43, 44, 45, 46, 47, 48, 49, 50, 51, 52, 53, 54, 55, 56, 57, 58, 59, 60, 61, 62, 63, 64] (by decide +kernel) (by decide +kernel)) (goodIn_sub (fun _ h => List.mem_cons_of_mem _ (List.mem_append_left _ (List.mem_append_left _ (List.mem_append_right _ h)))) (by decide +kernel))) (goodIn_sub (fun _ h => List.mem_cons_of_mem _ (List.mem_append_left _ (List.mem_append_right _ h))) (by decide +kernel))) (goodIn_sub (fun _ h => List.mem_cons_of_mem _ (List.mem_append_right _ h)) (by decide +kernel))
set_option maxRecDepth 20000 in
theorem gL_frequentAt_X5_frequentAt : GoodIn wsL_frequentAt (wsV RL 63 RX5 yX5_frequentAt wsX5_frequentAt) := goodIn_app (goodIn_of _ (by decide +kernel)) ggL_frequentAt_X5_frequentAt
theorem dL_frequentAt_0 : decode cL_frequentAt 0 = .ok (.aload 4, 2) := by decide +kernel
theorem dL_frequentAt_2 : decode cL_frequentAt 2 = .ok (.iconst 0, 1) := by decide +kernel
theorem dL_frequentAt_3 : decode cL_frequentAt 3 = .ok (.aload_n 0, 1) := by decide +kernel
theorem dL_frequentAt_4 : decode cL_frequentAt 4 = .ok (.iload_n 1, 1) := by decide +kernel
theorem dL_frequentAt_5 : decode cL_frequentAt 5 = .ok (.iload_n 2, 1) := by decide +kernel
theorem dL_frequentAt_6 : decode cL_frequentAt 6 = .ok (.iload_n 3, 1) := by decide +kernel
theorem dL_frequentAt_7 : decode cL_frequentAt 7 = .ok (.invokevirtual 63, 3) := by decide +kernel
theorem dL_frequentAt_10 : decode cL_frequentAt 10 = .ok (.i2l, 1) := by decide +kernel
theorem dL_frequentAt_11 : decode cL_frequentAt 11 = .ok (.lastore, 1) := by decide +kernel
theorem dL_frequentAt_12 : decode cL_frequentAt 12 = .ok (.goto 15, 3) := by decide +kernel
theorem dL_frequentAt_15 : decode cL_frequentAt 15 = .ok (.astore 5, 2) := by decide +kernel
theorem dL_frequentAt_17 : decode cL_frequentAt 17 = .ok (.iconst 1, 1) := by decide +kernel
theorem dL_frequentAt_18 : decode cL_frequentAt 18 = .ok (.ireturn, 1) := by decide +kernel
theorem dL_frequentAt_19 : decode cL_frequentAt 19 = .ok (.astore 5, 2) := by decide +kernel
theorem dL_frequentAt_21 : decode cL_frequentAt 21 = .ok (.iconst 2, 1) := by decide +kernel
theorem dL_frequentAt_22 : decode cL_frequentAt 22 = .ok (.ireturn, 1) := by decide +kernel
theorem dL_frequentAt_23 : decode cL_frequentAt 23 = .ok (.astore 5, 2) := by decide +kernel
theorem dL_frequentAt_25 : decode cL_frequentAt 25 = .ok (.iconst 3, 1) := by decide +kernel
theorem dL_frequentAt_26 : decode cL_frequentAt 26 = .ok (.ireturn, 1) := by decide +kernel
theorem dL_frequentAt_27 : decode cL_frequentAt 27 = .ok (.iconst 0, 1) := by decide +kernel
theorem dL_frequentAt_28 : decode cL_frequentAt 28 = .ok (.ireturn, 1) := by decide +kernel
set_option maxRecDepth 20000 in
theorem ggL_itemOfRank_X5_itemOfRank : GoodIn wsL_itemOfRank wsX5_itemOfRank := goodIn_ca (goodIn_ca (goodIn_r _ [7, 8, 9, 10, 11, 6, 12, 13, 14, 15, 16, 17, 18, 19, 20, 21, 22, 23, 24, 25, 26, 27, 28, 29, 30, 31, 32, 33, 34, 35, 36, 37, 38, 39, 40, 41, 42, 43, 44, 45, 46, 47, 48, 49, 50, 51, 52, 53, 54, 55, 56, 57, 58, 59, 60, 61] (by decide +kernel) (by decide +kernel)) (goodIn_sub (fun _ h => List.mem_cons_of_mem _ (List.mem_append_left _ (List.mem_append_right _ h))) (by decide +kernel))) (goodIn_sub (fun _ h => List.mem_cons_of_mem _ (List.mem_append_right _ h)) (by decide +kernel))
set_option maxRecDepth 20000 in
theorem gL_itemOfRank_X5_itemOfRank : GoodIn wsL_itemOfRank (wsV RL 68 RX5 yX5_itemOfRank wsX5_itemOfRank) := goodIn_app (goodIn_of _ (by decide +kernel)) ggL_itemOfRank_X5_itemOfRank
theorem dL_itemOfRank_0 : decode cL_itemOfRank 0 = .ok (.aload_n 3, 1) := by decide +kernel
theorem dL_itemOfRank_1 : decode cL_itemOfRank 1 = .ok (.iconst 0, 1) := by decide +kernel
theorem dL_itemOfRank_2 : decode cL_itemOfRank 2 = .ok (.aload_n 0, 1) := by decide +kernel
theorem dL_itemOfRank_3 : decode cL_itemOfRank 3 = .ok (.iload_n 1, 1) := by decide +kernel
theorem dL_itemOfRank_4 : decode cL_itemOfRank 4 = .ok (.iload_n 2, 1) := by decide +kernel
theorem dL_itemOfRank_5 : decode cL_itemOfRank 5 = .ok (.invokevirtual 68, 3) := by decide +kernel
theorem dL_itemOfRank_8 : decode cL_itemOfRank 8 = .ok (.i2l, 1) := by decide +kernel
theorem dL_itemOfRank_9 : decode cL_itemOfRank 9 = .ok (.lastore, 1) := by decide +kernel
theorem dL_itemOfRank_10 : decode cL_itemOfRank 10 = .ok (.goto 11, 3) := by decide +kernel
theorem dL_itemOfRank_13 : decode cL_itemOfRank 13 = .ok (.astore 4, 2) := by decide +kernel
theorem dL_itemOfRank_15 : decode cL_itemOfRank 15 = .ok (.iconst 1, 1) := by decide +kernel
theorem dL_itemOfRank_16 : decode cL_itemOfRank 16 = .ok (.ireturn, 1) := by decide +kernel
theorem dL_itemOfRank_17 : decode cL_itemOfRank 17 = .ok (.astore 4, 2) := by decide +kernel
theorem dL_itemOfRank_19 : decode cL_itemOfRank 19 = .ok (.iconst 2, 1) := by decide +kernel
theorem dL_itemOfRank_20 : decode cL_itemOfRank 20 = .ok (.ireturn, 1) := by decide +kernel
theorem dL_itemOfRank_21 : decode cL_itemOfRank 21 = .ok (.iconst 0, 1) := by decide +kernel
theorem dL_itemOfRank_22 : decode cL_itemOfRank 22 = .ok (.ireturn, 1) := by decide +kernel
set_option maxRecDepth 20000 in
theorem ggL_signedColumn_X5_signedColumn : GoodIn wsL_signedColumn wsX5_signedColumn := goodIn_ca (goodIn_r _ [6, 7, 8, 5, 9, 10, 11, 12, 13, 14, 15, 16, 17] (by decide +kernel) (by decide +kernel)) (goodIn_sub (fun _ h => List.mem_cons_of_mem _ (List.mem_append_right _ h)) (by decide +kernel))
set_option maxRecDepth 20000 in
theorem gL_signedColumn_X5_signedColumn : GoodIn wsL_signedColumn (wsV RL 71 RX5 yX5_signedColumn wsX5_signedColumn) := goodIn_app (goodIn_of _ (by decide +kernel)) ggL_signedColumn_X5_signedColumn
theorem dL_signedColumn_0 : decode cL_signedColumn 0 = .ok (.aload_n 3, 1) := by decide +kernel
theorem dL_signedColumn_1 : decode cL_signedColumn 1 = .ok (.iconst 0, 1) := by decide +kernel
theorem dL_signedColumn_2 : decode cL_signedColumn 2 = .ok (.aload_n 0, 1) := by decide +kernel
theorem dL_signedColumn_3 : decode cL_signedColumn 3 = .ok (.iload_n 1, 1) := by decide +kernel
theorem dL_signedColumn_4 : decode cL_signedColumn 4 = .ok (.iload_n 2, 1) := by decide +kernel
theorem dL_signedColumn_5 : decode cL_signedColumn 5 = .ok (.invokevirtual 71, 3) := by decide +kernel
theorem dL_signedColumn_8 : decode cL_signedColumn 8 = .ok (.i2l, 1) := by decide +kernel
theorem dL_signedColumn_9 : decode cL_signedColumn 9 = .ok (.lastore, 1) := by decide +kernel
theorem dL_signedColumn_10 : decode cL_signedColumn 10 = .ok (.goto 7, 3) := by decide +kernel
theorem dL_signedColumn_13 : decode cL_signedColumn 13 = .ok (.astore 4, 2) := by decide +kernel
theorem dL_signedColumn_15 : decode cL_signedColumn 15 = .ok (.iconst 1, 1) := by decide +kernel
theorem dL_signedColumn_16 : decode cL_signedColumn 16 = .ok (.ireturn, 1) := by decide +kernel
theorem dL_signedColumn_17 : decode cL_signedColumn 17 = .ok (.iconst 0, 1) := by decide +kernel
theorem dL_signedColumn_18 : decode cL_signedColumn 18 = .ok (.ireturn, 1) := by decide +kernel
set_option maxRecDepth 20000 in
theorem ggL_sign_X5_sign : GoodIn wsL_sign wsX5_sign := goodIn_ca (goodIn_r _ [6, 7, 8, 5, 9, 10, 11, 12, 13, 14, 15, 16, 17] (by decide +kernel) (by decide +kernel)) (goodIn_sub (fun _ h => List.mem_cons_of_mem _ (List.mem_append_right _ h)) (by decide +kernel))
set_option maxRecDepth 20000 in
theorem gL_sign_X5_sign : GoodIn wsL_sign (wsV RL 74 RX5 yX5_sign wsX5_sign) := goodIn_app (goodIn_of _ (by decide +kernel)) ggL_sign_X5_sign
theorem dL_sign_0 : decode cL_sign 0 = .ok (.aload_n 3, 1) := by decide +kernel
theorem dL_sign_1 : decode cL_sign 1 = .ok (.iconst 0, 1) := by decide +kernel
theorem dL_sign_2 : decode cL_sign 2 = .ok (.aload_n 0, 1) := by decide +kernel
theorem dL_sign_3 : decode cL_sign 3 = .ok (.iload_n 1, 1) := by decide +kernel
theorem dL_sign_4 : decode cL_sign 4 = .ok (.iload_n 2, 1) := by decide +kernel
theorem dL_sign_5 : decode cL_sign 5 = .ok (.invokevirtual 74, 3) := by decide +kernel
theorem dL_sign_8 : decode cL_sign 8 = .ok (.i2l, 1) := by decide +kernel
theorem dL_sign_9 : decode cL_sign 9 = .ok (.lastore, 1) := by decide +kernel
theorem dL_sign_10 : decode cL_sign 10 = .ok (.goto 7, 3) := by decide +kernel
theorem dL_sign_13 : decode cL_sign 13 = .ok (.astore 4, 2) := by decide +kernel
theorem dL_sign_15 : decode cL_sign 15 = .ok (.iconst 1, 1) := by decide +kernel
theorem dL_sign_16 : decode cL_sign 16 = .ok (.ireturn, 1) := by decide +kernel
theorem dL_sign_17 : decode cL_sign 17 = .ok (.iconst 0, 1) := by decide +kernel
theorem dL_sign_18 : decode cL_sign 18 = .ok (.ireturn, 1) := by decide +kernel
set_option maxRecDepth 20000 in
theorem ggL_signedCell_X5_signedCell : GoodIn wsL_signedCell wsX5_signedCell := goodIn_ca (goodIn_r _ [6, 7, 8, 9, 10, 5, 11, 12, 13, 14, 15, 16, 17, 18, 19, 20, 21, 22, 23, 24, 25, 26] (by decide +kernel) (by decide +kernel)) (goodIn_sub (fun _ h => List.mem_cons_of_mem _ (List.mem_append_right _ h)) (by decide +kernel))
set_option maxRecDepth 20000 in
theorem gL_signedCell_X5_signedCell : GoodIn wsL_signedCell (wsV RL 77 RX5 yX5_signedCell wsX5_signedCell) := goodIn_app (goodIn_of _ (by decide +kernel)) ggL_signedCell_X5_signedCell
theorem dL_signedCell_0 : decode cL_signedCell 0 = .ok (.aload 4, 2) := by decide +kernel
theorem dL_signedCell_2 : decode cL_signedCell 2 = .ok (.iconst 0, 1) := by decide +kernel
theorem dL_signedCell_3 : decode cL_signedCell 3 = .ok (.aload_n 0, 1) := by decide +kernel
theorem dL_signedCell_4 : decode cL_signedCell 4 = .ok (.iload_n 1, 1) := by decide +kernel
theorem dL_signedCell_5 : decode cL_signedCell 5 = .ok (.iload_n 2, 1) := by decide +kernel
theorem dL_signedCell_6 : decode cL_signedCell 6 = .ok (.iload_n 3, 1) := by decide +kernel
theorem dL_signedCell_7 : decode cL_signedCell 7 = .ok (.invokevirtual 77, 3) := by decide +kernel
theorem dL_signedCell_10 : decode cL_signedCell 10 = .ok (.i2l, 1) := by decide +kernel
theorem dL_signedCell_11 : decode cL_signedCell 11 = .ok (.lastore, 1) := by decide +kernel
theorem dL_signedCell_12 : decode cL_signedCell 12 = .ok (.goto 7, 3) := by decide +kernel
theorem dL_signedCell_15 : decode cL_signedCell 15 = .ok (.astore 5, 2) := by decide +kernel
theorem dL_signedCell_17 : decode cL_signedCell 17 = .ok (.iconst 1, 1) := by decide +kernel
theorem dL_signedCell_18 : decode cL_signedCell 18 = .ok (.ireturn, 1) := by decide +kernel
theorem dL_signedCell_19 : decode cL_signedCell 19 = .ok (.iconst 0, 1) := by decide +kernel
theorem dL_signedCell_20 : decode cL_signedCell 20 = .ok (.ireturn, 1) := by decide +kernel
set_option maxRecDepth 20000 in
theorem ggL_signedEstimate_X5_signedEstimate : GoodIn wsL_signedEstimate wsX5_signedEstimate := goodIn_ca (goodIn_r _ [6, 7, 8, 9, 10, 5, 11, 12, 13, 14, 15, 16, 17, 18, 19, 20, 21, 22, 23, 24, 25, 26, 27, 28, 29, 30, 31, 32, 33, 34, 35, 36, 37, 38, 39, 40, 41, 42, 43, 44] (by decide +kernel) (by decide +kernel)) (goodIn_sub (fun _ h => List.mem_cons_of_mem _ (List.mem_append_right _ h)) (by decide +kernel))
set_option maxRecDepth 20000 in
theorem gL_signedEstimate_X5_signedEstimate : GoodIn wsL_signedEstimate (wsV RL 80 RX5 yX5_signedEstimate wsX5_signedEstimate) := goodIn_app (goodIn_of _ (by decide +kernel)) ggL_signedEstimate_X5_signedEstimate
theorem dL_signedEstimate_0 : decode cL_signedEstimate 0 = .ok (.aload_n 3, 1) := by decide +kernel
theorem dL_signedEstimate_1 : decode cL_signedEstimate 1 = .ok (.iconst 0, 1) := by decide +kernel
theorem dL_signedEstimate_2 : decode cL_signedEstimate 2 = .ok (.aload_n 0, 1) := by decide +kernel
theorem dL_signedEstimate_3 : decode cL_signedEstimate 3 = .ok (.iload_n 1, 1) := by decide +kernel
theorem dL_signedEstimate_4 : decode cL_signedEstimate 4 = .ok (.iload_n 2, 1) := by decide +kernel
theorem dL_signedEstimate_5 : decode cL_signedEstimate 5 = .ok (.invokevirtual 80, 3) := by decide +kernel
theorem dL_signedEstimate_8 : decode cL_signedEstimate 8 = .ok (.i2l, 1) := by decide +kernel
theorem dL_signedEstimate_9 : decode cL_signedEstimate 9 = .ok (.lastore, 1) := by decide +kernel
theorem dL_signedEstimate_10 : decode cL_signedEstimate 10 = .ok (.goto 7, 3) := by decide +kernel
theorem dL_signedEstimate_13 : decode cL_signedEstimate 13 = .ok (.astore 4, 2) := by decide +kernel
theorem dL_signedEstimate_15 : decode cL_signedEstimate 15 = .ok (.iconst 1, 1) := by decide +kernel
theorem dL_signedEstimate_16 : decode cL_signedEstimate 16 = .ok (.ireturn, 1) := by decide +kernel
theorem dL_signedEstimate_17 : decode cL_signedEstimate 17 = .ok (.iconst 0, 1) := by decide +kernel
theorem dL_signedEstimate_18 : decode cL_signedEstimate 18 = .ok (.ireturn, 1) := by decide +kernel
set_option maxRecDepth 20000 in
theorem ggL_signedProduct_X5_signedProduct : GoodIn wsL_signedProduct wsX5_signedProduct := goodIn_ca (goodIn_r _ [6, 7, 8, 9, 10, 5, 11, 12, 13, 14, 15, 16, 17, 18, 19, 20, 21, 22, 23, 24, 25, 26, 27, 28, 29, 30, 31, 32, 33, 34, 35, 36, 37, 38, 39] (by decide +kernel) (by decide +kernel)) (goodIn_sub (fun _ h => List.mem_cons_of_mem _ (List.mem_append_right _ h)) (by decide +kernel))
set_option maxRecDepth 20000 in
theorem gL_signedProduct_X5_signedProduct : GoodIn wsL_signedProduct (wsV RL 83 RX5 yX5_signedProduct wsX5_signedProduct) := goodIn_app (goodIn_of _ (by decide +kernel)) ggL_signedProduct_X5_signedProduct
theorem dL_signedProduct_0 : decode cL_signedProduct 0 = .ok (.aload_n 3, 1) := by decide +kernel
theorem dL_signedProduct_1 : decode cL_signedProduct 1 = .ok (.iconst 0, 1) := by decide +kernel
theorem dL_signedProduct_2 : decode cL_signedProduct 2 = .ok (.aload_n 0, 1) := by decide +kernel
theorem dL_signedProduct_3 : decode cL_signedProduct 3 = .ok (.iload_n 1, 1) := by decide +kernel
theorem dL_signedProduct_4 : decode cL_signedProduct 4 = .ok (.iload_n 2, 1) := by decide +kernel
theorem dL_signedProduct_5 : decode cL_signedProduct 5 = .ok (.invokevirtual 83, 3) := by decide +kernel
theorem dL_signedProduct_8 : decode cL_signedProduct 8 = .ok (.lastore, 1) := by decide +kernel
theorem dL_signedProduct_9 : decode cL_signedProduct 9 = .ok (.goto 7, 3) := by decide +kernel
theorem dL_signedProduct_12 : decode cL_signedProduct 12 = .ok (.astore 4, 2) := by decide +kernel
theorem dL_signedProduct_14 : decode cL_signedProduct 14 = .ok (.iconst 1, 1) := by decide +kernel
theorem dL_signedProduct_15 : decode cL_signedProduct 15 = .ok (.ireturn, 1) := by decide +kernel
theorem dL_signedProduct_16 : decode cL_signedProduct 16 = .ok (.iconst 0, 1) := by decide +kernel
theorem dL_signedProduct_17 : decode cL_signedProduct 17 = .ok (.ireturn, 1) := by decide +kernel
set_option maxRecDepth 20000 in
theorem ggL_counters_X5_counters : GoodIn wsL_counters wsX5_counters := goodIn_ca (goodIn_r _ [6, 7, 8, 9, 10, 5, 11, 12, 13, 14, 15, 16, 17, 18, 19, 20, 21, 22] (by decide +kernel) (by decide +kernel)) (goodIn_sub (fun _ h => List.mem_cons_of_mem _ (List.mem_append_right _ h)) (by decide +kernel))
set_option maxRecDepth 20000 in
theorem gL_counters_X5_counters : GoodIn wsL_counters (wsV RL 86 RX5 yX5_counters wsX5_counters) := goodIn_app (goodIn_of _ (by decide +kernel)) ggL_counters_X5_counters
theorem dL_counters_0 : decode cL_counters 0 = .ok (.aload_n 2, 1) := by decide +kernel
theorem dL_counters_1 : decode cL_counters 1 = .ok (.iconst 0, 1) := by decide +kernel
theorem dL_counters_2 : decode cL_counters 2 = .ok (.aload_n 0, 1) := by decide +kernel
theorem dL_counters_3 : decode cL_counters 3 = .ok (.iload_n 1, 1) := by decide +kernel
theorem dL_counters_4 : decode cL_counters 4 = .ok (.invokevirtual 86, 3) := by decide +kernel
theorem dL_counters_7 : decode cL_counters 7 = .ok (.i2l, 1) := by decide +kernel
theorem dL_counters_8 : decode cL_counters 8 = .ok (.lastore, 1) := by decide +kernel
theorem dL_counters_9 : decode cL_counters 9 = .ok (.goto 6, 3) := by decide +kernel
theorem dL_counters_12 : decode cL_counters 12 = .ok (.astore_n 3, 1) := by decide +kernel
theorem dL_counters_13 : decode cL_counters 13 = .ok (.iconst 1, 1) := by decide +kernel
theorem dL_counters_14 : decode cL_counters 14 = .ok (.ireturn, 1) := by decide +kernel
theorem dL_counters_15 : decode cL_counters 15 = .ok (.iconst 0, 1) := by decide +kernel
theorem dL_counters_16 : decode cL_counters 16 = .ok (.ireturn, 1) := by decide +kernel
set_option maxRecDepth 20000 in
theorem ggL_counterItem_X5_counterItem : GoodIn wsL_counterItem wsX5_counterItem := goodIn_ca (goodIn_r _ [6, 7, 8, 9, 10, 5, 11, 12, 13, 14, 15, 16, 17, 18, 19, 20, 21, 22] (by decide +kernel) (by decide +kernel)) (goodIn_sub (fun _ h => List.mem_cons_of_mem _ (List.mem_append_right _ h)) (by decide +kernel))
set_option maxRecDepth 20000 in
theorem gL_counterItem_X5_counterItem : GoodIn wsL_counterItem (wsV RL 89 RX5 yX5_counterItem wsX5_counterItem) := goodIn_app (goodIn_of _ (by decide +kernel)) ggL_counterItem_X5_counterItem
theorem dL_counterItem_0 : decode cL_counterItem 0 = .ok (.aload_n 3, 1) := by decide +kernel
theorem dL_counterItem_1 : decode cL_counterItem 1 = .ok (.iconst 0, 1) := by decide +kernel
theorem dL_counterItem_2 : decode cL_counterItem 2 = .ok (.aload_n 0, 1) := by decide +kernel
theorem dL_counterItem_3 : decode cL_counterItem 3 = .ok (.iload_n 1, 1) := by decide +kernel
theorem dL_counterItem_4 : decode cL_counterItem 4 = .ok (.iload_n 2, 1) := by decide +kernel
theorem dL_counterItem_5 : decode cL_counterItem 5 = .ok (.invokevirtual 89, 3) := by decide +kernel
theorem dL_counterItem_8 : decode cL_counterItem 8 = .ok (.i2l, 1) := by decide +kernel
theorem dL_counterItem_9 : decode cL_counterItem 9 = .ok (.lastore, 1) := by decide +kernel
theorem dL_counterItem_10 : decode cL_counterItem 10 = .ok (.goto 7, 3) := by decide +kernel
theorem dL_counterItem_13 : decode cL_counterItem 13 = .ok (.astore 4, 2) := by decide +kernel
theorem dL_counterItem_15 : decode cL_counterItem 15 = .ok (.iconst 1, 1) := by decide +kernel
theorem dL_counterItem_16 : decode cL_counterItem 16 = .ok (.ireturn, 1) := by decide +kernel
theorem dL_counterItem_17 : decode cL_counterItem 17 = .ok (.iconst 0, 1) := by decide +kernel
theorem dL_counterItem_18 : decode cL_counterItem 18 = .ok (.ireturn, 1) := by decide +kernel
set_option maxRecDepth 20000 in
theorem ggL_counterOf_X5_counterOf : GoodIn wsL_counterOf wsX5_counterOf := goodIn_ca (goodIn_r _ [6, 7, 8, 9, 10, 5, 11, 12, 13, 14, 15, 16, 17, 18, 19, 20, 21, 22, 23, 24, 25, 26, 27, 28, 29, 30, 31, 32, 33, 34] (by decide +kernel) (by decide +kernel)) (goodIn_sub (fun _ h => List.mem_cons_of_mem _ (List.mem_append_right _ h)) (by decide +kernel))
set_option maxRecDepth 20000 in
theorem gL_counterOf_X5_counterOf : GoodIn wsL_counterOf (wsV RL 92 RX5 yX5_counterOf wsX5_counterOf) := goodIn_app (goodIn_of _ (by decide +kernel)) ggL_counterOf_X5_counterOf
theorem dL_counterOf_0 : decode cL_counterOf 0 = .ok (.aload_n 3, 1) := by decide +kernel
theorem dL_counterOf_1 : decode cL_counterOf 1 = .ok (.iconst 0, 1) := by decide +kernel
theorem dL_counterOf_2 : decode cL_counterOf 2 = .ok (.aload_n 0, 1) := by decide +kernel
theorem dL_counterOf_3 : decode cL_counterOf 3 = .ok (.iload_n 1, 1) := by decide +kernel
theorem dL_counterOf_4 : decode cL_counterOf 4 = .ok (.iload_n 2, 1) := by decide +kernel
theorem dL_counterOf_5 : decode cL_counterOf 5 = .ok (.invokevirtual 92, 3) := by decide +kernel
theorem dL_counterOf_8 : decode cL_counterOf 8 = .ok (.i2l, 1) := by decide +kernel
theorem dL_counterOf_9 : decode cL_counterOf 9 = .ok (.lastore, 1) := by decide +kernel
theorem dL_counterOf_10 : decode cL_counterOf 10 = .ok (.goto 7, 3) := by decide +kernel
theorem dL_counterOf_13 : decode cL_counterOf 13 = .ok (.astore 4, 2) := by decide +kernel
theorem dL_counterOf_15 : decode cL_counterOf 15 = .ok (.iconst 1, 1) := by decide +kernel
theorem dL_counterOf_16 : decode cL_counterOf 16 = .ok (.ireturn, 1) := by decide +kernel
theorem dL_counterOf_17 : decode cL_counterOf 17 = .ok (.iconst 0, 1) := by decide +kernel
theorem dL_counterOf_18 : decode cL_counterOf 18 = .ok (.ireturn, 1) := by decide +kernel
set_option maxRecDepth 20000 in
theorem ggL_taken_X5_taken : GoodIn wsL_taken wsX5_taken := goodIn_ca (goodIn_r _ [6, 7, 8, 9, 10, 5, 11, 12, 13, 14, 15, 16, 17, 18, 19, 20, 21, 22] (by decide +kernel) (by decide +kernel)) (goodIn_sub (fun _ h => List.mem_cons_of_mem _ (List.mem_append_right _ h)) (by decide +kernel))
set_option maxRecDepth 20000 in
theorem gL_taken_X5_taken : GoodIn wsL_taken (wsV RL 95 RX5 yX5_taken wsX5_taken) := goodIn_app (goodIn_of _ (by decide +kernel)) ggL_taken_X5_taken
theorem dL_taken_0 : decode cL_taken 0 = .ok (.aload_n 2, 1) := by decide +kernel
theorem dL_taken_1 : decode cL_taken 1 = .ok (.iconst 0, 1) := by decide +kernel
theorem dL_taken_2 : decode cL_taken 2 = .ok (.aload_n 0, 1) := by decide +kernel
theorem dL_taken_3 : decode cL_taken 3 = .ok (.iload_n 1, 1) := by decide +kernel
theorem dL_taken_4 : decode cL_taken 4 = .ok (.invokevirtual 95, 3) := by decide +kernel
theorem dL_taken_7 : decode cL_taken 7 = .ok (.i2l, 1) := by decide +kernel
theorem dL_taken_8 : decode cL_taken 8 = .ok (.lastore, 1) := by decide +kernel
theorem dL_taken_9 : decode cL_taken 9 = .ok (.goto 6, 3) := by decide +kernel
theorem dL_taken_12 : decode cL_taken 12 = .ok (.astore_n 3, 1) := by decide +kernel
theorem dL_taken_13 : decode cL_taken 13 = .ok (.iconst 1, 1) := by decide +kernel
theorem dL_taken_14 : decode cL_taken 14 = .ok (.ireturn, 1) := by decide +kernel
theorem dL_taken_15 : decode cL_taken 15 = .ok (.iconst 0, 1) := by decide +kernel
theorem dL_taken_16 : decode cL_taken 16 = .ok (.ireturn, 1) := by decide +kernel
set_option maxRecDepth 20000 in
theorem ggL_law_X5_init : GoodIn wsL_law wsX5_init := goodIn_r _ [10, 11, 12, 13, 14, 15, 16, 17, 18, 19, 20, 21, 22, 23, 24, 25, 26, 27, 28, 29, 30, 31, 32, 33, 34, 35, 36, 37, 38, 39, 40, 41, 42, 43, 44, 45, 46, 6, 47, 48, 49, 50, 51, 52, 53, 54, 55, 56, 661, 671, 672, 673, 674, 675, 676, 677, 678, 679, 680, 681, 682] (by decide +kernel) (by decide +kernel)
set_option maxRecDepth 20000 in
theorem gL_law_X5_init : GoodIn wsL_law (wsX5_init) := ggL_law_X5_init
set_option maxRecDepth 20000 in
theorem ggL_law_X6_init : GoodIn wsL_law wsX6_init := goodIn_r _ [59, 60, 12, 13, 41, 61, 62, 63, 64, 65, 66, 67, 6, 68, 662, 663, 664, 665, 666, 667, 668, 669, 670] (by decide +kernel) (by decide +kernel)
set_option maxRecDepth 20000 in
theorem gL_law_X6_init : GoodIn wsL_law (wsX6_init) := ggL_law_X6_init
set_option maxRecDepth 20000 in
theorem ggL_law_L_add : GoodIn wsL_law wsL_add := goodIn_ca (goodIn_ca (goodIn_ca (goodIn_r _ [72, 73, 74, 75, 76, 77, 78, 2, 79, 15, 80, 81, 82, 83, 84, 85, 86, 87, 88, 89, 90, 91, 92, 93, 24, 94, 42, 95, 96, 97, 98, 99, 100, 101, 102, 103, 17, 104, 25, 27, 31, 35, 105, 106, 107, 108, 109, 110, 111, 37, 112, 56, 113, 114, 115, 116, 117, 118, 119, 120, 121, 122, 123, 124, 125, 126, 127, 128, 129, 130, 131, 132, 133, 134, 30, 135, 46, 136, 137, 138, 139, 140, 141, 142, 143, 144, 145, 146, 147, 148, 149, 150, 151, 34, 152, 153, 154, 155, 156, 157, 158, 51, 159, 160, 161, 162, 52, 163, 164, 165, 166, 167, 168, 169, 170, 171, 661, 671, 672, 673, 674, 675, 682, 676, 677, 678, 679, 680, 681] (by decide +kernel) (by decide +kernel)) (goodIn_sub (fun _ h => List.mem_append_left _ (List.mem_append_left _ (List.mem_append_left _ (List.mem_append_right _ h)))) (by decide +kernel))) (goodIn_sub (fun _ h => List.mem_append_left _ (List.mem_append_left _ (List.mem_append_right _ h))) (by decide +kernel))) (goodIn_sub (fun _ h => List.mem_append_left _ (List.mem_append_right _ h)) (by decide +kernel))
set_option maxRecDepth 20000 in
theorem gL_law_L_add : GoodIn wsL_law (va_wsS RL 102 yL_add wsL_add) := goodIn_app (goodIn_of _ (by decide +kernel)) ggL_law_L_add
set_option maxRecDepth 20000 in
theorem ggL_law_X6_add : GoodIn wsL_law wsX6_add := goodIn_r _ [175, 62, 176, 61, 177, 178, 5, 179, 180, 181, 182, 183, 184, 185, 186, 187, 188, 189, 190, 191, 63, 192, 193, 194, 195, 196, 197, 198, 199, 200, 201, 202, 203, 204, 205, 206, 207, 208, 209, 210, 211, 212, 213, 214, 215, 66, 64, 216, 217, 218, 219, 65, 220, 221, 222, 223, 67, 224, 225, 226, 227, 662, 663, 664, 665, 666, 667, 668, 669, 670] (by decide +kernel) (by decide +kernel)
set_option maxRecDepth 20000 in
theorem gL_law_X6_add : GoodIn wsL_law (wsV RL 107 RX6 yX6_add wsX6_add) := goodIn_app (goodIn_of _ (by decide +kernel)) ggL_law_X6_add
set_option maxRecDepth 20000 in
theorem ggL_law_X6_thrown : GoodIn wsL_law wsX6_thrown := goodIn_r _ [231, 187, 662, 663, 664, 665, 666, 667, 668, 669, 670] (by decide +kernel) (by decide +kernel)
set_option maxRecDepth 20000 in
theorem gL_law_X6_thrown : GoodIn wsL_law (wsV RL 108 RX6 yX6_thrown wsX6_thrown) := goodIn_app (goodIn_of _ (by decide +kernel)) ggL_law_X6_thrown
set_option maxRecDepth 20000 in
theorem ggL_law_L_merge : GoodIn wsL_law wsL_merge := goodIn_ca (goodIn_ca (goodIn_ca (goodIn_r _ [234, 73, 74, 75, 235, 236, 237, 2, 238, 89, 90, 15, 80, 81, 82, 83, 84, 85, 91, 92, 93, 24, 94, 42, 95, 96, 97, 98, 99, 100, 239, 240, 241, 17, 242, 25, 27, 31, 35, 243, 244, 245, 246, 247, 248, 249, 37, 250, 56, 251, 252, 253, 30, 254, 46, 255, 256, 257, 34, 258, 153, 51, 52, 171, 159, 160, 161, 162, 155, 156, 157, 158, 259, 260, 261, 262, 263, 264, 265, 266, 167, 168, 169, 170, 661, 671, 672, 673, 674, 675, 682, 676, 677, 678, 679, 680, 681] (by decide +kernel) (by decide +kernel)) (goodIn_sub (fun _ h => List.mem_append_left _ (List.mem_append_left _ (List.mem_append_right _ h))) (by decide +kernel))) (goodIn_sub (fun _ h => List.mem_append_left _ (List.mem_append_left _ (List.mem_append_left _ (List.mem_append_right _ h)))) (by decide +kernel))) (goodIn_sub (fun _ h => List.mem_append_left _ (List.mem_append_right _ h)) (by decide +kernel))
set_option maxRecDepth 20000 in
theorem gL_law_L_merge : GoodIn wsL_law (va_wsS RL 112 yL_merge wsL_merge) := goodIn_app (goodIn_of _ (by decide +kernel)) ggL_law_L_merge
set_option maxRecDepth 20000 in
theorem ggL_law_X6_merge : GoodIn wsL_law wsX6_merge := goodIn_r _ [270, 62, 176, 61, 63, 177, 178, 5, 179, 180, 181, 182, 183, 184, 185, 186, 187, 271, 272, 273, 274, 64, 65, 66, 67, 216, 217, 218, 219, 224, 225, 226, 227, 275, 276, 277, 278, 220, 221, 222, 223, 662, 663, 664, 665, 666, 667, 668, 669, 670] (by decide +kernel) (by decide +kernel)
set_option maxRecDepth 20000 in
theorem gL_law_X6_merge : GoodIn wsL_law (wsV RL 115 RX6 yX6_merge wsX6_merge) := goodIn_app (goodIn_of _ (by decide +kernel)) ggL_law_X6_merge
set_option maxRecDepth 20000 in
theorem ggL_law_L_clear : GoodIn wsL_law wsL_clear := goodIn_ca (goodIn_r _ [281, 73, 282, 283, 284, 2, 285, 15, 80, 81, 82, 83, 84, 85, 91, 92, 93, 24, 94, 42, 286, 287, 288, 17, 289, 25, 27, 31, 35, 290, 291, 292, 293, 294, 295, 296, 297, 298, 299, 300, 37, 301, 56, 302, 303, 304, 305, 30, 306, 46, 307, 308, 309, 310, 34, 311, 153, 171, 661, 671, 672, 673, 674, 675, 682, 676, 677, 678, 679, 680, 681] (by decide +kernel) (by decide +kernel)) (goodIn_sub (fun _ h => List.mem_append_left _ (List.mem_append_left _ (List.mem_append_left _ (List.mem_append_right _ h)))) (by decide +kernel))
set_option maxRecDepth 20000 in
theorem gL_law_L_clear : GoodIn wsL_law (va_wsS RL 116 yL_clear wsL_clear) := goodIn_app (goodIn_of _ (by decide +kernel)) ggL_law_L_clear
set_option maxRecDepth 20000 in
theorem ggL_law_X6_clear : GoodIn wsL_law wsX6_clear := goodIn_r _ [315, 62, 61, 63, 64, 67, 177, 178, 5, 179, 180, 181, 182, 183, 184, 185, 186, 187, 662, 663, 664, 665, 666, 667, 668, 669, 670] (by decide +kernel) (by decide +kernel)
set_option maxRecDepth 20000 in
theorem gL_law_X6_clear : GoodIn wsL_law (wsV RL 119 RX6 yX6_clear wsX6_clear) := goodIn_app (goodIn_of _ (by decide +kernel)) ggL_law_X6_clear
set_option maxRecDepth 20000 in
theorem ggL_law_L_total : GoodIn wsL_law wsL_total := goodIn_ca (goodIn_r _ [318, 73, 319, 320, 321, 2, 322, 15, 80, 81, 82, 83, 84, 85, 91, 92, 93, 24, 94, 42, 661, 671, 672, 673, 674, 675] (by decide +kernel) (by decide +kernel)) (goodIn_sub (fun _ h => List.mem_append_left _ (List.mem_append_left _ (List.mem_append_left _ (List.mem_append_right _ h)))) (by decide +kernel))
set_option maxRecDepth 20000 in
theorem gL_law_L_total : GoodIn wsL_law (va_wsS RL 120 yL_total wsL_total) := goodIn_app (goodIn_of _ (by decide +kernel)) ggL_law_L_total
set_option maxRecDepth 20000 in
theorem ggL_law_X6_total : GoodIn wsL_law wsX6_total := goodIn_r _ [326, 62, 177, 178, 5, 179, 180, 181, 182, 183, 184, 185, 186, 187, 662, 663, 664, 665, 666, 667, 668, 669, 670] (by decide +kernel) (by decide +kernel)
set_option maxRecDepth 20000 in
theorem gL_law_X6_total : GoodIn wsL_law (wsV RL 122 RX6 yX6_total wsX6_total) := goodIn_app (goodIn_of _ (by decide +kernel)) ggL_law_X6_total
set_option maxRecDepth 20000 in
theorem ggL_law_L_count : GoodIn wsL_law wsL_count := goodIn_ca (goodIn_r _ [329, 73, 330, 331, 332, 2, 333, 15, 80, 81, 82, 83, 84, 85, 334, 335, 336, 24, 337, 42, 661, 671, 672, 673, 674, 675] (by decide +kernel) (by decide +kernel)) (goodIn_sub (fun _ h => List.mem_append_left _ (List.mem_append_left _ (List.mem_append_left _ (List.mem_append_right _ h)))) (by decide +kernel))
set_option maxRecDepth 20000 in
theorem gL_law_L_count : GoodIn wsL_law (va_wsS RL 123 yL_count wsL_count) := goodIn_app (goodIn_of _ (by decide +kernel)) ggL_law_L_count
set_option maxRecDepth 20000 in
theorem ggL_law_X6_count : GoodIn wsL_law wsX6_count := goodIn_r _ [341, 61, 342, 343, 344, 5, 345, 177, 178, 179, 180, 181, 182, 183, 184, 185, 186, 187, 662, 663, 664, 665, 666, 667, 668, 669, 670] (by decide +kernel) (by decide +kernel)
set_option maxRecDepth 20000 in
theorem gL_law_X6_count : GoodIn wsL_law (wsV RL 125 RX6 yX6_count wsX6_count) := goodIn_app (goodIn_of _ (by decide +kernel)) ggL_law_X6_count
set_option maxRecDepth 20000 in
theorem ggL_law_L_countOfRange : GoodIn wsL_law wsL_countOfRange := goodIn_ca (goodIn_ca (goodIn_r _ [348, 73, 74, 349, 350, 351, 2, 352, 15, 80, 81, 82, 83, 84, 85, 353, 354, 355, 89, 90, 356, 357, 358, 24, 359, 42, 661, 671, 672, 673, 674, 675] (by decide +kernel) (by decide +kernel)) (goodIn_sub (fun _ h => List.mem_append_left _ (List.mem_append_left _ (List.mem_append_left _ (List.mem_append_right _ h)))) (by decide +kernel))) (goodIn_sub (fun _ h => List.mem_append_left _ (List.mem_append_left _ (List.mem_append_right _ h))) (by decide +kernel))
set_option maxRecDepth 20000 in
theorem gL_law_L_countOfRange : GoodIn wsL_law (va_wsS RL 126 yL_countOfRange wsL_countOfRange) := goodIn_app (goodIn_of _ (by decide +kernel)) ggL_law_L_countOfRange
set_option maxRecDepth 20000 in
theorem ggL_law_X6_countOfRange : GoodIn wsL_law wsX6_countOfRange := goodIn_r _ [363, 177, 178, 5, 179, 180, 181, 182, 364, 365, 366, 367, 183, 184, 185, 186, 187, 196, 197, 198, 199, 61, 662, 663, 664, 665, 666, 667, 668, 669, 670] (by decide +kernel) (by decide +kernel)
set_option maxRecDepth 20000 in
theorem gL_law_X6_countOfRange : GoodIn wsL_law (wsV RL 128 RX6 yX6_countOfRange wsX6_countOfRange) := goodIn_app (goodIn_of _ (by decide +kernel)) ggL_law_X6_countOfRange
set_option maxRecDepth 20000 in
theorem ggL_law_L_product : GoodIn wsL_law wsL_product := goodIn_ca (goodIn_r _ [370, 73, 371, 372, 373, 2, 374, 15, 80, 81, 82, 83, 84, 85, 375, 376, 377, 24, 378, 42, 661, 671, 672, 673, 674, 675] (by decide +kernel) (by decide +kernel)) (goodIn_sub (fun _ h => List.mem_append_left _ (List.mem_append_left _ (List.mem_append_left _ (List.mem_append_right _ h)))) (by decide +kernel))
set_option maxRecDepth 20000 in
theorem gL_law_L_product : GoodIn wsL_law (va_wsS RL 129 yL_product wsL_product) := goodIn_app (goodIn_of _ (by decide +kernel)) ggL_law_L_product
set_option maxRecDepth 20000 in
theorem ggL_law_X6_product : GoodIn wsL_law wsX6_product := goodIn_r _ [382, 61, 177, 178, 5, 179, 180, 181, 182, 183, 184, 185, 186, 187, 662, 663, 664, 665, 666, 667, 668, 669, 670] (by decide +kernel) (by decide +kernel)
set_option maxRecDepth 20000 in
theorem gL_law_X6_product : GoodIn wsL_law (wsV RL 131 RX6 yX6_product wsX6_product) := goodIn_app (goodIn_of _ (by decide +kernel)) ggL_law_X6_product
set_option maxRecDepth 20000 in
theorem ggL_law_L_column : GoodIn wsL_law wsL_column := goodIn_ca (goodIn_r _ [385, 73, 386, 387, 388, 2, 389, 81, 82, 83, 84, 85, 390, 128, 37, 129, 130, 131] (by decide +kernel) (by decide +kernel)) (goodIn_sub (fun _ h => List.mem_append_left _ (List.mem_append_left _ (List.mem_append_left _ (List.mem_append_right _ h)))) (by decide +kernel))
set_option maxRecDepth 20000 in
theorem gL_law_L_column : GoodIn wsL_law (va_wsS RL 132 yL_column wsL_column) := goodIn_app (goodIn_of _ (by decide +kernel)) ggL_law_L_column
set_option maxRecDepth 20000 in
theorem ggL_law_X6_column : GoodIn wsL_law wsX6_column := goodIn_r _ [394, 180, 181, 5, 182, 183, 184, 185, 186, 187, 200, 201, 202, 203, 204, 205, 206, 207, 208, 662, 663, 664, 665, 666, 667, 668, 669, 670] (by decide +kernel) (by decide +kernel)
set_option maxRecDepth 20000 in
theorem gL_law_X6_column : GoodIn wsL_law (wsV RL 134 RX6 yX6_column wsX6_column) := goodIn_app (goodIn_of _ (by decide +kernel)) ggL_law_X6_column
set_option maxRecDepth 20000 in
theorem ggL_law_L_cell : GoodIn wsL_law wsL_cell := goodIn_ca (goodIn_r _ [397, 73, 398, 399, 400, 2, 401, 15, 402, 81, 82, 83, 84, 85, 403, 404, 405, 37, 406, 56, 661, 671, 672, 673, 674, 682] (by decide +kernel) (by decide +kernel)) (goodIn_sub (fun _ h => List.mem_append_left _ (List.mem_append_left _ (List.mem_append_left _ (List.mem_append_right _ h)))) (by decide +kernel))
set_option maxRecDepth 20000 in
theorem gL_law_L_cell : GoodIn wsL_law (va_wsS RL 135 yL_cell wsL_cell) := goodIn_app (goodIn_of _ (by decide +kernel)) ggL_law_L_cell
set_option maxRecDepth 20000 in
theorem ggL_law_X6_cell : GoodIn wsL_law wsX6_cell := goodIn_r _ [410, 63, 177, 178, 5, 179, 180, 181, 182, 183, 184, 185, 186, 187, 209, 210, 211, 662, 663, 664, 665, 666, 667, 668, 669, 670] (by decide +kernel) (by decide +kernel)
set_option maxRecDepth 20000 in
theorem gL_law_X6_cell : GoodIn wsL_law (wsV RL 138 RX6 yX6_cell wsX6_cell) := goodIn_app (goodIn_of _ (by decide +kernel)) ggL_law_X6_cell
set_option maxRecDepth 20000 in
theorem ggL_law_L_estimate : GoodIn wsL_law wsL_estimate := goodIn_ca (goodIn_r _ [413, 73, 414, 415, 416, 2, 417, 15, 81, 82, 83, 84, 85, 418, 419, 420, 17, 421, 27, 25, 422, 118, 119, 37, 120, 56, 121, 122, 115, 123, 124, 125, 126, 127, 128, 129, 130, 131, 423, 335, 336, 24, 337, 42, 661, 671, 672, 673, 674, 682, 675] (by decide +kernel) (by decide +kernel)) (goodIn_sub (fun _ h => List.mem_append_left _ (List.mem_append_left _ (List.mem_append_left _ (List.mem_append_right _ h)))) (by decide +kernel))
set_option maxRecDepth 20000 in
theorem gL_law_L_estimate : GoodIn wsL_law (va_wsS RL 139 yL_estimate wsL_estimate) := goodIn_app (goodIn_of _ (by decide +kernel)) ggL_law_L_estimate
set_option maxRecDepth 20000 in
theorem ggL_law_X6_estimate : GoodIn wsL_law wsX6_estimate := goodIn_r _ [427, 177, 178, 5, 179, 180, 181, 182, 183, 184, 185, 186, 187, 192, 193, 194, 195, 63, 196, 197, 198, 199, 61, 200, 201, 202, 203, 204, 205, 206, 207, 208, 209, 210, 211, 662, 663, 664, 665, 666, 667, 668, 669, 670] (by decide +kernel) (by decide +kernel)
set_option maxRecDepth 20000 in
theorem gL_law_X6_estimate : GoodIn wsL_law (wsV RL 141 RX6 yX6_estimate wsX6_estimate) := goodIn_app (goodIn_of _ (by decide +kernel)) ggL_law_X6_estimate
set_option maxRecDepth 20000 in
theorem ggL_law_L_share : GoodIn wsL_law wsL_share := goodIn_ca (goodIn_r _ [430, 73, 431, 432, 433, 2, 434, 15, 80, 81, 82, 83, 84, 85, 91, 92, 93, 24, 94, 42, 418, 419, 420, 17, 421, 27, 25, 422, 118, 119, 37, 120, 56, 121, 122, 115, 123, 124, 125, 126, 127, 128, 129, 130, 131, 423, 335, 336, 337, 661, 671, 672, 673, 674, 675, 682] (by decide +kernel) (by decide +kernel)) (goodIn_sub (fun _ h => List.mem_append_left _ (List.mem_append_left _ (List.mem_append_left _ (List.mem_append_right _ h)))) (by decide +kernel))
set_option maxRecDepth 20000 in
theorem gL_law_L_share : GoodIn wsL_law (va_wsS RL 142 yL_share wsL_share) := goodIn_app (goodIn_of _ (by decide +kernel)) ggL_law_L_share
set_option maxRecDepth 20000 in
theorem ggL_law_X6_share : GoodIn wsL_law wsX6_share := goodIn_r _ [438, 62, 342, 343, 344, 5, 345, 177, 178, 179, 180, 181, 182, 183, 184, 185, 186, 187, 192, 193, 194, 195, 63, 196, 197, 198, 199, 61, 200, 201, 202, 203, 204, 205, 206, 207, 208, 209, 210, 211, 662, 663, 664, 665, 666, 667, 668, 669, 670] (by decide +kernel) (by decide +kernel)
set_option maxRecDepth 20000 in
theorem gL_law_X6_share : GoodIn wsL_law (wsV RL 145 RX6 yX6_share wsX6_share) := goodIn_app (goodIn_of _ (by decide +kernel)) ggL_law_X6_share
set_option maxRecDepth 20000 in
theorem ggL_law_L_parts : GoodIn wsL_law wsL_parts := goodIn_ca (goodIn_ca (goodIn_r _ [441, 73, 74, 442, 443, 444, 2, 445, 353, 354, 355, 89, 90, 81, 82, 83, 84, 85, 446, 447, 448, 449, 450, 451] (by decide +kernel) (by decide +kernel)) (goodIn_sub (fun _ h => List.mem_append_left _ (List.mem_append_left _ (List.mem_append_right _ h))) (by decide +kernel))) (goodIn_sub (fun _ h => List.mem_append_left _ (List.mem_append_left _ (List.mem_append_left _ (List.mem_append_right _ h)))) (by decide +kernel))
set_option maxRecDepth 20000 in
theorem gL_law_L_parts : GoodIn wsL_law (va_wsS RL 146 yL_parts wsL_parts) := goodIn_app (goodIn_of _ (by decide +kernel)) ggL_law_L_parts
set_option maxRecDepth 20000 in
theorem ggL_law_X6_parts : GoodIn wsL_law wsX6_parts := goodIn_r _ [455, 364, 365, 366, 5, 367, 180, 181, 182, 183, 184, 185, 186, 187, 456, 457, 458, 662, 663, 664, 665, 666, 667, 668, 669, 670] (by decide +kernel) (by decide +kernel)
set_option maxRecDepth 20000 in
theorem gL_law_X6_parts : GoodIn wsL_law (wsV RL 148 RX6 yX6_parts wsX6_parts) := goodIn_app (goodIn_of _ (by decide +kernel)) ggL_law_X6_parts
set_option maxRecDepth 20000 in
theorem ggL_law_L_estimateOfRange : GoodIn wsL_law wsL_estimateOfRange := goodIn_ca (goodIn_ca (goodIn_r _ [461, 73, 74, 462, 463, 464, 2, 465, 15, 81, 82, 83, 84, 85, 353, 354, 355, 89, 90, 446, 447, 448, 449, 450, 451, 418, 419, 420, 17, 421, 27, 25, 422, 118, 119, 37, 120, 56, 121, 122, 115, 123, 124, 125, 126, 127, 128, 129, 130, 131, 423, 335, 336, 24, 337, 42, 661, 671, 672, 673, 674, 682, 675] (by decide +kernel) (by decide +kernel)) (goodIn_sub (fun _ h => List.mem_append_left _ (List.mem_append_left _ (List.mem_append_left _ (List.mem_append_right _ h)))) (by decide +kernel))) (goodIn_sub (fun _ h => List.mem_append_left _ (List.mem_append_left _ (List.mem_append_right _ h))) (by decide +kernel))
set_option maxRecDepth 20000 in
theorem gL_law_L_estimateOfRange : GoodIn wsL_law (va_wsS RL 149 yL_estimateOfRange wsL_estimateOfRange) := goodIn_app (goodIn_of _ (by decide +kernel)) ggL_law_L_estimateOfRange
set_option maxRecDepth 20000 in
theorem ggL_law_X6_estimateOfRange : GoodIn wsL_law wsX6_estimateOfRange := goodIn_r _ [469, 177, 178, 5, 179, 180, 181, 182, 364, 365, 366, 367, 183, 184, 185, 186, 187, 456, 457, 458, 192, 193, 194, 195, 63, 196, 197, 198, 199, 61, 200, 201, 202, 203, 204, 205, 206, 207, 208, 209, 210, 211, 662, 663, 664, 665, 666, 667, 668, 669, 670] (by decide +kernel) (by decide +kernel)
set_option maxRecDepth 20000 in
theorem gL_law_X6_estimateOfRange : GoodIn wsL_law (wsV RL 151 RX6 yX6_estimateOfRange wsX6_estimateOfRange) := goodIn_app (goodIn_of _ (by decide +kernel)) ggL_law_X6_estimateOfRange
set_option maxRecDepth 20000 in
theorem ggL_law_L_frequent : GoodIn wsL_law wsL_frequent := goodIn_ca (goodIn_ca (goodIn_r _ [472, 73, 74, 473, 474, 475, 2, 476, 100, 15, 81, 82, 83, 84, 85, 86, 87, 88, 89, 90, 477, 478, 479, 17, 480, 481, 419, 420, 421, 27, 25, 422, 118, 119, 37, 120, 56, 121, 122, 115, 123, 124, 125, 126, 127, 128, 129, 130, 131, 423, 335, 336, 24, 337, 42, 661, 671, 672, 673, 674, 682, 675] (by decide +kernel) (by decide +kernel)) (goodIn_sub (fun _ h => List.mem_append_left _ (List.mem_append_left _ (List.mem_append_left _ (List.mem_append_right _ h)))) (by decide +kernel))) (goodIn_sub (fun _ h => List.mem_append_left _ (List.mem_append_left _ (List.mem_append_right _ h))) (by decide +kernel))
set_option maxRecDepth 20000 in
theorem gL_law_L_frequent : GoodIn wsL_law (va_wsS RL 152 yL_frequent wsL_frequent) := goodIn_app (goodIn_of _ (by decide +kernel)) ggL_law_L_frequent
set_option maxRecDepth 20000 in
theorem ggL_law_X6_frequent : GoodIn wsL_law wsX6_frequent := goodIn_r _ [485, 486, 487, 488, 5, 489, 176, 177, 178, 179, 180, 181, 182, 183, 184, 185, 186, 187, 490, 491, 492, 493, 192, 193, 194, 195, 63, 196, 197, 198, 199, 61, 200, 201, 202, 203, 204, 205, 206, 207, 208, 209, 210, 211, 662, 663, 664, 665, 666, 667, 668, 669, 670] (by decide +kernel) (by decide +kernel)
set_option maxRecDepth 20000 in
theorem gL_law_X6_frequent : GoodIn wsL_law (wsV RL 154 RX6 yX6_frequent wsX6_frequent) := goodIn_app (goodIn_of _ (by decide +kernel)) ggL_law_X6_frequent
set_option maxRecDepth 20000 in
theorem ggL_law_L_frequentAt : GoodIn wsL_law wsL_frequentAt := goodIn_ca (goodIn_ca (goodIn_ca (goodIn_r _ [496, 73, 74, 497, 498, 499, 500, 2, 501, 502, 503, 100, 15, 81, 82, 83, 84, 85, 86, 87, 88, 89, 90, 477, 478, 479, 17, 480, 481, 419, 420, 421, 27, 25, 422, 118, 119, 37, 120, 56, 121, 122, 115, 123, 124, 125, 126, 127, 128, 129, 130, 131, 423, 335, 336, 24, 337, 42, 661, 671, 672, 673, 674, 682, 675] (by decide +kernel) (by decide +kernel)) (goodIn_sub (fun _ h => List.mem_append_right _ h) (by decide +kernel))) (goodIn_sub (fun _ h => List.mem_append_left _ (List.mem_append_left _ (List.mem_append_left _ (List.mem_append_right _ h)))) (by decide +kernel))) (goodIn_sub (fun _ h => List.mem_append_left _ (List.mem_append_left _ (List.mem_append_right _ h))) (by decide +kernel))
set_option maxRecDepth 20000 in
theorem gL_law_L_frequentAt : GoodIn wsL_law (va_wsS RL 155 yL_frequentAt wsL_frequentAt) := goodIn_app (goodIn_of _ (by decide +kernel)) ggL_law_L_frequentAt
set_option maxRecDepth 20000 in
theorem ggL_law_X6_frequentAt : GoodIn wsL_law wsX6_frequentAt := goodIn_r _ [507, 486, 487, 488, 5, 489, 176, 177, 178, 179, 180, 181, 182, 183, 184, 185, 186, 187, 490, 491, 492, 493, 192, 193, 194, 195, 63, 196, 197, 198, 199, 61, 200, 201, 202, 203, 204, 205, 206, 207, 208, 209, 210, 211, 662, 663, 664, 665, 666, 667, 668, 669, 670] (by decide +kernel) (by decide +kernel)
set_option maxRecDepth 20000 in
theorem gL_law_X6_frequentAt : GoodIn wsL_law (wsV RL 157 RX6 yX6_frequentAt wsX6_frequentAt) := goodIn_app (goodIn_of _ (by decide +kernel)) ggL_law_X6_frequentAt
set_option maxRecDepth 20000 in
theorem ggL_law_L_itemOfRank : GoodIn wsL_law wsL_itemOfRank := goodIn_ca (goodIn_ca (goodIn_r _ [510, 73, 74, 511, 512, 513, 2, 514, 15, 80, 81, 82, 83, 84, 85, 91, 92, 93, 24, 94, 42, 86, 87, 88, 89, 90, 418, 419, 420, 17, 421, 27, 25, 422, 118, 119, 37, 120, 56, 121, 122, 115, 123, 124, 125, 126, 127, 128, 129, 130, 131, 423, 335, 336, 337, 661, 671, 672, 673, 674, 675, 682] (by decide +kernel) (by decide +kernel)) (goodIn_sub (fun _ h => List.mem_append_left _ (List.mem_append_left _ (List.mem_append_left _ (List.mem_append_right _ h)))) (by decide +kernel))) (goodIn_sub (fun _ h => List.mem_append_left _ (List.mem_append_left _ (List.mem_append_right _ h))) (by decide +kernel))
set_option maxRecDepth 20000 in
theorem gL_law_L_itemOfRank : GoodIn wsL_law (va_wsS RL 158 yL_itemOfRank wsL_itemOfRank) := goodIn_app (goodIn_of _ (by decide +kernel)) ggL_law_L_itemOfRank
set_option maxRecDepth 20000 in
theorem ggL_law_X6_itemOfRank : GoodIn wsL_law wsX6_itemOfRank := goodIn_r _ [518, 62, 177, 178, 5, 179, 180, 181, 182, 183, 184, 185, 186, 187, 192, 193, 194, 195, 63, 196, 197, 198, 199, 61, 200, 201, 202, 203, 204, 205, 206, 207, 208, 209, 210, 211, 662, 663, 664, 665, 666, 667, 668, 669, 670] (by decide +kernel) (by decide +kernel)
set_option maxRecDepth 20000 in
theorem gL_law_X6_itemOfRank : GoodIn wsL_law (wsV RL 160 RX6 yX6_itemOfRank wsX6_itemOfRank) := goodIn_app (goodIn_of _ (by decide +kernel)) ggL_law_X6_itemOfRank
set_option maxRecDepth 20000 in
theorem ggL_law_L_signedColumn : GoodIn wsL_law wsL_signedColumn := goodIn_ca (goodIn_r _ [521, 73, 522, 523, 524, 2, 525, 81, 82, 83, 84, 85, 526, 140, 30, 141, 142, 143] (by decide +kernel) (by decide +kernel)) (goodIn_sub (fun _ h => List.mem_append_left _ (List.mem_append_left _ (List.mem_append_left _ (List.mem_append_right _ h)))) (by decide +kernel))
set_option maxRecDepth 20000 in
theorem gL_law_L_signedColumn : GoodIn wsL_law (va_wsS RL 161 yL_signedColumn wsL_signedColumn) := goodIn_app (goodIn_of _ (by decide +kernel)) ggL_law_L_signedColumn
set_option maxRecDepth 20000 in
theorem ggL_law_X6_signedColumn : GoodIn wsL_law wsX6_signedColumn := goodIn_r _ [530, 180, 181, 5, 182, 183, 184, 185, 186, 187, 531, 532, 533, 662, 663, 664, 665, 666, 667, 668, 669, 670] (by decide +kernel) (by decide +kernel)
set_option maxRecDepth 20000 in
theorem gL_law_X6_signedColumn : GoodIn wsL_law (wsV RL 163 RX6 yX6_signedColumn wsX6_signedColumn) := goodIn_app (goodIn_of _ (by decide +kernel)) ggL_law_X6_signedColumn
set_option maxRecDepth 20000 in
theorem ggL_law_L_sign : GoodIn wsL_law wsL_sign := goodIn_ca (goodIn_r _ [536, 73, 537, 538, 539, 2, 540, 81, 82, 83, 84, 85, 541, 145, 30, 146, 147, 148] (by decide +kernel) (by decide +kernel)) (goodIn_sub (fun _ h => List.mem_append_left _ (List.mem_append_left _ (List.mem_append_left _ (List.mem_append_right _ h)))) (by decide +kernel))
set_option maxRecDepth 20000 in
theorem gL_law_L_sign : GoodIn wsL_law (va_wsS RL 164 yL_sign wsL_sign) := goodIn_app (goodIn_of _ (by decide +kernel)) ggL_law_L_sign
set_option maxRecDepth 20000 in
theorem ggL_law_X6_sign : GoodIn wsL_law wsX6_sign := goodIn_r _ [545, 180, 181, 5, 182, 183, 184, 185, 186, 187, 546, 547, 548, 662, 663, 664, 665, 666, 667, 668, 669, 670] (by decide +kernel) (by decide +kernel)
set_option maxRecDepth 20000 in
theorem gL_law_X6_sign : GoodIn wsL_law (wsV RL 166 RX6 yX6_sign wsX6_sign) := goodIn_app (goodIn_of _ (by decide +kernel)) ggL_law_X6_sign
set_option maxRecDepth 20000 in
theorem ggL_law_L_signedCell : GoodIn wsL_law wsL_signedCell := goodIn_ca (goodIn_r _ [551, 73, 552, 553, 554, 2, 555, 15, 556, 81, 82, 83, 84, 85, 557, 558, 559, 30, 560, 46, 661, 671, 672, 673, 674, 676, 677] (by decide +kernel) (by decide +kernel)) (goodIn_sub (fun _ h => List.mem_append_left _ (List.mem_append_left _ (List.mem_append_left _ (List.mem_append_right _ h)))) (by decide +kernel))
set_option maxRecDepth 20000 in
theorem gL_law_L_signedCell : GoodIn wsL_law (va_wsS RL 167 yL_signedCell wsL_signedCell) := goodIn_app (goodIn_of _ (by decide +kernel)) ggL_law_L_signedCell
set_option maxRecDepth 20000 in
theorem ggL_law_X6_signedCell : GoodIn wsL_law wsX6_signedCell := goodIn_r _ [564, 177, 178, 5, 179, 180, 181, 182, 183, 184, 185, 186, 187, 565, 566, 567, 568, 61, 531, 532, 533, 546, 547, 548, 662, 663, 664, 665, 666, 667, 668, 669, 670] (by decide +kernel) (by decide +kernel)
set_option maxRecDepth 20000 in
theorem gL_law_X6_signedCell : GoodIn wsL_law (wsV RL 169 RX6 yX6_signedCell wsX6_signedCell) := goodIn_app (goodIn_of _ (by decide +kernel)) ggL_law_X6_signedCell
set_option maxRecDepth 20000 in
theorem ggL_law_L_signedEstimate : GoodIn wsL_law wsL_signedEstimate := goodIn_ca (goodIn_r _ [571, 73, 572, 573, 574, 2, 575, 15, 556, 81, 82, 83, 84, 85, 576, 577, 578, 30, 579, 47, 46, 144, 145, 146, 147, 148, 136, 137, 138, 139, 140, 141, 142, 143, 580, 581, 582, 583, 661, 671, 672, 673, 674, 676, 677] (by decide +kernel) (by decide +kernel)) (goodIn_sub (fun _ h => List.mem_append_left _ (List.mem_append_left _ (List.mem_append_left _ (List.mem_append_right _ h)))) (by decide +kernel))
set_option maxRecDepth 20000 in
theorem gL_law_L_signedEstimate : GoodIn wsL_law (va_wsS RL 170 yL_signedEstimate wsL_signedEstimate) := goodIn_app (goodIn_of _ (by decide +kernel)) ggL_law_L_signedEstimate
set_option maxRecDepth 20000 in
theorem ggL_law_X6_signedEstimate : GoodIn wsL_law wsX6_signedEstimate := goodIn_r _ [587, 68, 342, 343, 344, 5, 345, 177, 178, 179, 180, 181, 182, 183, 184, 185, 186, 187, 546, 547, 548, 531, 532, 533, 565, 566, 567, 568, 61, 588, 589, 590, 591, 662, 663, 664, 665, 666, 667, 668, 669, 670] (by decide +kernel) (by decide +kernel)
set_option maxRecDepth 20000 in
theorem gL_law_X6_signedEstimate : GoodIn wsL_law (wsV RL 172 RX6 yX6_signedEstimate wsX6_signedEstimate) := goodIn_app (goodIn_of _ (by decide +kernel)) ggL_law_X6_signedEstimate
set_option maxRecDepth 20000 in
theorem ggL_law_L_signedProduct : GoodIn wsL_law wsL_signedProduct := goodIn_ca (goodIn_r _ [594, 73, 595, 596, 597, 2, 598, 15, 556, 81, 82, 83, 84, 85, 599, 600, 601, 30, 602, 47, 603, 604, 605, 606, 607, 558, 559, 560, 46, 580, 581, 582, 583, 661, 671, 672, 673, 674, 676, 677] (by decide +kernel) (by decide +kernel)) (goodIn_sub (fun _ h => List.mem_append_left _ (List.mem_append_left _ (List.mem_append_left _ (List.mem_append_right _ h)))) (by decide +kernel))
set_option maxRecDepth 20000 in
theorem gL_law_L_signedProduct : GoodIn wsL_law (va_wsS RL 173 yL_signedProduct wsL_signedProduct) := goodIn_app (goodIn_of _ (by decide +kernel)) ggL_law_L_signedProduct
set_option maxRecDepth 20000 in
theorem ggL_law_X6_signedProduct : GoodIn wsL_law wsX6_signedProduct := goodIn_r _ [611, 68, 177, 178, 5, 179, 180, 181, 182, 183, 184, 185, 186, 187, 565, 566, 567, 568, 61, 531, 532, 533, 546, 547, 548, 588, 589, 590, 591, 662, 663, 664, 665, 666, 667, 668, 669, 670] (by decide +kernel) (by decide +kernel)
set_option maxRecDepth 20000 in
theorem gL_law_X6_signedProduct : GoodIn wsL_law (wsV RL 175 RX6 yX6_signedProduct wsX6_signedProduct) := goodIn_app (goodIn_of _ (by decide +kernel)) ggL_law_X6_signedProduct
set_option maxRecDepth 20000 in
theorem ggL_law_L_counters : GoodIn wsL_law wsL_counters := goodIn_ca (goodIn_r _ [614, 73, 615, 616, 617, 2, 618, 15, 619, 81, 82, 83, 84, 85, 661, 671, 672, 673, 674, 678, 679, 680, 681] (by decide +kernel) (by decide +kernel)) (goodIn_sub (fun _ h => List.mem_append_left _ (List.mem_append_left _ (List.mem_append_left _ (List.mem_append_right _ h)))) (by decide +kernel))
set_option maxRecDepth 20000 in
theorem gL_law_L_counters : GoodIn wsL_law (va_wsS RL 176 yL_counters wsL_counters) := goodIn_app (goodIn_of _ (by decide +kernel)) ggL_law_L_counters
set_option maxRecDepth 20000 in
theorem ggL_law_X6_counters : GoodIn wsL_law wsX6_counters := goodIn_r _ [623, 64, 177, 178, 5, 179, 180, 181, 182, 183, 184, 185, 186, 187, 662, 663, 664, 665, 666, 667, 668, 669, 670] (by decide +kernel) (by decide +kernel)
set_option maxRecDepth 20000 in
theorem gL_law_X6_counters : GoodIn wsL_law (wsV RL 178 RX6 yX6_counters wsX6_counters) := goodIn_app (goodIn_of _ (by decide +kernel)) ggL_law_X6_counters
set_option maxRecDepth 20000 in
theorem ggL_law_L_counterItem : GoodIn wsL_law wsL_counterItem := goodIn_ca (goodIn_r _ [626, 73, 627, 628, 629, 2, 630, 15, 619, 81, 82, 83, 84, 85, 661, 671, 672, 673, 674, 678, 679, 680, 681] (by decide +kernel) (by decide +kernel)) (goodIn_sub (fun _ h => List.mem_append_left _ (List.mem_append_left _ (List.mem_append_left _ (List.mem_append_right _ h)))) (by decide +kernel))
set_option maxRecDepth 20000 in
theorem gL_law_L_counterItem : GoodIn wsL_law (va_wsS RL 179 yL_counterItem wsL_counterItem) := goodIn_app (goodIn_of _ (by decide +kernel)) ggL_law_L_counterItem
set_option maxRecDepth 20000 in
theorem ggL_law_X6_counterItem : GoodIn wsL_law wsX6_counterItem := goodIn_r _ [634, 64, 65, 177, 178, 5, 179, 180, 181, 182, 183, 184, 185, 186, 187, 662, 663, 664, 665, 666, 667, 668, 669, 670] (by decide +kernel) (by decide +kernel)
set_option maxRecDepth 20000 in
theorem gL_law_X6_counterItem : GoodIn wsL_law (wsV RL 181 RX6 yX6_counterItem wsX6_counterItem) := goodIn_app (goodIn_of _ (by decide +kernel)) ggL_law_X6_counterItem
set_option maxRecDepth 20000 in
theorem ggL_law_L_counterOf : GoodIn wsL_law wsL_counterOf := goodIn_ca (goodIn_r _ [637, 73, 638, 639, 640, 2, 641, 15, 619, 81, 82, 83, 84, 85, 642, 643, 644, 34, 645, 52, 155, 156, 157, 158, 153, 51, 661, 671, 672, 673, 674, 678, 679, 680, 681] (by decide +kernel) (by decide +kernel)) (goodIn_sub (fun _ h => List.mem_append_left _ (List.mem_append_left _ (List.mem_append_left _ (List.mem_append_right _ h)))) (by decide +kernel))
set_option maxRecDepth 20000 in
theorem gL_law_L_counterOf : GoodIn wsL_law (va_wsS RL 182 yL_counterOf wsL_counterOf) := goodIn_app (goodIn_of _ (by decide +kernel)) ggL_law_L_counterOf
set_option maxRecDepth 20000 in
theorem ggL_law_X6_counterOf : GoodIn wsL_law wsX6_counterOf := goodIn_r _ [649, 66, 342, 343, 344, 5, 345, 177, 178, 179, 180, 181, 182, 183, 184, 185, 186, 187, 216, 217, 218, 219, 64, 65, 662, 663, 664, 665, 666, 667, 668, 669, 670] (by decide +kernel) (by decide +kernel)
set_option maxRecDepth 20000 in
theorem gL_law_X6_counterOf : GoodIn wsL_law (wsV RL 184 RX6 yX6_counterOf wsX6_counterOf) := goodIn_app (goodIn_of _ (by decide +kernel)) ggL_law_X6_counterOf
set_option maxRecDepth 20000 in
theorem ggL_law_L_taken : GoodIn wsL_law wsL_taken := goodIn_ca (goodIn_r _ [652, 73, 653, 654, 655, 2, 656, 15, 619, 81, 82, 83, 84, 85, 661, 671, 672, 673, 674, 678, 679, 680, 681] (by decide +kernel) (by decide +kernel)) (goodIn_sub (fun _ h => List.mem_append_left _ (List.mem_append_left _ (List.mem_append_left _ (List.mem_append_right _ h)))) (by decide +kernel))
set_option maxRecDepth 20000 in
theorem gL_law_L_taken : GoodIn wsL_law (va_wsS RL 185 yL_taken wsL_taken) := goodIn_app (goodIn_of _ (by decide +kernel)) ggL_law_L_taken
set_option maxRecDepth 20000 in
theorem ggL_law_X6_taken : GoodIn wsL_law wsX6_taken := goodIn_r _ [660, 67, 177, 178, 5, 179, 180, 181, 182, 183, 184, 185, 186, 187, 662, 663, 664, 665, 666, 667, 668, 669, 670] (by decide +kernel) (by decide +kernel)
set_option maxRecDepth 20000 in
theorem gL_law_X6_taken : GoodIn wsL_law (wsV RL 187 RX6 yX6_taken wsX6_taken) := goodIn_app (goodIn_of _ (by decide +kernel)) ggL_law_X6_taken
