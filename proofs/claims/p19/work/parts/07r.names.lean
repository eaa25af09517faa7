theorem wsL_law_x0 : ∀ w ∈ (vx_atS RX5 66 "java/lang/IllegalArgumentException" ["java/lang/RuntimeException", "java/lang/Exception"]).filter goodWord, w ∈ lw_tbl := by decide +kernel
theorem wsL_law_x1 : ∀ w ∈ (vx_atS RX5 78 "java/lang/IllegalStateException" ["java/lang/RuntimeException", "java/lang/Exception"]).filter goodWord, w ∈ lw_tbl := by decide +kernel
theorem wsL_law_x2 : ∀ w ∈ (vx_atS RX5 91 "java/lang/IndexOutOfBoundsException" ["java/lang/RuntimeException", "java/lang/Exception"]).filter goodWord, w ∈ lw_tbl := by decide +kernel
theorem wsL_law_in : ∀ w ∈ wsL_law, w ∈ lw_tbl := fun w h => (List.mem_append.mp h).elim (fun h => (List.mem_append.mp h).elim (fun h => (List.mem_append.mp h).elim (fun h => wsL_law_in0 w h) (fun h => wsL_law_x0 w h)) (fun h => wsL_law_x1 w h)) (fun h => wsL_law_x2 w h)
theorem inlX0 : ∀ w ∈ wsX00, w ∈ wsL_law := fun _ h => List.mem_append_left _ (List.mem_append_left _ (List.mem_append_left _ (List.mem_append_left _ (List.mem_append_right _ h))))
theorem inX0 : ∀ w ∈ wsX00, w ∈ lw_tbl := fun w h => wsL_law_in w (inlX0 w h)
theorem inlX1 : ∀ w ∈ wsX10, w ∈ wsL_law := fun _ h => List.mem_append_left _ (List.mem_append_left _ (List.mem_append_left _ (List.mem_append_left _ (List.mem_append_left _ (List.mem_append_right _ h)))))
theorem inX1 : ∀ w ∈ wsX10, w ∈ lw_tbl := fun w h => wsL_law_in w (inlX1 w h)
theorem inlX2 : ∀ w ∈ wsX20, w ∈ wsL_law := fun _ h => List.mem_append_left _ (List.mem_append_left _ (List.mem_append_left _ (List.mem_append_left _ (List.mem_append_left _ (List.mem_append_left _ (List.mem_append_right _ h))))))
theorem inX2 : ∀ w ∈ wsX20, w ∈ lw_tbl := fun w h => wsL_law_in w (inlX2 w h)
theorem inlX3 : ∀ w ∈ wsX30, w ∈ wsL_law := fun _ h => List.mem_append_left _ (List.mem_append_left _ (List.mem_append_left _ (List.mem_append_left _ (List.mem_append_left _ (List.mem_append_left _ (List.mem_append_left _ (List.mem_append_right _ h)))))))
theorem inX3 : ∀ w ∈ wsX30, w ∈ lw_tbl := fun w h => wsL_law_in w (inlX3 w h)
theorem inlX4 : ∀ w ∈ wsX40, w ∈ wsL_law := fun _ h => List.mem_append_left _ (List.mem_append_left _ (List.mem_append_left _ (List.mem_append_left _ (List.mem_append_left _ (List.mem_append_left _ (List.mem_append_left _ (List.mem_append_left _ (List.mem_append_right _ h))))))))
theorem inX4 : ∀ w ∈ wsX40, w ∈ lw_tbl := fun w h => wsL_law_in w (inlX4 w h)
theorem inlX5 : ∀ w ∈ wsX50, w ∈ wsL_law := fun _ h => List.mem_append_left _ (List.mem_append_left _ (List.mem_append_left _ (List.mem_append_left _ (List.mem_append_left _ (List.mem_append_left _ (List.mem_append_left _ (List.mem_append_left _ (List.mem_append_left _ (List.mem_append_right _ h)))))))))
theorem inX5 : ∀ w ∈ wsX50, w ∈ lw_tbl := fun w h => wsL_law_in w (inlX5 w h)
theorem inX6 : ∀ w ∈ wsX60, w ∈ lw_tbl := by decide +kernel
theorem inJ6 : ∀ w ∈ wsJ60, w ∈ lw_tbl := by decide +kernel
theorem inJ0 : ∀ w ∈ wsJ00, w ∈ lw_tbl := by decide +kernel
set_option maxRecDepth 20000 in
theorem ggX0_init_X0_start : GoodIn wsX0_init wsX0_start := goodIn_r _ [11, 12, 13, 14, 15, 16, 17, 18, 19, 20, 21, 22, 23, 24, 25, 26] (by decide +kernel) (by decide +kernel)
set_option maxRecDepth 20000 in
theorem gX0_init_X0_start : GoodIn wsX0_init (wsV RX0 23 RX0 yX0_start wsX0_start) := goodIn_app (goodIn_of _ (by decide +kernel)) ggX0_init_X0_start
theorem dX0_init_0 : decode cX0_init 0 = .ok (.aload_n 0, 1) := by decide +kernel
theorem dX0_init_1 : decode cX0_init 1 = .ok (.invokespecial 3, 3) := by decide +kernel
theorem dX0_init_4 : decode cX0_init 4 = .ok (.aload_n 0, 1) := by decide +kernel
theorem dX0_init_5 : decode cX0_init 5 = .ok (.aload_n 1, 1) := by decide +kernel
theorem dX0_init_6 : decode cX0_init 6 = .ok (.putfield 9, 3) := by decide +kernel
theorem dX0_init_9 : decode cX0_init 9 = .ok (.aload_n 0, 1) := by decide +kernel
theorem dX0_init_10 : decode cX0_init 10 = .ok (.aload_n 2, 1) := by decide +kernel
theorem dX0_init_11 : decode cX0_init 11 = .ok (.putfield 15, 3) := by decide +kernel
theorem dX0_init_14 : decode cX0_init 14 = .ok (.aload_n 0, 1) := by decide +kernel
theorem dX0_init_15 : decode cX0_init 15 = .ok (.aload_n 3, 1) := by decide +kernel
theorem dX0_init_16 : decode cX0_init 16 = .ok (.putfield 19, 3) := by decide +kernel
theorem dX0_init_19 : decode cX0_init 19 = .ok (.aload_n 0, 1) := by decide +kernel
theorem dX0_init_20 : decode cX0_init 20 = .ok (.iconst 0, 1) := by decide +kernel
theorem dX0_init_21 : decode cX0_init 21 = .ok (.invokevirtual 23, 3) := by decide +kernel
theorem dX0_init_24 : decode cX0_init 24 = .ok (.return_, 1) := by decide +kernel
theorem dX0_start_0 : decode cX0_start 0 = .ok (.aload_n 0, 1) := by decide +kernel
theorem dX0_start_1 : decode cX0_start 1 = .ok (.iload_n 1, 1) := by decide +kernel
theorem dX0_start_2 : decode cX0_start 2 = .ok (.putfield 27, 3) := by decide +kernel
theorem dX0_start_5 : decode cX0_start 5 = .ok (.aload_n 0, 1) := by decide +kernel
theorem dX0_start_6 : decode cX0_start 6 = .ok (.iconst 0, 1) := by decide +kernel
theorem dX0_start_7 : decode cX0_start 7 = .ok (.putfield 31, 3) := by decide +kernel
theorem dX0_start_10 : decode cX0_start 10 = .ok (.aload_n 0, 1) := by decide +kernel
theorem dX0_start_11 : decode cX0_start 11 = .ok (.iconst 0, 1) := by decide +kernel
theorem dX0_start_12 : decode cX0_start 12 = .ok (.putfield 34, 3) := by decide +kernel
theorem dX0_start_15 : decode cX0_start 15 = .ok (.aload_n 0, 1) := by decide +kernel
theorem dX0_start_16 : decode cX0_start 16 = .ok (.iconst (-1), 1) := by decide +kernel
theorem dX0_start_17 : decode cX0_start 17 = .ok (.putfield 37, 3) := by decide +kernel
theorem dX0_start_20 : decode cX0_start 20 = .ok (.aload_n 0, 1) := by decide +kernel
theorem dX0_start_21 : decode cX0_start 21 = .ok (.iconst (-1), 1) := by decide +kernel
theorem dX0_start_22 : decode cX0_start 22 = .ok (.putfield 40, 3) := by decide +kernel
theorem dX0_start_25 : decode cX0_start 25 = .ok (.aload_n 0, 1) := by decide +kernel
theorem dX0_start_26 : decode cX0_start 26 = .ok (.iconst 0, 1) := by decide +kernel
theorem dX0_start_27 : decode cX0_start 27 = .ok (.putfield 43, 3) := by decide +kernel
theorem dX0_start_30 : decode cX0_start 30 = .ok (.return_, 1) := by decide +kernel
set_option maxRecDepth 20000 in
theorem ggX0_find_X4_reachable : GoodIn wsX0_find wsX4_reachable := goodIn_r _ [10, 11, 12, 13, 14, 15, 9, 16, 17, 18, 19, 20, 106, 107, 108, 109, 110, 111] (by decide +kernel) (by decide +kernel)
set_option maxRecDepth 20000 in
theorem gX0_find_X4_reachable : GoodIn wsX0_find (wsV RX0 46 RX4 yX4_reachable wsX4_reachable) := goodIn_app (goodIn_of _ (by decide +kernel)) ggX0_find_X4_reachable
set_option maxRecDepth 20000 in
theorem ggX0_find_X0_start : GoodIn wsX0_find wsX0_start := goodIn_r _ [25, 26, 3, 4, 5, 27, 28, 89, 90, 91, 92, 93, 94, 95, 96, 97] (by decide +kernel) (by decide +kernel)
set_option maxRecDepth 20000 in
theorem gX0_find_X0_start : GoodIn wsX0_find (wsV RX0 23 RX0 yX0_start wsX0_start) := goodIn_app (goodIn_of _ (by decide +kernel)) ggX0_find_X0_start
set_option maxRecDepth 20000 in
theorem ggX0_find_X4_suited : GoodIn wsX0_find wsX4_suited := goodIn_r _ [32, 33, 12, 34, 7, 8, 9, 10, 11, 13, 14, 15, 16, 17, 18, 19, 20, 35, 36, 37, 38, 106, 107, 108, 109, 110, 111] (by decide +kernel) (by decide +kernel)
set_option maxRecDepth 20000 in
theorem gX0_find_X4_suited : GoodIn wsX0_find (wsV RX0 57 RX4 yX4_suited wsX4_suited) := goodIn_app (goodIn_of _ (by decide +kernel)) ggX0_find_X4_suited
set_option maxRecDepth 20000 in
theorem ggX0_find_X2_roleOf : GoodIn wsX0_find wsX2_roleOf := goodIn_r _ [43, 44, 45, 46, 47, 42, 48, 49, 98, 99, 100, 101, 102, 103, 104, 105] (by decide +kernel) (by decide +kernel)
set_option maxRecDepth 20000 in
theorem gX0_find_X2_roleOf : GoodIn wsX0_find (wsV RX0 64 RX2 yX2_roleOf wsX2_roleOf) := goodIn_app (goodIn_of _ (by decide +kernel)) ggX0_find_X2_roleOf
set_option maxRecDepth 20000 in
theorem ggX0_find_X0_findPart : GoodIn wsX0_find wsX0_findPart := goodIn_r _ [53, 2, 3, 54, 26, 39, 40, 41, 42, 43, 44, 45, 46, 47, 48, 49, 55, 56, 57, 24, 58, 59, 60, 61, 62, 63, 27, 64, 65, 66, 67, 1, 68, 69, 70, 9, 71, 11, 72, 73, 74, 75, 76, 77, 78, 79, 80, 81, 82, 83, 84, 28, 89, 90, 91, 92, 93, 94, 95, 96, 97, 98, 99, 100, 101, 102, 103, 104, 105, 112, 113, 114, 115, 116, 106, 107, 108, 109, 110, 111] (by decide +kernel) (by decide +kernel)
set_option maxRecDepth 20000 in
theorem gX0_find_X0_findPart : GoodIn wsX0_find (wsV RX0 67 RX0 yX0_findPart wsX0_findPart) := goodIn_app (goodIn_of _ (by decide +kernel)) ggX0_find_X0_findPart
set_option maxRecDepth 20000 in
theorem ggX0_find_X0_findSingle : GoodIn wsX0_find wsX0_findSingle := goodIn_r _ [58, 2, 54, 26, 59, 46, 47, 42, 48, 49, 60, 61, 62, 24, 63, 3, 27, 64, 65, 66, 67, 1, 68, 69, 70, 9, 71, 11, 72, 73, 74, 75, 76, 77, 78, 79, 80, 81, 82, 83, 84, 28, 89, 90, 91, 92, 93, 94, 95, 96, 97, 98, 99, 100, 101, 102, 103, 104, 105, 112, 113, 114, 115, 116, 106, 107, 108, 109, 110, 111] (by decide +kernel) (by decide +kernel)
set_option maxRecDepth 20000 in
theorem gX0_find_X0_findSingle : GoodIn wsX0_find (wsV RX0 71 RX0 yX0_findSingle wsX0_findSingle) := goodIn_app (goodIn_of _ (by decide +kernel)) ggX0_find_X0_findSingle
set_option maxRecDepth 20000 in
theorem ggX0_find_X0_onlyOf : GoodIn wsX0_find wsX0_onlyOf := goodIn_r _ [88, 18, 19, 20] (by decide +kernel) (by decide +kernel)
set_option maxRecDepth 20000 in
theorem gX0_find_X0_onlyOf : GoodIn wsX0_find (wsV RX0 74 RX0 yX0_onlyOf wsX0_onlyOf) := goodIn_app (goodIn_of _ (by decide +kernel)) ggX0_find_X0_onlyOf
theorem dX0_find_0 : decode cX0_find 0 = .ok (.aload_n 0, 1) := by decide +kernel
theorem dX0_find_1 : decode cX0_find 1 = .ok (.aload_n 0, 1) := by decide +kernel
theorem dX0_find_2 : decode cX0_find 2 = .ok (.getfield 9, 3) := by decide +kernel
theorem dX0_find_5 : decode cX0_find 5 = .ok (.invokevirtual 46, 3) := by decide +kernel
theorem dX0_find_8 : decode cX0_find 8 = .ok (.invokevirtual 23, 3) := by decide +kernel
theorem dX0_find_11 : decode cX0_find 11 = .ok (.aload_n 0, 1) := by decide +kernel
theorem dX0_find_12 : decode cX0_find 12 = .ok (.getfield 9, 3) := by decide +kernel
theorem dX0_find_15 : decode cX0_find 15 = .ok (.aload_n 0, 1) := by decide +kernel
theorem dX0_find_16 : decode cX0_find 16 = .ok (.getfield 15, 3) := by decide +kernel
theorem dX0_find_19 : decode cX0_find 19 = .ok (.getfield 52, 3) := by decide +kernel
theorem dX0_find_22 : decode cX0_find 22 = .ok (.invokevirtual 57, 3) := by decide +kernel
theorem dX0_find_25 : decode cX0_find 25 = .ok (.istore_n 1, 1) := by decide +kernel
theorem dX0_find_26 : decode cX0_find 26 = .ok (.iconst 0, 1) := by decide +kernel
theorem dX0_find_27 : decode cX0_find 27 = .ok (.istore_n 2, 1) := by decide +kernel
theorem dX0_find_28 : decode cX0_find 28 = .ok (.iload_n 2, 1) := by decide +kernel
theorem dX0_find_29 : decode cX0_find 29 = .ok (.aload_n 0, 1) := by decide +kernel
theorem dX0_find_30 : decode cX0_find 30 = .ok (.getfield 15, 3) := by decide +kernel
theorem dX0_find_33 : decode cX0_find 33 = .ok (.getfield 61, 3) := by decide +kernel
theorem dX0_find_36 : decode cX0_find 36 = .ok (.if_icmp .ge 74, 3) := by decide +kernel
theorem dX0_find_39 : decode cX0_find 39 = .ok (.aload_n 0, 1) := by decide +kernel
theorem dX0_find_40 : decode cX0_find 40 = .ok (.getfield 31, 3) := by decide +kernel
theorem dX0_find_43 : decode cX0_find 43 = .ok (.ifCond .ne 67, 3) := by decide +kernel
theorem dX0_find_46 : decode cX0_find 46 = .ok (.aload_n 0, 1) := by decide +kernel
theorem dX0_find_47 : decode cX0_find 47 = .ok (.getfield 15, 3) := by decide +kernel
theorem dX0_find_50 : decode cX0_find 50 = .ok (.iload_n 2, 1) := by decide +kernel
theorem dX0_find_51 : decode cX0_find 51 = .ok (.invokevirtual 64, 3) := by decide +kernel
theorem dX0_find_54 : decode cX0_find 54 = .ok (.istore_n 3, 1) := by decide +kernel
theorem dX0_find_55 : decode cX0_find 55 = .ok (.iload_n 3, 1) := by decide +kernel
theorem dX0_find_56 : decode cX0_find 56 = .ok (.ifCond .ne 21, 3) := by decide +kernel
theorem dX0_find_59 : decode cX0_find 59 = .ok (.aload_n 0, 1) := by decide +kernel
theorem dX0_find_60 : decode cX0_find 60 = .ok (.dup, 1) := by decide +kernel
theorem dX0_find_61 : decode cX0_find 61 = .ok (.getfield 34, 3) := by decide +kernel
theorem dX0_find_64 : decode cX0_find 64 = .ok (.aload_n 0, 1) := by decide +kernel
theorem dX0_find_65 : decode cX0_find 65 = .ok (.iload_n 2, 1) := by decide +kernel
theorem dX0_find_66 : decode cX0_find 66 = .ok (.iload_n 1, 1) := by decide +kernel
theorem dX0_find_67 : decode cX0_find 67 = .ok (.invokevirtual 67, 3) := by decide +kernel
theorem dX0_find_70 : decode cX0_find 70 = .ok (.ior, 1) := by decide +kernel
theorem dX0_find_71 : decode cX0_find 71 = .ok (.putfield 34, 3) := by decide +kernel
theorem dX0_find_74 : decode cX0_find 74 = .ok (.goto 30, 3) := by decide +kernel
theorem dX0_find_77 : decode cX0_find 77 = .ok (.iload_n 3, 1) := by decide +kernel
theorem dX0_find_78 : decode cX0_find 78 = .ok (.iconst 2, 1) := by decide +kernel
theorem dX0_find_79 : decode cX0_find 79 = .ok (.if_icmp .ne 25, 3) := by decide +kernel
theorem dX0_find_82 : decode cX0_find 82 = .ok (.aload_n 0, 1) := by decide +kernel
theorem dX0_find_83 : decode cX0_find 83 = .ok (.aload_n 0, 1) := by decide +kernel
theorem dX0_find_84 : decode cX0_find 84 = .ok (.aload_n 0, 1) := by decide +kernel
theorem dX0_find_85 : decode cX0_find 85 = .ok (.iload_n 2, 1) := by decide +kernel
theorem dX0_find_86 : decode cX0_find 86 = .ok (.aload_n 0, 1) := by decide +kernel
theorem dX0_find_87 : decode cX0_find 87 = .ok (.getfield 9, 3) := by decide +kernel
theorem dX0_find_90 : decode cX0_find 90 = .ok (.bipush 16, 2) := by decide +kernel
theorem dX0_find_92 : decode cX0_find 92 = .ok (.invokevirtual 57, 3) := by decide +kernel
theorem dX0_find_95 : decode cX0_find 95 = .ok (.invokevirtual 71, 3) := by decide +kernel
theorem dX0_find_98 : decode cX0_find 98 = .ok (.invokevirtual 74, 3) := by decide +kernel
theorem dX0_find_101 : decode cX0_find 101 = .ok (.putfield 37, 3) := by decide +kernel
theorem dX0_find_104 : decode cX0_find 104 = .ok (.iinc 2 1, 3) := by decide +kernel
theorem dX0_find_107 : decode cX0_find 107 = .ok (.goto (-79), 3) := by decide +kernel
theorem dX0_find_110 : decode cX0_find 110 = .ok (.aload_n 0, 1) := by decide +kernel
theorem dX0_find_111 : decode cX0_find 111 = .ok (.getfield 31, 3) := by decide +kernel
theorem dX0_find_114 : decode cX0_find 114 = .ok (.ireturn, 1) := by decide +kernel
set_option maxRecDepth 20000 in
theorem ggX0_onlyOf_X5_contains : GoodIn wsX0_onlyOf wsX5_contains := goodIn_r _ [3] (by decide +kernel) (by decide +kernel)
set_option maxRecDepth 20000 in
theorem gX0_onlyOf_X5_contains_n77 : GoodIn wsX0_onlyOf (wsX5_contains) := ggX0_onlyOf_X5_contains
theorem dX0_onlyOf_0 : decode cX0_onlyOf 0 = .ok (.iconst 0, 1) := by decide +kernel
theorem dX0_onlyOf_1 : decode cX0_onlyOf 1 = .ok (.istore_n 2, 1) := by decide +kernel
theorem dX0_onlyOf_2 : decode cX0_onlyOf 2 = .ok (.iload_n 2, 1) := by decide +kernel
theorem dX0_onlyOf_3 : decode cX0_onlyOf 3 = .ok (.bipush 12, 2) := by decide +kernel
theorem dX0_onlyOf_5 : decode cX0_onlyOf 5 = .ok (.if_icmp .ge 19, 3) := by decide +kernel
theorem dX0_onlyOf_8 : decode cX0_onlyOf 8 = .ok (.iload_n 1, 1) := by decide +kernel
theorem dX0_onlyOf_9 : decode cX0_onlyOf 9 = .ok (.iload_n 2, 1) := by decide +kernel
theorem dX0_onlyOf_10 : decode cX0_onlyOf 10 = .ok (.invokestatic 77, 3) := by decide +kernel
theorem dX0_onlyOf_13 : decode cX0_onlyOf 13 = .ok (.ifCond .eq 5, 3) := by decide +kernel
theorem dX0_onlyOf_16 : decode cX0_onlyOf 16 = .ok (.iload_n 2, 1) := by decide +kernel
theorem dX0_onlyOf_17 : decode cX0_onlyOf 17 = .ok (.ireturn, 1) := by decide +kernel
theorem dX0_onlyOf_18 : decode cX0_onlyOf 18 = .ok (.iinc 2 1, 3) := by decide +kernel
theorem dX0_onlyOf_21 : decode cX0_onlyOf 21 = .ok (.goto (-19), 3) := by decide +kernel
theorem dX0_onlyOf_24 : decode cX0_onlyOf 24 = .ok (.iconst (-1), 1) := by decide +kernel
theorem dX0_onlyOf_25 : decode cX0_onlyOf 25 = .ok (.ireturn, 1) := by decide +kernel
set_option maxRecDepth 20000 in
theorem ggX0_findPart_X2_roleOf : GoodIn wsX0_findPart wsX2_roleOf := goodIn_r _ [9, 10, 11, 12, 13, 8, 14, 15, 61, 62, 63, 64, 65, 66, 67, 68] (by decide +kernel) (by decide +kernel)
set_option maxRecDepth 20000 in
theorem gX0_findPart_X2_roleOf : GoodIn wsX0_findPart (wsV RX0 64 RX2 yX2_roleOf wsX2_roleOf) := goodIn_app (goodIn_of _ (by decide +kernel)) ggX0_findPart_X2_roleOf
set_option maxRecDepth 20000 in
theorem ggX0_findPart_X0_findSingle : GoodIn wsX0_findPart wsX0_findSingle := goodIn_r _ [20, 1, 3, 4, 21, 12, 13, 8, 14, 15, 22, 23, 24, 19, 25, 2, 26, 27, 28, 29, 30, 31, 32, 33, 34, 35, 36, 37, 38, 39, 40, 41, 42, 43, 44, 45, 46, 47, 48, 49, 50, 51, 52, 53, 54, 55, 56, 57, 58, 59, 60, 61, 62, 63, 64, 65, 66, 67, 68, 69, 70, 71, 72, 73, 74, 75, 76, 77, 78, 79] (by decide +kernel) (by decide +kernel)
set_option maxRecDepth 20000 in
theorem gX0_findPart_X0_findSingle : GoodIn wsX0_findPart (wsV RX0 71 RX0 yX0_findSingle wsX0_findSingle) := goodIn_app (goodIn_of _ (by decide +kernel)) ggX0_findPart_X0_findSingle
set_option maxRecDepth 20000 in
theorem ggX0_findPart_X2_hasPhrase : GoodIn wsX0_findPart wsX2_hasPhrase := goodIn_r _ [14, 15, 61, 62, 63, 64, 65, 66, 67, 68] (by decide +kernel) (by decide +kernel)
set_option maxRecDepth 20000 in
theorem gX0_findPart_X2_hasPhrase : GoodIn wsX0_findPart (wsV RX0 81 RX2 yX2_hasPhrase wsX2_hasPhrase) := goodIn_app (goodIn_of _ (by decide +kernel)) ggX0_findPart_X2_hasPhrase
set_option maxRecDepth 20000 in
theorem ggX0_findPart_X0_orNothing : GoodIn wsX0_findPart wsX0_orNothing := goodIn_r _ [25, 2, 26, 52, 53, 54, 55, 56, 57, 58, 59, 60] (by decide +kernel) (by decide +kernel)
set_option maxRecDepth 20000 in
theorem gX0_findPart_X0_orNothing : GoodIn wsX0_findPart (wsV RX0 94 RX0 yX0_orNothing wsX0_orNothing) := goodIn_app (goodIn_of _ (by decide +kernel)) ggX0_findPart_X0_orNothing
set_option maxRecDepth 20000 in
theorem ggX0_findPart_X0_fitting : GoodIn wsX0_findPart wsX0_fitting := goodIn_r _ [30, 1, 31, 4, 21, 12, 13, 8, 14, 15, 32, 33, 34, 35, 36, 37, 38, 39, 52, 53, 54, 55, 56, 57, 58, 59, 60, 61, 62, 63, 64, 65, 66, 67, 68, 74, 75, 76, 77, 78, 79] (by decide +kernel) (by decide +kernel)
set_option maxRecDepth 20000 in
theorem gX0_findPart_X0_fitting : GoodIn wsX0_findPart (wsV RX0 97 RX0 yX0_fitting wsX0_fitting) := goodIn_app (goodIn_of _ (by decide +kernel)) ggX0_findPart_X0_fitting
theorem dX0_findPart_0 : decode cX0_findPart 0 = .ok (.iconst 0, 1) := by decide +kernel
theorem dX0_findPart_1 : decode cX0_findPart 1 = .ok (.istore_n 3, 1) := by decide +kernel
theorem dX0_findPart_2 : decode cX0_findPart 2 = .ok (.iload_n 1, 1) := by decide +kernel
theorem dX0_findPart_3 : decode cX0_findPart 3 = .ok (.iconst 1, 1) := by decide +kernel
theorem dX0_findPart_4 : decode cX0_findPart 4 = .ok (.iadd, 1) := by decide +kernel
theorem dX0_findPart_5 : decode cX0_findPart 5 = .ok (.istore 4, 2) := by decide +kernel
theorem dX0_findPart_7 : decode cX0_findPart 7 = .ok (.iload 4, 2) := by decide +kernel
theorem dX0_findPart_9 : decode cX0_findPart 9 = .ok (.aload_n 0, 1) := by decide +kernel
theorem dX0_findPart_10 : decode cX0_findPart 10 = .ok (.getfield 15, 3) := by decide +kernel
theorem dX0_findPart_13 : decode cX0_findPart 13 = .ok (.getfield 61, 3) := by decide +kernel
theorem dX0_findPart_16 : decode cX0_findPart 16 = .ok (.if_icmp .ge 42, 3) := by decide +kernel
theorem dX0_findPart_19 : decode cX0_findPart 19 = .ok (.aload_n 0, 1) := by decide +kernel
theorem dX0_findPart_20 : decode cX0_findPart 20 = .ok (.getfield 31, 3) := by decide +kernel
theorem dX0_findPart_23 : decode cX0_findPart 23 = .ok (.ifCond .ne 35, 3) := by decide +kernel
theorem dX0_findPart_26 : decode cX0_findPart 26 = .ok (.aload_n 0, 1) := by decide +kernel
theorem dX0_findPart_27 : decode cX0_findPart 27 = .ok (.getfield 15, 3) := by decide +kernel
theorem dX0_findPart_30 : decode cX0_findPart 30 = .ok (.iload 4, 2) := by decide +kernel
theorem dX0_findPart_32 : decode cX0_findPart 32 = .ok (.invokevirtual 64, 3) := by decide +kernel
theorem dX0_findPart_35 : decode cX0_findPart 35 = .ok (.iconst 1, 1) := by decide +kernel
theorem dX0_findPart_36 : decode cX0_findPart 36 = .ok (.if_icmp .eq 6, 3) := by decide +kernel
theorem dX0_findPart_39 : decode cX0_findPart 39 = .ok (.goto 19, 3) := by decide +kernel
theorem dX0_findPart_42 : decode cX0_findPart 42 = .ok (.iload_n 3, 1) := by decide +kernel
theorem dX0_findPart_43 : decode cX0_findPart 43 = .ok (.aload_n 0, 1) := by decide +kernel
theorem dX0_findPart_44 : decode cX0_findPart 44 = .ok (.iload 4, 2) := by decide +kernel
theorem dX0_findPart_46 : decode cX0_findPart 46 = .ok (.iload_n 2, 1) := by decide +kernel
theorem dX0_findPart_47 : decode cX0_findPart 47 = .ok (.invokevirtual 71, 3) := by decide +kernel
theorem dX0_findPart_50 : decode cX0_findPart 50 = .ok (.ior, 1) := by decide +kernel
theorem dX0_findPart_51 : decode cX0_findPart 51 = .ok (.istore_n 3, 1) := by decide +kernel
theorem dX0_findPart_52 : decode cX0_findPart 52 = .ok (.iinc 4 1, 3) := by decide +kernel
theorem dX0_findPart_55 : decode cX0_findPart 55 = .ok (.goto (-48), 3) := by decide +kernel
theorem dX0_findPart_58 : decode cX0_findPart 58 = .ok (.aload_n 0, 1) := by decide +kernel
theorem dX0_findPart_59 : decode cX0_findPart 59 = .ok (.getfield 31, 3) := by decide +kernel
theorem dX0_findPart_62 : decode cX0_findPart 62 = .ok (.ifCond .ne 14, 3) := by decide +kernel
theorem dX0_findPart_65 : decode cX0_findPart 65 = .ok (.aload_n 0, 1) := by decide +kernel
theorem dX0_findPart_66 : decode cX0_findPart 66 = .ok (.getfield 15, 3) := by decide +kernel
theorem dX0_findPart_69 : decode cX0_findPart 69 = .ok (.iload_n 1, 1) := by decide +kernel
theorem dX0_findPart_70 : decode cX0_findPart 70 = .ok (.invokevirtual 81, 3) := by decide +kernel
theorem dX0_findPart_73 : decode cX0_findPart 73 = .ok (.ifCond .ne 5, 3) := by decide +kernel
theorem dX0_findPart_76 : decode cX0_findPart 76 = .ok (.iconst 0, 1) := by decide +kernel
theorem dX0_findPart_77 : decode cX0_findPart 77 = .ok (.ireturn, 1) := by decide +kernel
theorem dX0_findPart_78 : decode cX0_findPart 78 = .ok (.aload_n 0, 1) := by decide +kernel
theorem dX0_findPart_79 : decode cX0_findPart 79 = .ok (.getfield 15, 3) := by decide +kernel
theorem dX0_findPart_82 : decode cX0_findPart 82 = .ok (.getfield 85, 3) := by decide +kernel
theorem dX0_findPart_85 : decode cX0_findPart 85 = .ok (.iload_n 1, 1) := by decide +kernel
theorem dX0_findPart_86 : decode cX0_findPart 86 = .ok (.iaload, 1) := by decide +kernel
theorem dX0_findPart_87 : decode cX0_findPart 87 = .ok (.lookupswitch 60 #[(11, 43), (15, 25)], 25) := by decide +kernel
theorem dX0_findPart_112 : decode cX0_findPart 112 = .ok (.aload_n 0, 1) := by decide +kernel
theorem dX0_findPart_113 : decode cX0_findPart 113 = .ok (.aload_n 0, 1) := by decide +kernel
theorem dX0_findPart_114 : decode cX0_findPart 114 = .ok (.getfield 19, 3) := by decide +kernel
theorem dX0_findPart_117 : decode cX0_findPart 117 = .ok (.getfield 89, 3) := by decide +kernel
theorem dX0_findPart_120 : decode cX0_findPart 120 = .ok (.aload_n 0, 1) := by decide +kernel
theorem dX0_findPart_121 : decode cX0_findPart 121 = .ok (.getfield 27, 3) := by decide +kernel
theorem dX0_findPart_124 : decode cX0_findPart 124 = .ok (.iand, 1) := by decide +kernel
theorem dX0_findPart_125 : decode cX0_findPart 125 = .ok (.iload_n 1, 1) := by decide +kernel
theorem dX0_findPart_126 : decode cX0_findPart 126 = .ok (.invokevirtual 94, 3) := by decide +kernel
theorem dX0_findPart_129 : decode cX0_findPart 129 = .ok (.ireturn, 1) := by decide +kernel
theorem dX0_findPart_130 : decode cX0_findPart 130 = .ok (.aload_n 0, 1) := by decide +kernel
theorem dX0_findPart_131 : decode cX0_findPart 131 = .ok (.aload_n 0, 1) := by decide +kernel
theorem dX0_findPart_132 : decode cX0_findPart 132 = .ok (.iload_n 1, 1) := by decide +kernel
theorem dX0_findPart_133 : decode cX0_findPart 133 = .ok (.invokevirtual 97, 3) := by decide +kernel
theorem dX0_findPart_136 : decode cX0_findPart 136 = .ok (.iload_n 2, 1) := by decide +kernel
theorem dX0_findPart_137 : decode cX0_findPart 137 = .ok (.iand, 1) := by decide +kernel
theorem dX0_findPart_138 : decode cX0_findPart 138 = .ok (.iload_n 3, 1) := by decide +kernel
theorem dX0_findPart_139 : decode cX0_findPart 139 = .ok (.iconst (-1), 1) := by decide +kernel
theorem dX0_findPart_140 : decode cX0_findPart 140 = .ok (.ixor, 1) := by decide +kernel
theorem dX0_findPart_141 : decode cX0_findPart 141 = .ok (.iand, 1) := by decide +kernel
theorem dX0_findPart_142 : decode cX0_findPart 142 = .ok (.iload_n 1, 1) := by decide +kernel
theorem dX0_findPart_143 : decode cX0_findPart 143 = .ok (.invokevirtual 94, 3) := by decide +kernel
theorem dX0_findPart_146 : decode cX0_findPart 146 = .ok (.ireturn, 1) := by decide +kernel
theorem dX0_findPart_147 : decode cX0_findPart 147 = .ok (.aload_n 0, 1) := by decide +kernel
theorem dX0_findPart_148 : decode cX0_findPart 148 = .ok (.iload_n 1, 1) := by decide +kernel
theorem dX0_findPart_149 : decode cX0_findPart 149 = .ok (.iload_n 2, 1) := by decide +kernel
theorem dX0_findPart_150 : decode cX0_findPart 150 = .ok (.invokevirtual 71, 3) := by decide +kernel
theorem dX0_findPart_153 : decode cX0_findPart 153 = .ok (.ireturn, 1) := by decide +kernel
set_option maxRecDepth 20000 in
theorem ggX0_findSingle_X2_hasPhrase : GoodIn wsX0_findSingle wsX2_hasPhrase := goodIn_r _ [8, 9, 51, 52, 53, 54, 55, 56, 57, 58] (by decide +kernel) (by decide +kernel)
set_option maxRecDepth 20000 in
theorem gX0_findSingle_X2_hasPhrase : GoodIn wsX0_findSingle (wsV RX0 81 RX2 yX2_hasPhrase wsX2_hasPhrase) := goodIn_app (goodIn_of _ (by decide +kernel)) ggX0_findSingle_X2_hasPhrase
set_option maxRecDepth 20000 in
theorem ggX0_findSingle_X0_orNothing : GoodIn wsX0_findSingle wsX0_orNothing := goodIn_r _ [14, 15, 16, 42, 43, 44, 45, 46, 47, 48, 49, 50] (by decide +kernel) (by decide +kernel)
set_option maxRecDepth 20000 in
theorem gX0_findSingle_X0_orNothing : GoodIn wsX0_findSingle (wsV RX0 94 RX0 yX0_orNothing wsX0_orNothing) := goodIn_app (goodIn_of _ (by decide +kernel)) ggX0_findSingle_X0_orNothing
set_option maxRecDepth 20000 in
theorem ggX0_findSingle_X0_fitting : GoodIn wsX0_findSingle wsX0_fitting := goodIn_r _ [20, 1, 21, 3, 4, 5, 6, 7, 8, 9, 22, 23, 24, 25, 26, 27, 28, 29, 42, 43, 44, 45, 46, 47, 48, 49, 50, 51, 52, 53, 54, 55, 56, 57, 58, 64, 65, 66, 67, 68, 69] (by decide +kernel) (by decide +kernel)
set_option maxRecDepth 20000 in
theorem gX0_findSingle_X0_fitting : GoodIn wsX0_findSingle (wsV RX0 97 RX0 yX0_fitting wsX0_fitting) := goodIn_app (goodIn_of _ (by decide +kernel)) ggX0_findSingle_X0_fitting
set_option maxRecDepth 20000 in
theorem ggX0_findSingle_J6_bitCount_0f7a4 : GoodIn wsX0_findSingle wsJ6_bitCount_0f7a4 := goodIn_r _ [33, 34, 35, 36] (by decide +kernel) (by decide +kernel)
set_option maxRecDepth 20000 in
theorem gX0_findSingle_J6_bitCount_0f7a4 : GoodIn wsX0_findSingle (va_wsS RX0 106 yJ6_bitCount_0f7a4 wsJ6_bitCount_0f7a4) := goodIn_app (goodIn_of _ (by decide +kernel)) ggX0_findSingle_J6_bitCount_0f7a4
set_option maxRecDepth 20000 in
theorem ggX0_findSingle_X0_ask : GoodIn wsX0_findSingle wsX0_ask := goodIn_r _ [40, 15, 16, 41, 42, 43, 44, 45, 46, 47, 48, 49, 50] (by decide +kernel) (by decide +kernel)
set_option maxRecDepth 20000 in
theorem gX0_findSingle_X0_ask : GoodIn wsX0_findSingle (wsV RX0 111 RX0 yX0_ask wsX0_ask) := goodIn_app (goodIn_of _ (by decide +kernel)) ggX0_findSingle_X0_ask
theorem dX0_findSingle_0 : decode cX0_findSingle 0 = .ok (.aload_n 0, 1) := by decide +kernel
theorem dX0_findSingle_1 : decode cX0_findSingle 1 = .ok (.getfield 15, 3) := by decide +kernel
theorem dX0_findSingle_4 : decode cX0_findSingle 4 = .ok (.iload_n 1, 1) := by decide +kernel
theorem dX0_findSingle_5 : decode cX0_findSingle 5 = .ok (.invokevirtual 81, 3) := by decide +kernel
theorem dX0_findSingle_8 : decode cX0_findSingle 8 = .ok (.ifCond .ne 5, 3) := by decide +kernel
theorem dX0_findSingle_11 : decode cX0_findSingle 11 = .ok (.iconst 0, 1) := by decide +kernel
theorem dX0_findSingle_12 : decode cX0_findSingle 12 = .ok (.ireturn, 1) := by decide +kernel
theorem dX0_findSingle_13 : decode cX0_findSingle 13 = .ok (.aload_n 0, 1) := by decide +kernel
theorem dX0_findSingle_14 : decode cX0_findSingle 14 = .ok (.getfield 15, 3) := by decide +kernel
theorem dX0_findSingle_17 : decode cX0_findSingle 17 = .ok (.getfield 100, 3) := by decide +kernel
theorem dX0_findSingle_20 : decode cX0_findSingle 20 = .ok (.iload_n 1, 1) := by decide +kernel
theorem dX0_findSingle_21 : decode cX0_findSingle 21 = .ok (.iaload, 1) := by decide +kernel
theorem dX0_findSingle_22 : decode cX0_findSingle 22 = .ok (.ifCond .eq 13, 3) := by decide +kernel
theorem dX0_findSingle_25 : decode cX0_findSingle 25 = .ok (.aload_n 0, 1) := by decide +kernel
theorem dX0_findSingle_26 : decode cX0_findSingle 26 = .ok (.getfield 15, 3) := by decide +kernel
theorem dX0_findSingle_29 : decode cX0_findSingle 29 = .ok (.getfield 100, 3) := by decide +kernel
theorem dX0_findSingle_32 : decode cX0_findSingle 32 = .ok (.iload_n 1, 1) := by decide +kernel
theorem dX0_findSingle_33 : decode cX0_findSingle 33 = .ok (.iaload, 1) := by decide +kernel
theorem dX0_findSingle_34 : decode cX0_findSingle 34 = .ok (.ireturn, 1) := by decide +kernel
theorem dX0_findSingle_35 : decode cX0_findSingle 35 = .ok (.aload_n 0, 1) := by decide +kernel
theorem dX0_findSingle_36 : decode cX0_findSingle 36 = .ok (.getfield 15, 3) := by decide +kernel
theorem dX0_findSingle_39 : decode cX0_findSingle 39 = .ok (.getfield 85, 3) := by decide +kernel
theorem dX0_findSingle_42 : decode cX0_findSingle 42 = .ok (.iload_n 1, 1) := by decide +kernel
theorem dX0_findSingle_43 : decode cX0_findSingle 43 = .ok (.iaload, 1) := by decide +kernel
theorem dX0_findSingle_44 : decode cX0_findSingle 44 = .ok (.bipush 14, 2) := by decide +kernel
theorem dX0_findSingle_46 : decode cX0_findSingle 46 = .ok (.if_icmp .ne 21, 3) := by decide +kernel
theorem dX0_findSingle_49 : decode cX0_findSingle 49 = .ok (.aload_n 0, 1) := by decide +kernel
theorem dX0_findSingle_50 : decode cX0_findSingle 50 = .ok (.aload_n 0, 1) := by decide +kernel
theorem dX0_findSingle_51 : decode cX0_findSingle 51 = .ok (.getfield 19, 3) := by decide +kernel
theorem dX0_findSingle_54 : decode cX0_findSingle 54 = .ok (.getfield 103, 3) := by decide +kernel
theorem dX0_findSingle_57 : decode cX0_findSingle 57 = .ok (.aload_n 0, 1) := by decide +kernel
theorem dX0_findSingle_58 : decode cX0_findSingle 58 = .ok (.getfield 27, 3) := by decide +kernel
theorem dX0_findSingle_61 : decode cX0_findSingle 61 = .ok (.iand, 1) := by decide +kernel
theorem dX0_findSingle_62 : decode cX0_findSingle 62 = .ok (.iload_n 1, 1) := by decide +kernel
theorem dX0_findSingle_63 : decode cX0_findSingle 63 = .ok (.invokevirtual 94, 3) := by decide +kernel
theorem dX0_findSingle_66 : decode cX0_findSingle 66 = .ok (.ireturn, 1) := by decide +kernel
theorem dX0_findSingle_67 : decode cX0_findSingle 67 = .ok (.aload_n 0, 1) := by decide +kernel
theorem dX0_findSingle_68 : decode cX0_findSingle 68 = .ok (.iload_n 1, 1) := by decide +kernel
theorem dX0_findSingle_69 : decode cX0_findSingle 69 = .ok (.invokevirtual 97, 3) := by decide +kernel
theorem dX0_findSingle_72 : decode cX0_findSingle 72 = .ok (.istore_n 3, 1) := by decide +kernel
theorem dX0_findSingle_73 : decode cX0_findSingle 73 = .ok (.iload_n 3, 1) := by decide +kernel
theorem dX0_findSingle_74 : decode cX0_findSingle 74 = .ok (.invokestatic 106, 3) := by decide +kernel
theorem dX0_findSingle_77 : decode cX0_findSingle 77 = .ok (.iconst 1, 1) := by decide +kernel
theorem dX0_findSingle_78 : decode cX0_findSingle 78 = .ok (.if_icmp .gt 10, 3) := by decide +kernel
theorem dX0_findSingle_81 : decode cX0_findSingle 81 = .ok (.aload_n 0, 1) := by decide +kernel
theorem dX0_findSingle_82 : decode cX0_findSingle 82 = .ok (.iload_n 3, 1) := by decide +kernel
theorem dX0_findSingle_83 : decode cX0_findSingle 83 = .ok (.iload_n 1, 1) := by decide +kernel
theorem dX0_findSingle_84 : decode cX0_findSingle 84 = .ok (.invokevirtual 94, 3) := by decide +kernel
theorem dX0_findSingle_87 : decode cX0_findSingle 87 = .ok (.ireturn, 1) := by decide +kernel
theorem dX0_findSingle_88 : decode cX0_findSingle 88 = .ok (.iload_n 3, 1) := by decide +kernel
theorem dX0_findSingle_89 : decode cX0_findSingle 89 = .ok (.iload_n 2, 1) := by decide +kernel
theorem dX0_findSingle_90 : decode cX0_findSingle 90 = .ok (.iand, 1) := by decide +kernel
theorem dX0_findSingle_91 : decode cX0_findSingle 91 = .ok (.istore 4, 2) := by decide +kernel
theorem dX0_findSingle_93 : decode cX0_findSingle 93 = .ok (.iload 4, 2) := by decide +kernel
theorem dX0_findSingle_95 : decode cX0_findSingle 95 = .ok (.invokestatic 106, 3) := by decide +kernel
theorem dX0_findSingle_98 : decode cX0_findSingle 98 = .ok (.iconst 1, 1) := by decide +kernel
theorem dX0_findSingle_99 : decode cX0_findSingle 99 = .ok (.if_icmp .ne 8, 3) := by decide +kernel
theorem dX0_findSingle_102 : decode cX0_findSingle 102 = .ok (.iload 4, 2) := by decide +kernel
theorem dX0_findSingle_104 : decode cX0_findSingle 104 = .ok (.goto 19, 3) := by decide +kernel
theorem dX0_findSingle_107 : decode cX0_findSingle 107 = .ok (.aload_n 0, 1) := by decide +kernel
theorem dX0_findSingle_108 : decode cX0_findSingle 108 = .ok (.iload 4, 2) := by decide +kernel
theorem dX0_findSingle_110 : decode cX0_findSingle 110 = .ok (.ifCond .ne 7, 3) := by decide +kernel
theorem dX0_findSingle_113 : decode cX0_findSingle 113 = .ok (.iload_n 3, 1) := by decide +kernel
theorem dX0_findSingle_114 : decode cX0_findSingle 114 = .ok (.goto 5, 3) := by decide +kernel
theorem dX0_findSingle_117 : decode cX0_findSingle 117 = .ok (.iload 4, 2) := by decide +kernel
theorem dX0_findSingle_119 : decode cX0_findSingle 119 = .ok (.iload_n 1, 1) := by decide +kernel
theorem dX0_findSingle_120 : decode cX0_findSingle 120 = .ok (.invokevirtual 111, 3) := by decide +kernel
theorem dX0_findSingle_123 : decode cX0_findSingle 123 = .ok (.ireturn, 1) := by decide +kernel
set_option maxRecDepth 20000 in
theorem ggX0_fitting_X2_hasPhrase : GoodIn wsX0_fitting wsX2_hasPhrase := goodIn_r _ [8, 9, 27, 28, 29, 30, 31, 32, 33, 34] (by decide +kernel) (by decide +kernel)
set_option maxRecDepth 20000 in
theorem gX0_fitting_X2_hasPhrase : GoodIn wsX0_fitting (wsV RX0 81 RX2 yX2_hasPhrase wsX2_hasPhrase) := goodIn_app (goodIn_of _ (by decide +kernel)) ggX0_fitting_X2_hasPhrase
set_option maxRecDepth 20000 in
theorem ggX0_fitting_X4_described : GoodIn wsX0_fitting wsX4_described := goodIn_r _ [14, 15, 16, 17, 35, 36, 37, 38, 39, 40] (by decide +kernel) (by decide +kernel)
set_option maxRecDepth 20000 in
theorem gX0_fitting_X4_described : GoodIn wsX0_fitting (wsV RX0 120 RX4 yX4_described wsX4_described) := goodIn_app (goodIn_of _ (by decide +kernel)) ggX0_fitting_X4_described
theorem dX0_fitting_0 : decode cX0_fitting 0 = .ok (.aload_n 0, 1) := by decide +kernel
theorem dX0_fitting_1 : decode cX0_fitting 1 = .ok (.getfield 15, 3) := by decide +kernel
theorem dX0_fitting_4 : decode cX0_fitting 4 = .ok (.iload_n 1, 1) := by decide +kernel
theorem dX0_fitting_5 : decode cX0_fitting 5 = .ok (.invokevirtual 81, 3) := by decide +kernel
theorem dX0_fitting_8 : decode cX0_fitting 8 = .ok (.ifCond .ne 5, 3) := by decide +kernel
theorem dX0_fitting_11 : decode cX0_fitting 11 = .ok (.iconst 0, 1) := by decide +kernel
theorem dX0_fitting_12 : decode cX0_fitting 12 = .ok (.ireturn, 1) := by decide +kernel
theorem dX0_fitting_13 : decode cX0_fitting 13 = .ok (.aload_n 0, 1) := by decide +kernel
theorem dX0_fitting_14 : decode cX0_fitting 14 = .ok (.getfield 9, 3) := by decide +kernel
theorem dX0_fitting_17 : decode cX0_fitting 17 = .ok (.aload_n 0, 1) := by decide +kernel
theorem dX0_fitting_18 : decode cX0_fitting 18 = .ok (.getfield 27, 3) := by decide +kernel
theorem dX0_fitting_21 : decode cX0_fitting 21 = .ok (.aload_n 0, 1) := by decide +kernel
theorem dX0_fitting_22 : decode cX0_fitting 22 = .ok (.getfield 15, 3) := by decide +kernel
theorem dX0_fitting_25 : decode cX0_fitting 25 = .ok (.getfield 114, 3) := by decide +kernel
theorem dX0_fitting_28 : decode cX0_fitting 28 = .ok (.iload_n 1, 1) := by decide +kernel
theorem dX0_fitting_29 : decode cX0_fitting 29 = .ok (.iaload, 1) := by decide +kernel
theorem dX0_fitting_30 : decode cX0_fitting 30 = .ok (.aload_n 0, 1) := by decide +kernel
theorem dX0_fitting_31 : decode cX0_fitting 31 = .ok (.getfield 15, 3) := by decide +kernel
theorem dX0_fitting_34 : decode cX0_fitting 34 = .ok (.getfield 117, 3) := by decide +kernel
theorem dX0_fitting_37 : decode cX0_fitting 37 = .ok (.iload_n 1, 1) := by decide +kernel
theorem dX0_fitting_38 : decode cX0_fitting 38 = .ok (.iaload, 1) := by decide +kernel
theorem dX0_fitting_39 : decode cX0_fitting 39 = .ok (.invokevirtual 120, 3) := by decide +kernel
theorem dX0_fitting_42 : decode cX0_fitting 42 = .ok (.ireturn, 1) := by decide +kernel
theorem dX0_orNothing_0 : decode cX0_orNothing 0 = .ok (.iload_n 1, 1) := by decide +kernel
theorem dX0_orNothing_1 : decode cX0_orNothing 1 = .ok (.ifCond .ne 13, 3) := by decide +kernel
theorem dX0_orNothing_4 : decode cX0_orNothing 4 = .ok (.aload_n 0, 1) := by decide +kernel
theorem dX0_orNothing_5 : decode cX0_orNothing 5 = .ok (.iconst 5, 1) := by decide +kernel
theorem dX0_orNothing_6 : decode cX0_orNothing 6 = .ok (.putfield 31, 3) := by decide +kernel
theorem dX0_orNothing_9 : decode cX0_orNothing 9 = .ok (.aload_n 0, 1) := by decide +kernel
theorem dX0_orNothing_10 : decode cX0_orNothing 10 = .ok (.iload_n 2, 1) := by decide +kernel
theorem dX0_orNothing_11 : decode cX0_orNothing 11 = .ok (.putfield 40, 3) := by decide +kernel
theorem dX0_orNothing_14 : decode cX0_orNothing 14 = .ok (.iload_n 1, 1) := by decide +kernel
theorem dX0_orNothing_15 : decode cX0_orNothing 15 = .ok (.ireturn, 1) := by decide +kernel
theorem dX0_ask_0 : decode cX0_ask 0 = .ok (.aload_n 0, 1) := by decide +kernel
theorem dX0_ask_1 : decode cX0_ask 1 = .ok (.iconst 1, 1) := by decide +kernel
theorem dX0_ask_2 : decode cX0_ask 2 = .ok (.putfield 31, 3) := by decide +kernel
theorem dX0_ask_5 : decode cX0_ask 5 = .ok (.aload_n 0, 1) := by decide +kernel
theorem dX0_ask_6 : decode cX0_ask 6 = .ok (.iload_n 2, 1) := by decide +kernel
theorem dX0_ask_7 : decode cX0_ask 7 = .ok (.putfield 40, 3) := by decide +kernel
theorem dX0_ask_10 : decode cX0_ask 10 = .ok (.aload_n 0, 1) := by decide +kernel
theorem dX0_ask_11 : decode cX0_ask 11 = .ok (.iload_n 1, 1) := by decide +kernel
theorem dX0_ask_12 : decode cX0_ask 12 = .ok (.putfield 43, 3) := by decide +kernel
theorem dX0_ask_15 : decode cX0_ask 15 = .ok (.iconst 0, 1) := by decide +kernel
theorem dX0_ask_16 : decode cX0_ask 16 = .ok (.ireturn, 1) := by decide +kernel
theorem dX1_init_0 : decode cX1_init 0 = .ok (.aload_n 0, 1) := by decide +kernel
theorem dX1_init_1 : decode cX1_init 1 = .ok (.invokespecial 3, 3) := by decide +kernel
theorem dX1_init_4 : decode cX1_init 4 = .ok (.aload_n 0, 1) := by decide +kernel
theorem dX1_init_5 : decode cX1_init 5 = .ok (.iconst (-1), 1) := by decide +kernel
theorem dX1_init_6 : decode cX1_init 6 = .ok (.putfield 9, 3) := by decide +kernel
theorem dX1_init_9 : decode cX1_init 9 = .ok (.aload_n 0, 1) := by decide +kernel
theorem dX1_init_10 : decode cX1_init 10 = .ok (.iconst 0, 1) := by decide +kernel
theorem dX1_init_11 : decode cX1_init 11 = .ok (.putfield 15, 3) := by decide +kernel
theorem dX1_init_14 : decode cX1_init 14 = .ok (.aload_n 0, 1) := by decide +kernel
theorem dX1_init_15 : decode cX1_init 15 = .ok (.iconst 0, 1) := by decide +kernel
theorem dX1_init_16 : decode cX1_init 16 = .ok (.putfield 18, 3) := by decide +kernel
theorem dX1_init_19 : decode cX1_init 19 = .ok (.aload_n 0, 1) := by decide +kernel
theorem dX1_init_20 : decode cX1_init 20 = .ok (.iconst (-1), 1) := by decide +kernel
theorem dX1_init_21 : decode cX1_init 21 = .ok (.putfield 21, 3) := by decide +kernel
theorem dX1_init_24 : decode cX1_init 24 = .ok (.aload_n 0, 1) := by decide +kernel
theorem dX1_init_25 : decode cX1_init 25 = .ok (.iconst 0, 1) := by decide +kernel
theorem dX1_init_26 : decode cX1_init 26 = .ok (.putfield 24, 3) := by decide +kernel
theorem dX1_init_29 : decode cX1_init 29 = .ok (.return_, 1) := by decide +kernel
set_option maxRecDepth 20000 in
theorem ggX1_keep_J6_bitCount_0f7a4 : GoodIn wsX1_keep wsJ6_bitCount_0f7a4 := goodIn_r _ [9, 10, 11, 12] (by decide +kernel) (by decide +kernel)
set_option maxRecDepth 20000 in
theorem gX1_keep_J6_bitCount_0f7a4 : GoodIn wsX1_keep (va_wsS RX1 27 yJ6_bitCount_0f7a4 wsJ6_bitCount_0f7a4) := goodIn_app (goodIn_of _ (by decide +kernel)) ggX1_keep_J6_bitCount_0f7a4
theorem dX1_keep_0 : decode cX1_keep 0 = .ok (.aload_n 0, 1) := by decide +kernel
theorem dX1_keep_1 : decode cX1_keep 1 = .ok (.iload_n 1, 1) := by decide +kernel
theorem dX1_keep_2 : decode cX1_keep 2 = .ok (.putfield 9, 3) := by decide +kernel
theorem dX1_keep_5 : decode cX1_keep 5 = .ok (.aload_n 0, 1) := by decide +kernel
theorem dX1_keep_6 : decode cX1_keep 6 = .ok (.iload_n 2, 1) := by decide +kernel
theorem dX1_keep_7 : decode cX1_keep 7 = .ok (.putfield 15, 3) := by decide +kernel
theorem dX1_keep_10 : decode cX1_keep 10 = .ok (.aload_n 0, 1) := by decide +kernel
theorem dX1_keep_11 : decode cX1_keep 11 = .ok (.iload_n 3, 1) := by decide +kernel
theorem dX1_keep_12 : decode cX1_keep 12 = .ok (.putfield 18, 3) := by decide +kernel
theorem dX1_keep_15 : decode cX1_keep 15 = .ok (.aload_n 0, 1) := by decide +kernel
theorem dX1_keep_16 : decode cX1_keep 16 = .ok (.iload 4, 2) := by decide +kernel
theorem dX1_keep_18 : decode cX1_keep 18 = .ok (.putfield 21, 3) := by decide +kernel
theorem dX1_keep_21 : decode cX1_keep 21 = .ok (.iload_n 2, 1) := by decide +kernel
theorem dX1_keep_22 : decode cX1_keep 22 = .ok (.invokestatic 27, 3) := by decide +kernel
theorem dX1_keep_25 : decode cX1_keep 25 = .ok (.iconst 1, 1) := by decide +kernel
theorem dX1_keep_26 : decode cX1_keep 26 = .ok (.if_icmp .ne 8, 3) := by decide +kernel
theorem dX1_keep_29 : decode cX1_keep 29 = .ok (.aload_n 0, 1) := by decide +kernel
theorem dX1_keep_30 : decode cX1_keep 30 = .ok (.iload_n 2, 1) := by decide +kernel
theorem dX1_keep_31 : decode cX1_keep 31 = .ok (.putfield 24, 3) := by decide +kernel
theorem dX1_keep_34 : decode cX1_keep 34 = .ok (.return_, 1) := by decide +kernel
theorem dX2_init_0 : decode cX2_init 0 = .ok (.aload_n 0, 1) := by decide +kernel
theorem dX2_init_1 : decode cX2_init 1 = .ok (.invokespecial 3, 3) := by decide +kernel
theorem dX2_init_4 : decode cX2_init 4 = .ok (.aload_n 0, 1) := by decide +kernel
theorem dX2_init_5 : decode cX2_init 5 = .ok (.iconst (-1), 1) := by decide +kernel
theorem dX2_init_6 : decode cX2_init 6 = .ok (.putfield 9, 3) := by decide +kernel
theorem dX2_init_9 : decode cX2_init 9 = .ok (.aload_n 0, 1) := by decide +kernel
theorem dX2_init_10 : decode cX2_init 10 = .ok (.iconst 0, 1) := by decide +kernel
theorem dX2_init_11 : decode cX2_init 11 = .ok (.putfield 15, 3) := by decide +kernel
theorem dX2_init_14 : decode cX2_init 14 = .ok (.aload_n 0, 1) := by decide +kernel
theorem dX2_init_15 : decode cX2_init 15 = .ok (.bipush 24, 2) := by decide +kernel
theorem dX2_init_17 : decode cX2_init 17 = .ok (.newarray .int, 2) := by decide +kernel
theorem dX2_init_19 : decode cX2_init 19 = .ok (.putfield 18, 3) := by decide +kernel
theorem dX2_init_22 : decode cX2_init 22 = .ok (.aload_n 0, 1) := by decide +kernel
theorem dX2_init_23 : decode cX2_init 23 = .ok (.bipush 24, 2) := by decide +kernel
theorem dX2_init_25 : decode cX2_init 25 = .ok (.newarray .int, 2) := by decide +kernel
theorem dX2_init_27 : decode cX2_init 27 = .ok (.putfield 22, 3) := by decide +kernel
theorem dX2_init_30 : decode cX2_init 30 = .ok (.aload_n 0, 1) := by decide +kernel
theorem dX2_init_31 : decode cX2_init 31 = .ok (.bipush 24, 2) := by decide +kernel
theorem dX2_init_33 : decode cX2_init 33 = .ok (.newarray .int, 2) := by decide +kernel
theorem dX2_init_35 : decode cX2_init 35 = .ok (.putfield 25, 3) := by decide +kernel
theorem dX2_init_38 : decode cX2_init 38 = .ok (.aload_n 0, 1) := by decide +kernel
theorem dX2_init_39 : decode cX2_init 39 = .ok (.bipush 24, 2) := by decide +kernel
theorem dX2_init_41 : decode cX2_init 41 = .ok (.newarray .int, 2) := by decide +kernel
theorem dX2_init_43 : decode cX2_init 43 = .ok (.putfield 28, 3) := by decide +kernel
theorem dX2_init_46 : decode cX2_init 46 = .ok (.aload_n 0, 1) := by decide +kernel
theorem dX2_init_47 : decode cX2_init 47 = .ok (.bipush 24, 2) := by decide +kernel
theorem dX2_init_49 : decode cX2_init 49 = .ok (.newarray .int, 2) := by decide +kernel
theorem dX2_init_51 : decode cX2_init 51 = .ok (.putfield 31, 3) := by decide +kernel
theorem dX2_init_54 : decode cX2_init 54 = .ok (.aload_n 0, 1) := by decide +kernel
theorem dX2_init_55 : decode cX2_init 55 = .ok (.bipush 24, 2) := by decide +kernel
theorem dX2_init_57 : decode cX2_init 57 = .ok (.newarray .int, 2) := by decide +kernel
theorem dX2_init_59 : decode cX2_init 59 = .ok (.putfield 34, 3) := by decide +kernel
theorem dX2_init_62 : decode cX2_init 62 = .ok (.return_, 1) := by decide +kernel
set_option maxRecDepth 20000 in
theorem ggX2_read_X3_peek : GoodIn wsX2_read wsX3_peek := goodIn_r _ [7, 8, 9, 10, 76, 77, 78, 79, 80] (by decide +kernel) (by decide +kernel)
set_option maxRecDepth 20000 in
theorem gX2_read_X3_peek : GoodIn wsX2_read (wsV RX2 37 RX3 yX3_peek wsX3_peek) := goodIn_app (goodIn_of _ (by decide +kernel)) ggX2_read_X3_peek
set_option maxRecDepth 20000 in
theorem ggX2_read_X3_accept : GoodIn wsX2_read wsX3_accept := goodIn_r _ [14, 8, 15, 4, 5, 6, 7, 9, 10, 76, 77, 78, 79, 80] (by decide +kernel) (by decide +kernel)
set_option maxRecDepth 20000 in
theorem gX2_read_X3_accept : GoodIn wsX2_read (wsV RX2 43 RX3 yX3_accept wsX3_accept) := goodIn_app (goodIn_of _ (by decide +kernel)) ggX2_read_X3_accept
set_option maxRecDepth 20000 in
theorem ggX2_read_X2_readPart : GoodIn wsX2_read wsX2_readPart := goodIn_r _ [20, 11, 12, 13, 6, 14, 8, 15, 4, 5, 7, 9, 10, 21, 22, 23, 19, 24, 1, 25, 26, 27, 28, 29, 30, 3, 31, 32, 33, 34, 35, 36, 37, 38, 39, 40, 41, 42, 43, 44, 45, 46, 47, 48, 49, 50, 51, 52, 53, 54, 55, 56, 57, 58, 59, 60, 61, 62, 63, 76, 77, 78, 79, 80, 68, 69, 70, 71, 72, 73, 74, 75] (by decide +kernel) (by decide +kernel)
set_option maxRecDepth 20000 in
theorem gX2_read_X2_readPart : GoodIn wsX2_read (wsV RX2 47 RX2 yX2_readPart wsX2_readPart) := goodIn_app (goodIn_of _ (by decide +kernel)) ggX2_read_X2_readPart
set_option maxRecDepth 20000 in
theorem ggX2_read_X2_readSingle : GoodIn wsX2_read wsX2_readSingle := goodIn_r _ [46, 11, 12, 13, 6, 14, 8, 15, 4, 5, 7, 9, 10, 21, 22, 23, 19, 24, 1, 25, 26, 27, 28, 29, 30, 47, 48, 49, 50, 51, 52, 53, 54, 55, 56, 57, 58, 59, 60, 61, 62, 63, 76, 77, 78, 79, 80, 68, 69, 70, 71, 72, 73, 74, 75] (by decide +kernel) (by decide +kernel)
set_option maxRecDepth 20000 in
theorem gX2_read_X2_readSingle : GoodIn wsX2_read (wsV RX2 51 RX2 yX2_readSingle wsX2_readSingle) := goodIn_app (goodIn_of _ (by decide +kernel)) ggX2_read_X2_readSingle
set_option maxRecDepth 20000 in
theorem ggX2_read_X3_atEnd : GoodIn wsX2_read wsX3_atEnd := goodIn_r _ [67, 8, 9, 76, 77, 78, 79, 80] (by decide +kernel) (by decide +kernel)
set_option maxRecDepth 20000 in
theorem gX2_read_X3_atEnd : GoodIn wsX2_read (wsV RX2 55 RX3 yX3_atEnd wsX3_atEnd) := goodIn_app (goodIn_of _ (by decide +kernel)) ggX2_read_X3_atEnd
theorem dX2_read_0 : decode cX2_read 0 = .ok (.aload_n 0, 1) := by decide +kernel
theorem dX2_read_1 : decode cX2_read 1 = .ok (.iconst 0, 1) := by decide +kernel
theorem dX2_read_2 : decode cX2_read 2 = .ok (.putfield 15, 3) := by decide +kernel
theorem dX2_read_5 : decode cX2_read 5 = .ok (.aload_n 0, 1) := by decide +kernel
theorem dX2_read_6 : decode cX2_read 6 = .ok (.aload_n 1, 1) := by decide +kernel
theorem dX2_read_7 : decode cX2_read 7 = .ok (.invokevirtual 37, 3) := by decide +kernel
theorem dX2_read_10 : decode cX2_read 10 = .ok (.putfield 9, 3) := by decide +kernel
theorem dX2_read_13 : decode cX2_read 13 = .ok (.aload_n 1, 1) := by decide +kernel
theorem dX2_read_14 : decode cX2_read 14 = .ok (.aload_n 0, 1) := by decide +kernel
theorem dX2_read_15 : decode cX2_read 15 = .ok (.getfield 9, 3) := by decide +kernel
theorem dX2_read_18 : decode cX2_read 18 = .ok (.invokevirtual 43, 3) := by decide +kernel
theorem dX2_read_21 : decode cX2_read 21 = .ok (.pop, 1) := by decide +kernel
theorem dX2_read_22 : decode cX2_read 22 = .ok (.iconst 1, 1) := by decide +kernel
theorem dX2_read_23 : decode cX2_read 23 = .ok (.istore_n 2, 1) := by decide +kernel
theorem dX2_read_24 : decode cX2_read 24 = .ok (.iconst 0, 1) := by decide +kernel
theorem dX2_read_25 : decode cX2_read 25 = .ok (.istore_n 3, 1) := by decide +kernel
theorem dX2_read_26 : decode cX2_read 26 = .ok (.iload_n 3, 1) := by decide +kernel
theorem dX2_read_27 : decode cX2_read 27 = .ok (.bipush 24, 2) := by decide +kernel
theorem dX2_read_29 : decode cX2_read 29 = .ok (.if_icmp .ge 30, 3) := by decide +kernel
theorem dX2_read_32 : decode cX2_read 32 = .ok (.iload_n 2, 1) := by decide +kernel
theorem dX2_read_33 : decode cX2_read 33 = .ok (.ifCond .eq 26, 3) := by decide +kernel
theorem dX2_read_36 : decode cX2_read 36 = .ok (.aload_n 0, 1) := by decide +kernel
theorem dX2_read_37 : decode cX2_read 37 = .ok (.aload_n 1, 1) := by decide +kernel
theorem dX2_read_38 : decode cX2_read 38 = .ok (.invokevirtual 47, 3) := by decide +kernel
theorem dX2_read_41 : decode cX2_read 41 = .ok (.ifCond .ne 5, 3) := by decide +kernel
theorem dX2_read_44 : decode cX2_read 44 = .ok (.iconst 0, 1) := by decide +kernel
theorem dX2_read_45 : decode cX2_read 45 = .ok (.ireturn, 1) := by decide +kernel
theorem dX2_read_46 : decode cX2_read 46 = .ok (.aload_n 1, 1) := by decide +kernel
theorem dX2_read_47 : decode cX2_read 47 = .ok (.bipush 13, 2) := by decide +kernel
theorem dX2_read_49 : decode cX2_read 49 = .ok (.invokevirtual 43, 3) := by decide +kernel
theorem dX2_read_52 : decode cX2_read 52 = .ok (.istore_n 2, 1) := by decide +kernel
theorem dX2_read_53 : decode cX2_read 53 = .ok (.iinc 3 1, 3) := by decide +kernel
theorem dX2_read_56 : decode cX2_read 56 = .ok (.goto (-30), 3) := by decide +kernel
theorem dX2_read_59 : decode cX2_read 59 = .ok (.aload_n 0, 1) := by decide +kernel
theorem dX2_read_60 : decode cX2_read 60 = .ok (.getfield 9, 3) := by decide +kernel
theorem dX2_read_63 : decode cX2_read 63 = .ok (.iconst 2, 1) := by decide +kernel
theorem dX2_read_64 : decode cX2_read 64 = .ok (.if_icmp .ne 23, 3) := by decide +kernel
theorem dX2_read_67 : decode cX2_read 67 = .ok (.aload_n 1, 1) := by decide +kernel
theorem dX2_read_68 : decode cX2_read 68 = .ok (.bipush 16, 2) := by decide +kernel
theorem dX2_read_70 : decode cX2_read 70 = .ok (.invokevirtual 43, 3) := by decide +kernel
theorem dX2_read_73 : decode cX2_read 73 = .ok (.ifCond .eq 12, 3) := by decide +kernel
theorem dX2_read_76 : decode cX2_read 76 = .ok (.aload_n 0, 1) := by decide +kernel
theorem dX2_read_77 : decode cX2_read 77 = .ok (.aload_n 1, 1) := by decide +kernel
theorem dX2_read_78 : decode cX2_read 78 = .ok (.iconst 2, 1) := by decide +kernel
theorem dX2_read_79 : decode cX2_read 79 = .ok (.invokevirtual 51, 3) := by decide +kernel
theorem dX2_read_82 : decode cX2_read 82 = .ok (.ifCond .ne 5, 3) := by decide +kernel
theorem dX2_read_85 : decode cX2_read 85 = .ok (.iconst 0, 1) := by decide +kernel
theorem dX2_read_86 : decode cX2_read 86 = .ok (.ireturn, 1) := by decide +kernel
theorem dX2_read_87 : decode cX2_read 87 = .ok (.aload_n 1, 1) := by decide +kernel
theorem dX2_read_88 : decode cX2_read 88 = .ok (.invokevirtual 55, 3) := by decide +kernel
theorem dX2_read_91 : decode cX2_read 91 = .ok (.ireturn, 1) := by decide +kernel
set_option maxRecDepth 20000 in
theorem ggX2_readPart_X3_accept : GoodIn wsX2_readPart wsX3_accept := goodIn_r _ [5, 6, 7, 8, 9, 4, 10, 11, 12, 59, 60, 61, 62, 63] (by decide +kernel) (by decide +kernel)
set_option maxRecDepth 20000 in
theorem gX2_readPart_X3_accept : GoodIn wsX2_readPart (wsV RX2 43 RX3 yX3_accept wsX3_accept) := goodIn_app (goodIn_of _ (by decide +kernel)) ggX2_readPart_X3_accept
set_option maxRecDepth 20000 in
theorem ggX2_readPart_X2_add : GoodIn wsX2_readPart wsX2_add := goodIn_r _ [17, 18, 19, 20, 21, 22, 23, 24, 64, 65, 66, 67, 68, 69, 70, 71, 59, 60, 61, 62, 63] (by decide +kernel) (by decide +kernel)
set_option maxRecDepth 20000 in
theorem gX2_readPart_X2_add : GoodIn wsX2_readPart (wsV RX2 59 RX2 yX2_add wsX2_add) := goodIn_app (goodIn_of _ (by decide +kernel)) ggX2_readPart_X2_add
set_option maxRecDepth 20000 in
theorem ggX2_readPart_X3_peek : GoodIn wsX2_readPart wsX3_peek := goodIn_r _ [10, 6, 11, 12, 59, 60, 61, 62, 63] (by decide +kernel) (by decide +kernel)
set_option maxRecDepth 20000 in
theorem gX2_readPart_X3_peek : GoodIn wsX2_readPart (wsV RX2 37 RX3 yX3_peek wsX3_peek) := goodIn_app (goodIn_of _ (by decide +kernel)) ggX2_readPart_X3_peek
set_option maxRecDepth 20000 in
theorem ggX2_readPart_X2_nextSingleRole : GoodIn wsX2_readPart wsX2_nextSingleRole := goodIn_r _ [29, 18, 30, 31, 32, 16, 33, 19, 34, 35, 36, 37, 64, 65, 66, 67, 68, 69, 70, 71] (by decide +kernel) (by decide +kernel)
set_option maxRecDepth 20000 in
theorem gX2_readPart_X2_nextSingleRole : GoodIn wsX2_readPart (wsV RX2 63 RX2 yX2_nextSingleRole wsX2_nextSingleRole) := goodIn_app (goodIn_of _ (by decide +kernel)) ggX2_readPart_X2_nextSingleRole
set_option maxRecDepth 20000 in
theorem ggX2_readPart_X2_readSingle : GoodIn wsX2_readPart wsX2_readSingle := goodIn_r _ [41, 1, 2, 3, 4, 5, 6, 7, 8, 9, 10, 11, 12, 13, 14, 15, 16, 17, 18, 19, 20, 21, 22, 23, 24, 42, 43, 44, 45, 46, 47, 48, 49, 50, 51, 52, 53, 54, 55, 56, 57, 58, 59, 60, 61, 62, 63, 64, 65, 66, 67, 68, 69, 70, 71] (by decide +kernel) (by decide +kernel)
set_option maxRecDepth 20000 in
theorem gX2_readPart_X2_readSingle : GoodIn wsX2_readPart (wsV RX2 51 RX2 yX2_readSingle wsX2_readSingle) := goodIn_app (goodIn_of _ (by decide +kernel)) ggX2_readPart_X2_readSingle
set_option maxRecDepth 20000 in
theorem ggX2_readPart_X3_readAdjectives : GoodIn wsX2_readPart wsX3_readAdjectives := goodIn_r _ [45, 46, 47, 6, 7, 8, 9, 4, 10, 11, 12, 48, 49, 50, 59, 60, 61, 62, 63] (by decide +kernel) (by decide +kernel)
set_option maxRecDepth 20000 in
theorem gX2_readPart_X3_readAdjectives : GoodIn wsX2_readPart (wsV RX2 66 RX3 yX3_readAdjectives wsX3_readAdjectives) := goodIn_app (goodIn_of _ (by decide +kernel)) ggX2_readPart_X3_readAdjectives
set_option maxRecDepth 20000 in
theorem ggX2_readPart_X3_acceptNoun : GoodIn wsX2_readPart wsX3_acceptNoun := goodIn_r _ [58, 47, 6, 7, 8, 9, 4, 10, 11, 12, 48, 49, 50, 59, 60, 61, 62, 63] (by decide +kernel) (by decide +kernel)
set_option maxRecDepth 20000 in
theorem gX2_readPart_X3_acceptNoun : GoodIn wsX2_readPart (wsV RX2 72 RX3 yX3_acceptNoun wsX3_acceptNoun) := goodIn_app (goodIn_of _ (by decide +kernel)) ggX2_readPart_X3_acceptNoun
set_option maxRecDepth 20000 in
theorem ggX2_readPart_X2_readHead : GoodIn wsX2_readPart wsX2_readHead := goodIn_r _ [54, 55, 56, 57, 4, 58, 47, 6, 7, 8, 9, 10, 11, 12, 48, 49, 50, 1, 2, 3, 5, 13, 14, 15, 16, 17, 18, 19, 20, 21, 22, 23, 24, 59, 60, 61, 62, 63, 64, 65, 66, 67, 68, 69, 70, 71] (by decide +kernel) (by decide +kernel)
set_option maxRecDepth 20000 in
theorem gX2_readPart_X2_readHead : GoodIn wsX2_readPart (wsV RX2 75 RX2 yX2_readHead wsX2_readHead) := goodIn_app (goodIn_of _ (by decide +kernel)) ggX2_readPart_X2_readHead
theorem dX2_readPart_0 : decode cX2_readPart 0 = .ok (.aload_n 1, 1) := by decide +kernel
theorem dX2_readPart_1 : decode cX2_readPart 1 = .ok (.bipush 15, 2) := by decide +kernel
theorem dX2_readPart_3 : decode cX2_readPart 3 = .ok (.invokevirtual 43, 3) := by decide +kernel
theorem dX2_readPart_6 : decode cX2_readPart 6 = .ok (.ifCond .eq 12, 3) := by decide +kernel
theorem dX2_readPart_9 : decode cX2_readPart 9 = .ok (.aload_n 0, 1) := by decide +kernel
theorem dX2_readPart_10 : decode cX2_readPart 10 = .ok (.bipush 15, 2) := by decide +kernel
theorem dX2_readPart_12 : decode cX2_readPart 12 = .ok (.iconst 0, 1) := by decide +kernel
theorem dX2_readPart_13 : decode cX2_readPart 13 = .ok (.aload_n 1, 1) := by decide +kernel
theorem dX2_readPart_14 : decode cX2_readPart 14 = .ok (.invokevirtual 59, 3) := by decide +kernel
theorem dX2_readPart_17 : decode cX2_readPart 17 = .ok (.ireturn, 1) := by decide +kernel
theorem dX2_readPart_18 : decode cX2_readPart 18 = .ok (.aload_n 1, 1) := by decide +kernel
theorem dX2_readPart_19 : decode cX2_readPart 19 = .ok (.invokevirtual 37, 3) := by decide +kernel
theorem dX2_readPart_22 : decode cX2_readPart 22 = .ok (.bipush 14, 2) := by decide +kernel
theorem dX2_readPart_24 : decode cX2_readPart 24 = .ok (.if_icmp .ne 13, 3) := by decide +kernel
theorem dX2_readPart_27 : decode cX2_readPart 27 = .ok (.aload_n 0, 1) := by decide +kernel
theorem dX2_readPart_28 : decode cX2_readPart 28 = .ok (.aload_n 1, 1) := by decide +kernel
theorem dX2_readPart_29 : decode cX2_readPart 29 = .ok (.aload_n 0, 1) := by decide +kernel
theorem dX2_readPart_30 : decode cX2_readPart 30 = .ok (.invokevirtual 63, 3) := by decide +kernel
theorem dX2_readPart_33 : decode cX2_readPart 33 = .ok (.invokevirtual 51, 3) := by decide +kernel
theorem dX2_readPart_36 : decode cX2_readPart 36 = .ok (.ireturn, 1) := by decide +kernel
theorem dX2_readPart_37 : decode cX2_readPart 37 = .ok (.aload_n 1, 1) := by decide +kernel
theorem dX2_readPart_38 : decode cX2_readPart 38 = .ok (.bipush 11, 2) := by decide +kernel
theorem dX2_readPart_40 : decode cX2_readPart 40 = .ok (.invokevirtual 43, 3) := by decide +kernel
theorem dX2_readPart_43 : decode cX2_readPart 43 = .ok (.istore_n 2, 1) := by decide +kernel
theorem dX2_readPart_44 : decode cX2_readPart 44 = .ok (.iload_n 2, 1) := by decide +kernel
theorem dX2_readPart_45 : decode cX2_readPart 45 = .ok (.ifCond .ne 10, 3) := by decide +kernel
theorem dX2_readPart_48 : decode cX2_readPart 48 = .ok (.aload_n 1, 1) := by decide +kernel
theorem dX2_readPart_49 : decode cX2_readPart 49 = .ok (.bipush 10, 2) := by decide +kernel
theorem dX2_readPart_51 : decode cX2_readPart 51 = .ok (.invokevirtual 43, 3) := by decide +kernel
theorem dX2_readPart_54 : decode cX2_readPart 54 = .ok (.pop, 1) := by decide +kernel
theorem dX2_readPart_55 : decode cX2_readPart 55 = .ok (.aload_n 1, 1) := by decide +kernel
theorem dX2_readPart_56 : decode cX2_readPart 56 = .ok (.invokevirtual 66, 3) := by decide +kernel
theorem dX2_readPart_59 : decode cX2_readPart 59 = .ok (.iload_n 2, 1) := by decide +kernel
theorem dX2_readPart_60 : decode cX2_readPart 60 = .ok (.ifCond .eq 14, 3) := by decide +kernel
theorem dX2_readPart_63 : decode cX2_readPart 63 = .ok (.aload_n 1, 1) := by decide +kernel
theorem dX2_readPart_64 : decode cX2_readPart 64 = .ok (.getfield 69, 3) := by decide +kernel
theorem dX2_readPart_67 : decode cX2_readPart 67 = .ok (.ifCond .ne 7, 3) := by decide +kernel
theorem dX2_readPart_70 : decode cX2_readPart 70 = .ok (.iconst 1, 1) := by decide +kernel
theorem dX2_readPart_71 : decode cX2_readPart 71 = .ok (.goto 4, 3) := by decide +kernel
theorem dX2_readPart_74 : decode cX2_readPart 74 = .ok (.iconst 0, 1) := by decide +kernel
theorem dX2_readPart_75 : decode cX2_readPart 75 = .ok (.istore_n 3, 1) := by decide +kernel
theorem dX2_readPart_76 : decode cX2_readPart 76 = .ok (.aload_n 1, 1) := by decide +kernel
theorem dX2_readPart_77 : decode cX2_readPart 77 = .ok (.bipush 40, 2) := by decide +kernel
theorem dX2_readPart_79 : decode cX2_readPart 79 = .ok (.invokevirtual 72, 3) := by decide +kernel
theorem dX2_readPart_82 : decode cX2_readPart 82 = .ok (.ifCond .ne 29, 3) := by decide +kernel
theorem dX2_readPart_85 : decode cX2_readPart 85 = .ok (.iload_n 3, 1) := by decide +kernel
theorem dX2_readPart_86 : decode cX2_readPart 86 = .ok (.ifCond .ne 25, 3) := by decide +kernel
theorem dX2_readPart_89 : decode cX2_readPart 89 = .ok (.iload_n 2, 1) := by decide +kernel
theorem dX2_readPart_90 : decode cX2_readPart 90 = .ok (.ifCond .ne 19, 3) := by decide +kernel
theorem dX2_readPart_93 : decode cX2_readPart 93 = .ok (.aload_n 0, 1) := by decide +kernel
theorem dX2_readPart_94 : decode cX2_readPart 94 = .ok (.aload_n 1, 1) := by decide +kernel
theorem dX2_readPart_95 : decode cX2_readPart 95 = .ok (.aload_n 0, 1) := by decide +kernel
theorem dX2_readPart_96 : decode cX2_readPart 96 = .ok (.invokevirtual 63, 3) := by decide +kernel
theorem dX2_readPart_99 : decode cX2_readPart 99 = .ok (.invokevirtual 75, 3) := by decide +kernel
theorem dX2_readPart_102 : decode cX2_readPart 102 = .ok (.ifCond .eq 7, 3) := by decide +kernel
theorem dX2_readPart_105 : decode cX2_readPart 105 = .ok (.iconst 1, 1) := by decide +kernel
theorem dX2_readPart_106 : decode cX2_readPart 106 = .ok (.goto 4, 3) := by decide +kernel
theorem dX2_readPart_109 : decode cX2_readPart 109 = .ok (.iconst 0, 1) := by decide +kernel
theorem dX2_readPart_110 : decode cX2_readPart 110 = .ok (.ireturn, 1) := by decide +kernel
theorem dX2_readPart_111 : decode cX2_readPart 111 = .ok (.aload_n 0, 1) := by decide +kernel
theorem dX2_readPart_112 : decode cX2_readPart 112 = .ok (.bipush 11, 2) := by decide +kernel
theorem dX2_readPart_114 : decode cX2_readPart 114 = .ok (.iconst 0, 1) := by decide +kernel
theorem dX2_readPart_115 : decode cX2_readPart 115 = .ok (.aload_n 1, 1) := by decide +kernel
theorem dX2_readPart_116 : decode cX2_readPart 116 = .ok (.invokevirtual 59, 3) := by decide +kernel
theorem dX2_readPart_119 : decode cX2_readPart 119 = .ok (.ifCond .eq 25, 3) := by decide +kernel
theorem dX2_readPart_122 : decode cX2_readPart 122 = .ok (.aload_n 1, 1) := by decide +kernel
theorem dX2_readPart_123 : decode cX2_readPart 123 = .ok (.bipush 12, 2) := by decide +kernel
