set_option maxRecDepth 20000 in
theorem ggL_makes_X2_make : GoodIn wsL_makes wsX2_make := goodIn_ca (goodIn_ca (goodIn_ca (goodIn_r _ [11, 12, 13, 14, 15, 16, 17, 18, 19, 10, 20, 21, 22, 23, 24, 25, 26, 27, 28, 29, 30, 31, 32, 33, 34, 35, 36, 37, 38, 39, 40, 41, 42, 43, 44, 45, 46, 47, 48, 49, 50, 51, 52, 53, 54, 55, 56, 57, 58, 59, 60, 61, 62, 63, 64, 65, 66, 67, 68, 69, 70, 71, 72, 73, 74, 75, 76, 77, 78, 79, 80, 81, 82, 83, 84, 85, 86, 87, 88, 89, 90, 91] (by decide +kernel) (by decide +kernel)) (goodIn_sub (fun _ h => List.mem_cons_of_mem _ (List.mem_append_left _ (List.mem_append_left _ (List.mem_append_right _ h)))) (by decide +kernel))) (goodIn_sub (fun _ h => List.mem_cons_of_mem _ (List.mem_append_left _ (List.mem_append_right _ h))) (by decide +kernel))) (goodIn_sub (fun _ h => List.mem_cons_of_mem _ (List.mem_append_right _ h)) (by decide +kernel))
set_option maxRecDepth 20000 in
theorem gL_makes_X2_make : GoodIn wsL_makes (wsV RL 7 RX2 yX2_make wsX2_make) := goodIn_app (goodIn_of _ (by decide +kernel)) ggL_makes_X2_make
theorem dL_makes_0 : decode cL_makes 0 = .ok (.aload_n 0, 1) := by decide +kernel
theorem dL_makes_1 : decode cL_makes 1 = .ok (.iload_n 1, 1) := by decide +kernel
theorem dL_makes_2 : decode cL_makes 2 = .ok (.iload_n 2, 1) := by decide +kernel
theorem dL_makes_3 : decode cL_makes 3 = .ok (.iload_n 3, 1) := by decide +kernel
theorem dL_makes_4 : decode cL_makes 4 = .ok (.iload 4, 2) := by decide +kernel
theorem dL_makes_6 : decode cL_makes 6 = .ok (.iload 5, 2) := by decide +kernel
theorem dL_makes_8 : decode cL_makes 8 = .ok (.invokevirtual 7, 3) := by decide +kernel
theorem dL_makes_11 : decode cL_makes 11 = .ok (.ireturn, 1) := by decide +kernel
theorem dL_makes_12 : decode cL_makes 12 = .ok (.astore 6, 2) := by decide +kernel
theorem dL_makes_14 : decode cL_makes 14 = .ok (.ldc 15, 2) := by decide +kernel
theorem dL_makes_16 : decode cL_makes 16 = .ok (.ireturn, 1) := by decide +kernel
theorem dL_makes_17 : decode cL_makes 17 = .ok (.astore 6, 2) := by decide +kernel
theorem dL_makes_19 : decode cL_makes 19 = .ok (.ldc 18, 2) := by decide +kernel
theorem dL_makes_21 : decode cL_makes 21 = .ok (.ireturn, 1) := by decide +kernel
theorem dL_makes_22 : decode cL_makes 22 = .ok (.astore 6, 2) := by decide +kernel
theorem dL_makes_24 : decode cL_makes 24 = .ok (.ldc 21, 2) := by decide +kernel
theorem dL_makes_26 : decode cL_makes 26 = .ok (.ireturn, 1) := by decide +kernel
set_option maxRecDepth 20000 in
theorem ggL_sets_X2_setRef : GoodIn wsL_sets wsX2_setRef := goodIn_ca (goodIn_r _ [7, 8, 9, 10, 6, 11, 12, 13, 14, 15, 16, 17, 18, 19, 20, 21, 22, 23, 24, 25, 26, 27, 28, 29, 30, 31, 32, 33, 34, 35, 36, 37, 38, 39, 40, 41, 42, 43, 44, 45, 46, 47, 48, 49, 50, 51, 52] (by decide +kernel) (by decide +kernel)) (goodIn_sub (fun _ h => List.mem_cons_of_mem _ (List.mem_append_right _ h)) (by decide +kernel))
set_option maxRecDepth 20000 in
theorem gL_sets_X2_setRef : GoodIn wsL_sets (wsV RL 22 RX2 yX2_setRef wsX2_setRef) := goodIn_app (goodIn_of _ (by decide +kernel)) ggL_sets_X2_setRef
theorem dL_sets_0 : decode cL_sets 0 = .ok (.aload_n 0, 1) := by decide +kernel
theorem dL_sets_1 : decode cL_sets 1 = .ok (.iload_n 1, 1) := by decide +kernel
theorem dL_sets_2 : decode cL_sets 2 = .ok (.iload_n 2, 1) := by decide +kernel
theorem dL_sets_3 : decode cL_sets 3 = .ok (.iload_n 3, 1) := by decide +kernel
theorem dL_sets_4 : decode cL_sets 4 = .ok (.invokevirtual 22, 3) := by decide +kernel
theorem dL_sets_7 : decode cL_sets 7 = .ok (.ireturn, 1) := by decide +kernel
theorem dL_sets_8 : decode cL_sets 8 = .ok (.astore 4, 2) := by decide +kernel
theorem dL_sets_10 : decode cL_sets 10 = .ok (.ldc 15, 2) := by decide +kernel
theorem dL_sets_12 : decode cL_sets 12 = .ok (.ireturn, 1) := by decide +kernel
set_option maxRecDepth 20000 in
theorem ggL_ref_X2_ref : GoodIn wsL_ref wsX2_ref := goodIn_ca (goodIn_r _ [7, 8, 9, 10, 6, 11, 12, 13, 14, 15, 16, 17, 18, 19, 20, 21, 22, 23, 24, 25, 26, 27, 28, 29, 30, 31, 32, 33, 34, 35, 36, 37, 38, 39] (by decide +kernel) (by decide +kernel)) (goodIn_sub (fun _ h => List.mem_cons_of_mem _ (List.mem_append_right _ h)) (by decide +kernel))
set_option maxRecDepth 20000 in
theorem gL_ref_X2_ref : GoodIn wsL_ref (wsV RL 26 RX2 yX2_ref wsX2_ref) := goodIn_app (goodIn_of _ (by decide +kernel)) ggL_ref_X2_ref
theorem dL_ref_0 : decode cL_ref 0 = .ok (.aload_n 0, 1) := by decide +kernel
theorem dL_ref_1 : decode cL_ref 1 = .ok (.iload_n 1, 1) := by decide +kernel
theorem dL_ref_2 : decode cL_ref 2 = .ok (.iload_n 2, 1) := by decide +kernel
theorem dL_ref_3 : decode cL_ref 3 = .ok (.invokevirtual 26, 3) := by decide +kernel
theorem dL_ref_6 : decode cL_ref 6 = .ok (.ireturn, 1) := by decide +kernel
theorem dL_ref_7 : decode cL_ref 7 = .ok (.astore_n 3, 1) := by decide +kernel
theorem dL_ref_8 : decode cL_ref 8 = .ok (.ldc 15, 2) := by decide +kernel
theorem dL_ref_10 : decode cL_ref 10 = .ok (.ireturn, 1) := by decide +kernel
set_option maxRecDepth 20000 in
theorem ggL_file_X2_fileAt : GoodIn wsL_file wsX2_fileAt := goodIn_ca (goodIn_r _ [7, 8, 9, 10, 11, 6, 12, 13, 14, 15, 16, 17, 18, 19, 20, 21, 22, 23, 24, 25, 26, 27, 28, 29, 30, 31, 32, 33, 34, 35, 36, 37, 38, 39, 40, 41, 42, 43, 44, 45, 46, 47] (by decide +kernel) (by decide +kernel)) (goodIn_sub (fun _ h => List.mem_cons_of_mem _ (List.mem_append_right _ h)) (by decide +kernel))
set_option maxRecDepth 20000 in
theorem gL_file_X2_fileAt : GoodIn wsL_file (wsV RL 30 RX2 yX2_fileAt wsX2_fileAt) := goodIn_app (goodIn_of _ (by decide +kernel)) ggL_file_X2_fileAt
theorem dL_file_0 : decode cL_file 0 = .ok (.aload_n 0, 1) := by decide +kernel
theorem dL_file_1 : decode cL_file 1 = .ok (.iload_n 1, 1) := by decide +kernel
theorem dL_file_2 : decode cL_file 2 = .ok (.iload_n 2, 1) := by decide +kernel
theorem dL_file_3 : decode cL_file 3 = .ok (.invokevirtual 30, 3) := by decide +kernel
theorem dL_file_6 : decode cL_file 6 = .ok (.ireturn, 1) := by decide +kernel
theorem dL_file_7 : decode cL_file 7 = .ok (.astore_n 3, 1) := by decide +kernel
theorem dL_file_8 : decode cL_file 8 = .ok (.ldc 15, 2) := by decide +kernel
theorem dL_file_10 : decode cL_file 10 = .ok (.ireturn, 1) := by decide +kernel
set_option maxRecDepth 20000 in
theorem ggL_fetches_X2_fetch : GoodIn wsL_fetches wsX2_fetch := goodIn_ca (goodIn_ca (goodIn_ca (goodIn_r _ [11, 12, 13, 14, 15, 16, 17, 18, 10, 19, 20, 21, 22, 23, 24, 25, 26, 27, 28, 29, 30, 31, 32, 33, 34, 35, 36, 37, 38, 39, 40, 41, 42, 43, 44, 45, 46, 47, 48, 49, 50, 51, 52, 53, 54, 55, 56, 57, 58, 59, 60, 61, 62, 63, 64, 65, 66, 67, 68, 69, 70, 71, 72, 73, 74, 75, 76, 77, 78, 79, 80, 81, 82, 83, 84, 85, 86, 87, 88, 89, 90, 91, 92, 93, 94, 95, 96, 97, 98, 99, 100, 101, 102, 103, 104, 105, 106, 107, 108, 109, 110, 111, 112, 113, 114, 115, 116, 117, 118, 119, 120, 121, 122, 123, 124, 125, 126, 127, 128, 129, 130, 131, 132, 133, 134, 135, 136, 137, 138, 139, 140, 141] (by decide +kernel) (by decide +kernel)) (goodIn_sub (fun _ h => List.mem_cons_of_mem _ (List.mem_append_left _ (List.mem_append_left _ (List.mem_append_right _ h)))) (by decide +kernel))) (goodIn_sub (fun _ h => List.mem_cons_of_mem _ (List.mem_append_left _ (List.mem_append_right _ h))) (by decide +kernel))) (goodIn_sub (fun _ h => List.mem_cons_of_mem _ (List.mem_append_right _ h)) (by decide +kernel))
set_option maxRecDepth 20000 in
theorem gL_fetches_X2_fetch : GoodIn wsL_fetches (wsV RL 33 RX2 yX2_fetch wsX2_fetch) := goodIn_app (goodIn_of _ (by decide +kernel)) ggL_fetches_X2_fetch
theorem dL_fetches_0 : decode cL_fetches 0 = .ok (.aload_n 0, 1) := by decide +kernel
theorem dL_fetches_1 : decode cL_fetches 1 = .ok (.iload_n 1, 1) := by decide +kernel
theorem dL_fetches_2 : decode cL_fetches 2 = .ok (.iload_n 2, 1) := by decide +kernel
theorem dL_fetches_3 : decode cL_fetches 3 = .ok (.iload_n 3, 1) := by decide +kernel
theorem dL_fetches_4 : decode cL_fetches 4 = .ok (.invokevirtual 33, 3) := by decide +kernel
theorem dL_fetches_7 : decode cL_fetches 7 = .ok (.ireturn, 1) := by decide +kernel
theorem dL_fetches_8 : decode cL_fetches 8 = .ok (.astore 4, 2) := by decide +kernel
theorem dL_fetches_10 : decode cL_fetches 10 = .ok (.ldc 15, 2) := by decide +kernel
theorem dL_fetches_12 : decode cL_fetches 12 = .ok (.ireturn, 1) := by decide +kernel
theorem dL_fetches_13 : decode cL_fetches 13 = .ok (.astore 4, 2) := by decide +kernel
theorem dL_fetches_15 : decode cL_fetches 15 = .ok (.ldc 18, 2) := by decide +kernel
theorem dL_fetches_17 : decode cL_fetches 17 = .ok (.ireturn, 1) := by decide +kernel
theorem dL_fetches_18 : decode cL_fetches 18 = .ok (.astore 4, 2) := by decide +kernel
theorem dL_fetches_20 : decode cL_fetches 20 = .ok (.ldc 21, 2) := by decide +kernel
theorem dL_fetches_22 : decode cL_fetches 22 = .ok (.ireturn, 1) := by decide +kernel
set_option maxRecDepth 20000 in
theorem ggL_would_X2_wouldFetch : GoodIn wsL_would wsX2_wouldFetch := goodIn_ca (goodIn_ca (goodIn_ca (goodIn_r _ [11, 12, 13, 14, 15, 16, 17, 10, 18, 19, 20, 21, 22, 23, 24, 25, 26, 27, 28, 29, 30, 31, 32, 33, 34, 35, 36, 37, 38, 39, 40, 41, 42, 43, 44, 45, 46, 47, 48, 49, 50, 51, 52, 53, 54, 55, 56, 57, 58, 59, 60, 61, 62, 63, 64, 65, 66, 67, 68, 69, 70, 71, 72, 73, 74, 75, 76, 77, 78, 79, 80, 81, 82, 83, 84, 85] (by decide +kernel) (by decide +kernel)) (goodIn_sub (fun _ h => List.mem_cons_of_mem _ (List.mem_append_left _ (List.mem_append_left _ (List.mem_append_right _ h)))) (by decide +kernel))) (goodIn_sub (fun _ h => List.mem_cons_of_mem _ (List.mem_append_left _ (List.mem_append_right _ h))) (by decide +kernel))) (goodIn_sub (fun _ h => List.mem_cons_of_mem _ (List.mem_append_right _ h)) (by decide +kernel))
set_option maxRecDepth 20000 in
theorem gL_would_X2_wouldFetch : GoodIn wsL_would (wsV RL 37 RX2 yX2_wouldFetch wsX2_wouldFetch) := goodIn_app (goodIn_of _ (by decide +kernel)) ggL_would_X2_wouldFetch
theorem dL_would_0 : decode cL_would 0 = .ok (.aload_n 0, 1) := by decide +kernel
theorem dL_would_1 : decode cL_would 1 = .ok (.iload_n 1, 1) := by decide +kernel
theorem dL_would_2 : decode cL_would 2 = .ok (.iload_n 2, 1) := by decide +kernel
theorem dL_would_3 : decode cL_would 3 = .ok (.invokevirtual 37, 3) := by decide +kernel
theorem dL_would_6 : decode cL_would 6 = .ok (.ireturn, 1) := by decide +kernel
theorem dL_would_7 : decode cL_would 7 = .ok (.astore_n 3, 1) := by decide +kernel
theorem dL_would_8 : decode cL_would 8 = .ok (.ldc 15, 2) := by decide +kernel
theorem dL_would_10 : decode cL_would 10 = .ok (.ireturn, 1) := by decide +kernel
theorem dL_would_11 : decode cL_would 11 = .ok (.astore_n 3, 1) := by decide +kernel
theorem dL_would_12 : decode cL_would 12 = .ok (.ldc 18, 2) := by decide +kernel
theorem dL_would_14 : decode cL_would 14 = .ok (.ireturn, 1) := by decide +kernel
theorem dL_would_15 : decode cL_would 15 = .ok (.astore_n 3, 1) := by decide +kernel
theorem dL_would_16 : decode cL_would 16 = .ok (.ldc 21, 2) := by decide +kernel
theorem dL_would_18 : decode cL_would 18 = .ok (.ireturn, 1) := by decide +kernel
set_option maxRecDepth 20000 in
theorem ggL_loads_X2_load : GoodIn wsL_loads wsX2_load := goodIn_ca (goodIn_ca (goodIn_r _ [9, 10, 11, 12, 13, 14, 15, 8, 16, 17, 18, 19, 20, 21, 22, 23, 24, 25, 26, 27, 28, 29, 30, 31, 32, 33, 34, 35, 36, 37, 38, 39, 40, 41, 42, 43] (by decide +kernel) (by decide +kernel)) (goodIn_sub (fun _ h => List.mem_cons_of_mem _ (List.mem_append_left _ (List.mem_append_right _ h))) (by decide +kernel))) (goodIn_sub (fun _ h => List.mem_cons_of_mem _ (List.mem_append_right _ h)) (by decide +kernel))
set_option maxRecDepth 20000 in
theorem gL_loads_X2_load : GoodIn wsL_loads (wsV RL 40 RX2 yX2_load wsX2_load) := goodIn_app (goodIn_of _ (by decide +kernel)) ggL_loads_X2_load
theorem dL_loads_0 : decode cL_loads 0 = .ok (.aload_n 0, 1) := by decide +kernel
theorem dL_loads_1 : decode cL_loads 1 = .ok (.iload_n 1, 1) := by decide +kernel
theorem dL_loads_2 : decode cL_loads 2 = .ok (.invokevirtual 40, 3) := by decide +kernel
theorem dL_loads_5 : decode cL_loads 5 = .ok (.ifCond .eq 7, 3) := by decide +kernel
theorem dL_loads_8 : decode cL_loads 8 = .ok (.iconst 1, 1) := by decide +kernel
theorem dL_loads_9 : decode cL_loads 9 = .ok (.goto 4, 3) := by decide +kernel
theorem dL_loads_12 : decode cL_loads 12 = .ok (.iconst 0, 1) := by decide +kernel
theorem dL_loads_13 : decode cL_loads 13 = .ok (.ireturn, 1) := by decide +kernel
theorem dL_loads_14 : decode cL_loads 14 = .ok (.astore_n 2, 1) := by decide +kernel
theorem dL_loads_15 : decode cL_loads 15 = .ok (.ldc 18, 2) := by decide +kernel
theorem dL_loads_17 : decode cL_loads 17 = .ok (.ireturn, 1) := by decide +kernel
theorem dL_loads_18 : decode cL_loads 18 = .ok (.astore_n 2, 1) := by decide +kernel
theorem dL_loads_19 : decode cL_loads 19 = .ok (.ldc 21, 2) := by decide +kernel
theorem dL_loads_21 : decode cL_loads 21 = .ok (.ireturn, 1) := by decide +kernel
set_option maxRecDepth 20000 in
theorem ggL_protects_X2_protect : GoodIn wsL_protects wsX2_protect := goodIn_ca (goodIn_r _ [7, 8, 9, 10, 6, 11, 12, 13, 14, 15, 16, 17, 18, 19, 20, 21, 22, 23, 24, 25] (by decide +kernel) (by decide +kernel)) (goodIn_sub (fun _ h => List.mem_cons_of_mem _ (List.mem_append_right _ h)) (by decide +kernel))
set_option maxRecDepth 20000 in
theorem gL_protects_X2_protect : GoodIn wsL_protects (wsV RL 44 RX2 yX2_protect wsX2_protect) := goodIn_app (goodIn_of _ (by decide +kernel)) ggL_protects_X2_protect
theorem dL_protects_0 : decode cL_protects 0 = .ok (.aload_n 0, 1) := by decide +kernel
theorem dL_protects_1 : decode cL_protects 1 = .ok (.iload_n 1, 1) := by decide +kernel
theorem dL_protects_2 : decode cL_protects 2 = .ok (.iload_n 2, 1) := by decide +kernel
theorem dL_protects_3 : decode cL_protects 3 = .ok (.invokevirtual 44, 3) := by decide +kernel
theorem dL_protects_6 : decode cL_protects 6 = .ok (.ifCond .eq 7, 3) := by decide +kernel
theorem dL_protects_9 : decode cL_protects 9 = .ok (.iconst 1, 1) := by decide +kernel
theorem dL_protects_10 : decode cL_protects 10 = .ok (.goto 4, 3) := by decide +kernel
theorem dL_protects_13 : decode cL_protects 13 = .ok (.iconst 0, 1) := by decide +kernel
theorem dL_protects_14 : decode cL_protects 14 = .ok (.ireturn, 1) := by decide +kernel
theorem dL_protects_15 : decode cL_protects 15 = .ok (.astore_n 3, 1) := by decide +kernel
theorem dL_protects_16 : decode cL_protects 16 = .ok (.ldc 15, 2) := by decide +kernel
theorem dL_protects_18 : decode cL_protects 18 = .ok (.ireturn, 1) := by decide +kernel
set_option maxRecDepth 20000 in
theorem ggL_moves_X2_move : GoodIn wsL_moves wsX2_move := goodIn_ca (goodIn_ca (goodIn_r _ [9, 10, 11, 12, 13, 14, 15, 16, 17, 8, 18, 19, 20, 21, 22, 23, 24, 25, 26, 27, 28, 29, 30, 31, 32, 33, 34, 35, 36, 37, 38, 39, 40, 41, 42, 43, 44, 45, 46, 47, 48, 49, 50, 51, 52, 53] (by decide +kernel) (by decide +kernel)) (goodIn_sub (fun _ h => List.mem_cons_of_mem _ (List.mem_append_left _ (List.mem_append_right _ h))) (by decide +kernel))) (goodIn_sub (fun _ h => List.mem_cons_of_mem _ (List.mem_append_right _ h)) (by decide +kernel))
set_option maxRecDepth 20000 in
theorem gL_moves_X2_move : GoodIn wsL_moves (wsV RL 48 RX2 yX2_move wsX2_move) := goodIn_app (goodIn_of _ (by decide +kernel)) ggL_moves_X2_move
theorem dL_moves_0 : decode cL_moves 0 = .ok (.aload_n 0, 1) := by decide +kernel
theorem dL_moves_1 : decode cL_moves 1 = .ok (.iload_n 1, 1) := by decide +kernel
theorem dL_moves_2 : decode cL_moves 2 = .ok (.iload_n 2, 1) := by decide +kernel
theorem dL_moves_3 : decode cL_moves 3 = .ok (.iload_n 3, 1) := by decide +kernel
theorem dL_moves_4 : decode cL_moves 4 = .ok (.invokevirtual 48, 3) := by decide +kernel
theorem dL_moves_7 : decode cL_moves 7 = .ok (.ireturn, 1) := by decide +kernel
theorem dL_moves_8 : decode cL_moves 8 = .ok (.astore 4, 2) := by decide +kernel
theorem dL_moves_10 : decode cL_moves 10 = .ok (.ldc 15, 2) := by decide +kernel
theorem dL_moves_12 : decode cL_moves 12 = .ok (.ireturn, 1) := by decide +kernel
theorem dL_moves_13 : decode cL_moves 13 = .ok (.astore 4, 2) := by decide +kernel
theorem dL_moves_15 : decode cL_moves 15 = .ok (.ldc 21, 2) := by decide +kernel
theorem dL_moves_17 : decode cL_moves 17 = .ok (.ireturn, 1) := by decide +kernel
set_option maxRecDepth 20000 in
theorem ggL_collects_X2_collect : GoodIn wsL_collects wsX2_collect := goodIn_ca (goodIn_r _ [7, 8, 9, 10, 11, 12, 6, 13, 14, 15, 16, 17, 18, 19, 20, 21, 22, 23, 24, 25, 26, 27, 28, 29, 30, 31, 32, 33, 34, 35, 36, 37, 38, 39, 40, 41, 42, 43, 44, 45, 46, 47, 48, 49, 50, 51, 52, 53, 54, 55, 56, 57, 58, 59, 60, 61, 62, 63, 64, 65, 66, 67, 68, 69, 70, 71, 72, 73, 74, 75, 76, 77, 78, 79, 80, 81, 82, 83, 84, 85, 86, 87, 88, 89, 90, 91, 92, 93, 94, 95, 96, 97] (by decide +kernel) (by decide +kernel)) (goodIn_sub (fun _ h => List.mem_cons_of_mem _ (List.mem_append_right _ h)) (by decide +kernel))
set_option maxRecDepth 20000 in
theorem gL_collects_X2_collect : GoodIn wsL_collects (wsV RL 51 RX2 yX2_collect wsX2_collect) := goodIn_app (goodIn_of _ (by decide +kernel)) ggL_collects_X2_collect
theorem dL_collects_0 : decode cL_collects 0 = .ok (.aload_n 0, 1) := by decide +kernel
theorem dL_collects_1 : decode cL_collects 1 = .ok (.iload_n 1, 1) := by decide +kernel
theorem dL_collects_2 : decode cL_collects 2 = .ok (.invokevirtual 51, 3) := by decide +kernel
theorem dL_collects_5 : decode cL_collects 5 = .ok (.ireturn, 1) := by decide +kernel
theorem dL_collects_6 : decode cL_collects 6 = .ok (.astore_n 2, 1) := by decide +kernel
theorem dL_collects_7 : decode cL_collects 7 = .ok (.ldc 15, 2) := by decide +kernel
theorem dL_collects_9 : decode cL_collects 9 = .ok (.ireturn, 1) := by decide +kernel
set_option maxRecDepth 20000 in
theorem ggL_has_X2_has : GoodIn wsL_has wsX2_has := goodIn_ca (goodIn_r _ [7, 8, 9, 10, 6, 11, 12, 13, 14, 15, 16, 17, 18, 19, 20, 21, 22, 23, 24, 25, 26, 27, 28, 29, 30, 31, 32, 33, 34, 35, 36, 37, 38, 39, 40, 41, 42, 43, 44, 45, 46, 47, 48, 49, 50] (by decide +kernel) (by decide +kernel)) (goodIn_sub (fun _ h => List.mem_cons_of_mem _ (List.mem_append_right _ h)) (by decide +kernel))
set_option maxRecDepth 20000 in
theorem gL_has_X2_has : GoodIn wsL_has (wsV RL 55 RX2 yX2_has wsX2_has) := goodIn_app (goodIn_of _ (by decide +kernel)) ggL_has_X2_has
theorem dL_has_0 : decode cL_has 0 = .ok (.aload_n 0, 1) := by decide +kernel
theorem dL_has_1 : decode cL_has 1 = .ok (.iload_n 1, 1) := by decide +kernel
theorem dL_has_2 : decode cL_has 2 = .ok (.iload_n 2, 1) := by decide +kernel
theorem dL_has_3 : decode cL_has 3 = .ok (.invokevirtual 55, 3) := by decide +kernel
theorem dL_has_6 : decode cL_has 6 = .ok (.ifCond .eq 7, 3) := by decide +kernel
theorem dL_has_9 : decode cL_has 9 = .ok (.iconst 1, 1) := by decide +kernel
theorem dL_has_10 : decode cL_has 10 = .ok (.goto 4, 3) := by decide +kernel
theorem dL_has_13 : decode cL_has 13 = .ok (.iconst 0, 1) := by decide +kernel
theorem dL_has_14 : decode cL_has 14 = .ok (.ireturn, 1) := by decide +kernel
theorem dL_has_15 : decode cL_has 15 = .ok (.astore_n 3, 1) := by decide +kernel
theorem dL_has_16 : decode cL_has 16 = .ok (.ldc 15, 2) := by decide +kernel
theorem dL_has_18 : decode cL_has 18 = .ok (.ireturn, 1) := by decide +kernel
set_option maxRecDepth 20000 in
theorem ggL_hasFile_X2_hasFile : GoodIn wsL_hasFile wsX2_hasFile := goodIn_ca (goodIn_ca (goodIn_r _ [9, 10, 11, 12, 8, 13, 14, 15, 16, 17, 18, 19, 20, 21, 22, 23, 24, 25, 26, 27, 28, 29, 30, 31, 32, 33, 34, 35, 36, 37, 38, 39, 40, 41, 42, 43] (by decide +kernel) (by decide +kernel)) (goodIn_sub (fun _ h => List.mem_cons_of_mem _ (List.mem_append_left _ (List.mem_append_right _ h))) (by decide +kernel))) (goodIn_sub (fun _ h => List.mem_cons_of_mem _ (List.mem_append_right _ h)) (by decide +kernel))
set_option maxRecDepth 20000 in
theorem gL_hasFile_X2_hasFile : GoodIn wsL_hasFile (wsV RL 59 RX2 yX2_hasFile wsX2_hasFile) := goodIn_app (goodIn_of _ (by decide +kernel)) ggL_hasFile_X2_hasFile
theorem dL_hasFile_0 : decode cL_hasFile 0 = .ok (.aload_n 0, 1) := by decide +kernel
theorem dL_hasFile_1 : decode cL_hasFile 1 = .ok (.iload_n 1, 1) := by decide +kernel
theorem dL_hasFile_2 : decode cL_hasFile 2 = .ok (.iload_n 2, 1) := by decide +kernel
theorem dL_hasFile_3 : decode cL_hasFile 3 = .ok (.invokevirtual 59, 3) := by decide +kernel
theorem dL_hasFile_6 : decode cL_hasFile 6 = .ok (.ifCond .eq 7, 3) := by decide +kernel
theorem dL_hasFile_9 : decode cL_hasFile 9 = .ok (.iconst 1, 1) := by decide +kernel
theorem dL_hasFile_10 : decode cL_hasFile 10 = .ok (.goto 4, 3) := by decide +kernel
theorem dL_hasFile_13 : decode cL_hasFile 13 = .ok (.iconst 0, 1) := by decide +kernel
theorem dL_hasFile_14 : decode cL_hasFile 14 = .ok (.ireturn, 1) := by decide +kernel
theorem dL_hasFile_15 : decode cL_hasFile 15 = .ok (.astore_n 3, 1) := by decide +kernel
theorem dL_hasFile_16 : decode cL_hasFile 16 = .ok (.ldc 15, 2) := by decide +kernel
theorem dL_hasFile_18 : decode cL_hasFile 18 = .ok (.ireturn, 1) := by decide +kernel
theorem dL_hasFile_19 : decode cL_hasFile 19 = .ok (.astore_n 3, 1) := by decide +kernel
theorem dL_hasFile_20 : decode cL_hasFile 20 = .ok (.ldc 18, 2) := by decide +kernel
theorem dL_hasFile_22 : decode cL_hasFile 22 = .ok (.ireturn, 1) := by decide +kernel
set_option maxRecDepth 20000 in
theorem ggL_shallow_X2_isShallow : GoodIn wsL_shallow wsX2_isShallow := goodIn_ca (goodIn_r _ [7, 8, 9, 10, 11, 12, 6, 13, 14, 15, 16, 17, 18, 19, 20, 21, 22, 23, 24, 25, 26, 27, 28, 29, 30, 31, 32, 33, 34, 35, 36, 37, 38, 39, 40, 41, 42, 43, 44, 45, 46, 47, 48, 49, 50, 51, 52, 53, 54, 55, 56, 57] (by decide +kernel) (by decide +kernel)) (goodIn_sub (fun _ h => List.mem_cons_of_mem _ (List.mem_append_right _ h)) (by decide +kernel))
set_option maxRecDepth 20000 in
theorem gL_shallow_X2_isShallow : GoodIn wsL_shallow (wsV RL 62 RX2 yX2_isShallow wsX2_isShallow) := goodIn_app (goodIn_of _ (by decide +kernel)) ggL_shallow_X2_isShallow
theorem dL_shallow_0 : decode cL_shallow 0 = .ok (.aload_n 0, 1) := by decide +kernel
theorem dL_shallow_1 : decode cL_shallow 1 = .ok (.iload_n 1, 1) := by decide +kernel
theorem dL_shallow_2 : decode cL_shallow 2 = .ok (.invokevirtual 62, 3) := by decide +kernel
theorem dL_shallow_5 : decode cL_shallow 5 = .ok (.ifCond .eq 7, 3) := by decide +kernel
theorem dL_shallow_8 : decode cL_shallow 8 = .ok (.iconst 1, 1) := by decide +kernel
theorem dL_shallow_9 : decode cL_shallow 9 = .ok (.goto 4, 3) := by decide +kernel
theorem dL_shallow_12 : decode cL_shallow 12 = .ok (.iconst 0, 1) := by decide +kernel
theorem dL_shallow_13 : decode cL_shallow 13 = .ok (.ireturn, 1) := by decide +kernel
theorem dL_shallow_14 : decode cL_shallow 14 = .ok (.astore_n 2, 1) := by decide +kernel
theorem dL_shallow_15 : decode cL_shallow 15 = .ok (.ldc 15, 2) := by decide +kernel
theorem dL_shallow_17 : decode cL_shallow 17 = .ok (.ireturn, 1) := by decide +kernel
set_option maxRecDepth 20000 in
theorem ggL_ancestor_X2_isAncestor : GoodIn wsL_ancestor wsX2_isAncestor := goodIn_ca (goodIn_r _ [7, 8, 9, 10, 11, 6, 12, 13, 14, 15, 16, 17, 18, 19, 20, 21, 22, 23, 24, 25, 26, 27, 28, 29, 30, 31, 32, 33, 34, 35, 36, 37, 38, 39, 40, 41, 42, 43, 44, 45, 46, 47, 48, 49, 50, 51, 52, 53, 54, 55, 56, 57, 58, 59, 60, 61, 62, 63, 64, 65, 66] (by decide +kernel) (by decide +kernel)) (goodIn_sub (fun _ h => List.mem_cons_of_mem _ (List.mem_append_right _ h)) (by decide +kernel))
set_option maxRecDepth 20000 in
theorem gL_ancestor_X2_isAncestor : GoodIn wsL_ancestor (wsV RL 65 RX2 yX2_isAncestor wsX2_isAncestor) := goodIn_app (goodIn_of _ (by decide +kernel)) ggL_ancestor_X2_isAncestor
theorem dL_ancestor_0 : decode cL_ancestor 0 = .ok (.aload_n 0, 1) := by decide +kernel
theorem dL_ancestor_1 : decode cL_ancestor 1 = .ok (.iload_n 1, 1) := by decide +kernel
theorem dL_ancestor_2 : decode cL_ancestor 2 = .ok (.iload_n 2, 1) := by decide +kernel
theorem dL_ancestor_3 : decode cL_ancestor 3 = .ok (.iload_n 3, 1) := by decide +kernel
theorem dL_ancestor_4 : decode cL_ancestor 4 = .ok (.invokevirtual 65, 3) := by decide +kernel
theorem dL_ancestor_7 : decode cL_ancestor 7 = .ok (.ifCond .eq 7, 3) := by decide +kernel
theorem dL_ancestor_10 : decode cL_ancestor 10 = .ok (.iconst 1, 1) := by decide +kernel
theorem dL_ancestor_11 : decode cL_ancestor 11 = .ok (.goto 4, 3) := by decide +kernel
theorem dL_ancestor_14 : decode cL_ancestor 14 = .ok (.iconst 0, 1) := by decide +kernel
theorem dL_ancestor_15 : decode cL_ancestor 15 = .ok (.ireturn, 1) := by decide +kernel
theorem dL_ancestor_16 : decode cL_ancestor 16 = .ok (.astore 4, 2) := by decide +kernel
theorem dL_ancestor_18 : decode cL_ancestor 18 = .ok (.ldc 15, 2) := by decide +kernel
theorem dL_ancestor_20 : decode cL_ancestor 20 = .ok (.ireturn, 1) := by decide +kernel
theorem dL_drawn_0 : decode cL_drawn 0 = .ok (.iload_n 1, 1) := by decide +kernel
theorem dL_drawn_1 : decode cL_drawn 1 = .ok (.aload_n 0, 1) := by decide +kernel
theorem dL_drawn_2 : decode cL_drawn 2 = .ok (.arraylength, 1) := by decide +kernel
theorem dL_drawn_3 : decode cL_drawn 3 = .ok (.if_icmp .ge 9, 3) := by decide +kernel
theorem dL_drawn_6 : decode cL_drawn 6 = .ok (.aload_n 0, 1) := by decide +kernel
theorem dL_drawn_7 : decode cL_drawn 7 = .ok (.iload_n 1, 1) := by decide +kernel
theorem dL_drawn_8 : decode cL_drawn 8 = .ok (.iaload, 1) := by decide +kernel
theorem dL_drawn_9 : decode cL_drawn 9 = .ok (.goto 13, 3) := by decide +kernel
theorem dL_drawn_12 : decode cL_drawn 12 = .ok (.ldc 69, 2) := by decide +kernel
theorem dL_drawn_14 : decode cL_drawn 14 = .ok (.iload_n 1, 1) := by decide +kernel
theorem dL_drawn_15 : decode cL_drawn 15 = .ok (.iconst 3, 1) := by decide +kernel
theorem dL_drawn_16 : decode cL_drawn 16 = .ok (.iadd, 1) := by decide +kernel
theorem dL_drawn_17 : decode cL_drawn 17 = .ok (.imul, 1) := by decide +kernel
theorem dL_drawn_18 : decode cL_drawn 18 = .ok (.sipush 14011, 3) := by decide +kernel
theorem dL_drawn_21 : decode cL_drawn 21 = .ok (.iadd, 1) := by decide +kernel
theorem dL_drawn_22 : decode cL_drawn 22 = .ok (.ldc 70, 2) := by decide +kernel
theorem dL_drawn_24 : decode cL_drawn 24 = .ok (.iand, 1) := by decide +kernel
theorem dL_drawn_25 : decode cL_drawn 25 = .ok (.ireturn, 1) := by decide +kernel
set_option maxRecDepth 20000 in
theorem ggL_refuses_X2_commits : GoodIn wsL_refuses wsX2_commits := goodIn_r _ [8, 9, 10, 11, 12, 13, 14, 15, 280, 281, 282, 283, 284, 285, 286, 287, 288, 289, 290, 291, 292, 293, 294] (by decide +kernel) (by decide +kernel)
set_option maxRecDepth 20000 in
theorem gL_refuses_X2_commits : GoodIn wsL_refuses (wsV RL 71 RX2 yX2_commits wsX2_commits) := goodIn_app (goodIn_of _ (by decide +kernel)) ggL_refuses_X2_commits
set_option maxRecDepth 20000 in
theorem ggL_refuses_L_makes : GoodIn wsL_refuses wsL_makes := goodIn_ca (goodIn_ca (goodIn_ca (goodIn_r _ [19, 20, 21, 22, 1, 2, 3, 23, 24, 25, 7, 26, 27, 28, 29, 30, 9, 31, 32, 33, 34, 35, 36, 37, 38, 39, 40, 41, 42, 43, 44, 45, 46, 47, 48, 49, 50, 51, 52, 53, 54, 55, 56, 57, 58, 59, 60, 61, 62, 13, 63, 15, 64, 65, 66, 67, 68, 69, 70, 71, 72, 73, 74, 75, 76, 77, 78, 79, 80, 81, 82, 83, 84, 85, 280, 281, 282, 283, 284, 285, 286, 287, 288, 295, 296, 297, 289, 290, 291, 292, 293, 294] (by decide +kernel) (by decide +kernel)) (goodIn_sub (fun _ h => List.mem_cons_of_mem _ (List.mem_append_left _ (List.mem_append_left _ (List.mem_append_right _ h)))) (by decide +kernel))) (goodIn_sub (fun _ h => List.mem_cons_of_mem _ (List.mem_append_left _ (List.mem_append_right _ h))) (by decide +kernel))) (goodIn_sub (fun _ h => List.mem_cons_of_mem _ (List.mem_append_right _ h)) (by decide +kernel))
set_option maxRecDepth 20000 in
theorem gL_refuses_L_makes : GoodIn wsL_refuses (va_wsS RL 75 yL_makes wsL_makes) := goodIn_app (goodIn_of _ (by decide +kernel)) ggL_refuses_L_makes
set_option maxRecDepth 20000 in
theorem ggL_refuses_L_sets : GoodIn wsL_refuses wsL_sets := goodIn_ca (goodIn_r _ [88, 20, 1, 89, 90, 91, 7, 92, 31, 32, 33, 34, 35, 36, 37, 38, 93, 94, 95, 96, 97, 98, 45, 46, 47, 48, 49, 50, 51, 52, 53, 99, 100, 101, 83, 102, 103, 104, 105, 106, 107, 280, 281, 282, 283, 284, 285, 286, 287, 288, 295, 296, 297] (by decide +kernel) (by decide +kernel)) (goodIn_sub (fun _ h => List.mem_cons_of_mem _ (List.mem_append_right _ h)) (by decide +kernel))
set_option maxRecDepth 20000 in
theorem gL_refuses_L_sets : GoodIn wsL_refuses (va_wsS RL 81 yL_sets wsL_sets) := goodIn_app (goodIn_of _ (by decide +kernel)) ggL_refuses_L_sets
set_option maxRecDepth 20000 in
theorem ggL_refuses_L_ref : GoodIn wsL_refuses wsL_ref := goodIn_ca (goodIn_r _ [110, 20, 1, 111, 112, 113, 7, 114, 31, 32, 33, 34, 35, 36, 37, 38, 93, 94, 95, 96, 97, 98, 99, 100, 101, 83, 102, 103, 280, 281, 282, 283, 284, 285, 286, 287, 288, 295, 296, 297] (by decide +kernel) (by decide +kernel)) (goodIn_sub (fun _ h => List.mem_cons_of_mem _ (List.mem_append_right _ h)) (by decide +kernel))
set_option maxRecDepth 20000 in
theorem gL_refuses_L_ref : GoodIn wsL_refuses (va_wsS RL 85 yL_ref wsL_ref) := goodIn_app (goodIn_of _ (by decide +kernel)) ggL_refuses_L_ref
set_option maxRecDepth 20000 in
theorem ggL_refuses_L_file : GoodIn wsL_refuses wsL_file := goodIn_ca (goodIn_r _ [117, 20, 1, 118, 119, 120, 7, 121, 9, 122, 123, 124, 125, 35, 36, 126, 77, 78, 13, 79, 15, 39, 40, 41, 42, 43, 44, 127, 73, 74, 75, 70, 76, 280, 281, 282, 283, 284, 285, 286, 287, 288, 289, 290, 291, 292, 293, 294] (by decide +kernel) (by decide +kernel)) (goodIn_sub (fun _ h => List.mem_cons_of_mem _ (List.mem_append_right _ h)) (by decide +kernel))
set_option maxRecDepth 20000 in
theorem gL_refuses_L_file : GoodIn wsL_refuses (va_wsS RL 88 yL_file wsL_file) := goodIn_app (goodIn_of _ (by decide +kernel)) ggL_refuses_L_file
set_option maxRecDepth 20000 in
theorem ggL_refuses_L_fetches : GoodIn wsL_refuses wsL_fetches := goodIn_ca (goodIn_ca (goodIn_ca (goodIn_r _ [130, 20, 21, 22, 1, 2, 3, 131, 132, 133, 7, 134, 9, 135, 38, 37, 136, 137, 138, 139, 27, 28, 29, 30, 93, 94, 95, 35, 36, 96, 97, 98, 99, 100, 101, 83, 102, 103, 140, 141, 142, 143, 144, 145, 146, 147, 48, 49, 50, 51, 52, 53, 148, 149, 150, 13, 151, 15, 152, 153, 154, 155, 156, 157, 158, 159, 160, 68, 69, 76, 77, 78, 79, 161, 162, 163, 164, 165, 166, 167, 168, 169, 170, 171, 172, 173, 174, 175, 176, 177, 178, 179, 180, 181, 182, 72, 73, 74, 75, 70, 43, 44, 58, 59, 183, 184, 185, 186, 85, 187, 188, 189, 190, 104, 105, 106, 107, 191, 192, 193, 194, 195, 196, 197, 280, 281, 282, 283, 284, 285, 286, 287, 288, 295, 296, 297, 289, 290, 291, 292, 293, 294] (by decide +kernel) (by decide +kernel)) (goodIn_sub (fun _ h => List.mem_cons_of_mem _ (List.mem_append_left _ (List.mem_append_left _ (List.mem_append_right _ h)))) (by decide +kernel))) (goodIn_sub (fun _ h => List.mem_cons_of_mem _ (List.mem_append_left _ (List.mem_append_right _ h))) (by decide +kernel))) (goodIn_sub (fun _ h => List.mem_cons_of_mem _ (List.mem_append_right _ h)) (by decide +kernel))
set_option maxRecDepth 20000 in
theorem gL_refuses_L_fetches : GoodIn wsL_refuses (va_wsS RL 91 yL_fetches wsL_fetches) := goodIn_app (goodIn_of _ (by decide +kernel)) ggL_refuses_L_fetches
set_option maxRecDepth 20000 in
theorem ggL_refuses_L_would : GoodIn wsL_refuses wsL_would := goodIn_ca (goodIn_ca (goodIn_ca (goodIn_r _ [200, 20, 21, 22, 1, 2, 3, 201, 202, 203, 7, 204, 9, 38, 135, 136, 137, 138, 139, 27, 28, 29, 30, 37, 93, 94, 95, 35, 36, 96, 97, 98, 99, 100, 101, 83, 102, 103, 161, 162, 163, 13, 164, 165, 68, 69, 76, 77, 78, 79, 15, 166, 167, 168, 169, 52, 53, 170, 171, 172, 173, 191, 192, 193, 194, 195, 196, 197, 280, 281, 282, 283, 284, 285, 286, 287, 288, 295, 296, 297, 289, 290, 291, 292, 293, 294] (by decide +kernel) (by decide +kernel)) (goodIn_sub (fun _ h => List.mem_cons_of_mem _ (List.mem_append_left _ (List.mem_append_left _ (List.mem_append_right _ h)))) (by decide +kernel))) (goodIn_sub (fun _ h => List.mem_cons_of_mem _ (List.mem_append_left _ (List.mem_append_right _ h))) (by decide +kernel))) (goodIn_sub (fun _ h => List.mem_cons_of_mem _ (List.mem_append_right _ h)) (by decide +kernel))
set_option maxRecDepth 20000 in
theorem gL_refuses_L_would : GoodIn wsL_refuses (va_wsS RL 95 yL_would wsL_would) := goodIn_app (goodIn_of _ (by decide +kernel)) ggL_refuses_L_would
set_option maxRecDepth 20000 in
theorem ggL_refuses_L_loads : GoodIn wsL_refuses wsL_loads := goodIn_ca (goodIn_ca (goodIn_r _ [207, 21, 22, 2, 3, 208, 209, 210, 7, 211, 29, 30, 37, 38, 54, 55, 56, 27, 28, 57, 58, 59, 212, 188, 189, 83, 190, 85, 80, 81, 82, 84, 280, 281, 282, 283, 284, 285, 286, 287, 288, 295, 296, 297] (by decide +kernel) (by decide +kernel)) (goodIn_sub (fun _ h => List.mem_cons_of_mem _ (List.mem_append_left _ (List.mem_append_right _ h))) (by decide +kernel))) (goodIn_sub (fun _ h => List.mem_cons_of_mem _ (List.mem_append_left _ (List.mem_append_left _ (List.mem_append_right _ h)))) (by decide +kernel))
set_option maxRecDepth 20000 in
theorem gL_refuses_L_loads : GoodIn wsL_refuses (va_wsS RL 98 yL_loads wsL_loads) := goodIn_app (goodIn_of _ (by decide +kernel)) ggL_refuses_L_loads
set_option maxRecDepth 20000 in
theorem ggL_refuses_L_protects : GoodIn wsL_refuses wsL_protects := goodIn_ca (goodIn_r _ [215, 20, 1, 216, 217, 218, 7, 219, 220, 93, 94, 95, 35, 36, 96, 97, 98, 280, 281, 282, 283, 284, 285, 286, 287, 288] (by decide +kernel) (by decide +kernel)) (goodIn_sub (fun _ h => List.mem_cons_of_mem _ (List.mem_append_right _ h)) (by decide +kernel))
set_option maxRecDepth 20000 in
theorem gL_refuses_L_protects : GoodIn wsL_refuses (va_wsS RL 102 yL_protects wsL_protects) := goodIn_app (goodIn_of _ (by decide +kernel)) ggL_refuses_L_protects
set_option maxRecDepth 20000 in
theorem ggL_refuses_L_moves : GoodIn wsL_refuses wsL_moves := goodIn_ca (goodIn_ca (goodIn_r _ [223, 20, 22, 1, 3, 224, 225, 226, 7, 227, 29, 30, 228, 229, 230, 231, 93, 94, 95, 35, 36, 96, 97, 98, 232, 233, 234, 235, 122, 123, 124, 125, 9, 126, 77, 78, 13, 79, 15, 280, 281, 282, 283, 284, 285, 286, 287, 288, 289, 290, 291, 292, 293, 294] (by decide +kernel) (by decide +kernel)) (goodIn_sub (fun _ h => List.mem_cons_of_mem _ (List.mem_append_left _ (List.mem_append_right _ h))) (by decide +kernel))) (goodIn_sub (fun _ h => List.mem_cons_of_mem _ (List.mem_append_right _ h)) (by decide +kernel))
set_option maxRecDepth 20000 in
theorem gL_refuses_L_moves : GoodIn wsL_refuses (va_wsS RL 106 yL_moves wsL_moves) := goodIn_app (goodIn_of _ (by decide +kernel)) ggL_refuses_L_moves
set_option maxRecDepth 20000 in
theorem ggL_refuses_L_collects : GoodIn wsL_refuses wsL_collects := goodIn_ca (goodIn_r _ [238, 20, 1, 239, 240, 241, 7, 242, 9, 135, 31, 32, 33, 34, 35, 36, 37, 38, 243, 244, 245, 83, 246, 103, 52, 53, 148, 149, 150, 13, 151, 15, 152, 153, 154, 155, 156, 49, 50, 51, 157, 158, 159, 160, 68, 69, 76, 77, 78, 79, 191, 192, 193, 194, 195, 196, 197, 174, 175, 176, 177, 178, 179, 180, 181, 182, 72, 73, 74, 75, 70, 43, 44, 58, 59, 247, 248, 249, 250, 85, 280, 281, 282, 283, 284, 285, 286, 287, 288, 295, 296, 297, 289, 290, 291, 292, 293, 294] (by decide +kernel) (by decide +kernel)) (goodIn_sub (fun _ h => List.mem_cons_of_mem _ (List.mem_append_right _ h)) (by decide +kernel))
set_option maxRecDepth 20000 in
theorem gL_refuses_L_collects : GoodIn wsL_refuses (va_wsS RL 109 yL_collects wsL_collects) := goodIn_app (goodIn_of _ (by decide +kernel)) ggL_refuses_L_collects
set_option maxRecDepth 20000 in
theorem ggL_refuses_L_has : GoodIn wsL_refuses wsL_has := goodIn_ca (goodIn_r _ [253, 20, 1, 254, 255, 256, 7, 257, 31, 32, 33, 34, 35, 36, 37, 38, 122, 123, 124, 125, 9, 126, 77, 78, 13, 79, 15, 48, 49, 50, 51, 52, 53, 295, 296, 297, 280, 281, 282, 283, 284, 285, 286, 287, 288, 289, 290, 291, 292, 293, 294] (by decide +kernel) (by decide +kernel)) (goodIn_sub (fun _ h => List.mem_cons_of_mem _ (List.mem_append_right _ h)) (by decide +kernel))
set_option maxRecDepth 20000 in
theorem gL_refuses_L_has : GoodIn wsL_refuses (va_wsS RL 112 yL_has wsL_has) := goodIn_app (goodIn_of _ (by decide +kernel)) ggL_refuses_L_has
set_option maxRecDepth 20000 in
theorem ggL_refuses_L_hasFile : GoodIn wsL_refuses wsL_hasFile := goodIn_ca (goodIn_ca (goodIn_r _ [260, 20, 21, 1, 2, 261, 262, 263, 7, 264, 31, 32, 33, 34, 35, 36, 37, 38, 54, 55, 56, 27, 28, 57, 58, 59, 212, 188, 189, 83, 190, 85, 280, 281, 282, 283, 284, 285, 286, 287, 288, 295, 296, 297] (by decide +kernel) (by decide +kernel)) (goodIn_sub (fun _ h => List.mem_cons_of_mem _ (List.mem_append_right _ h)) (by decide +kernel))) (goodIn_sub (fun _ h => List.mem_cons_of_mem _ (List.mem_append_left _ (List.mem_append_left _ (List.mem_append_right _ h)))) (by decide +kernel))
set_option maxRecDepth 20000 in
theorem gL_refuses_L_hasFile : GoodIn wsL_refuses (va_wsS RL 114 yL_hasFile wsL_hasFile) := goodIn_app (goodIn_of _ (by decide +kernel)) ggL_refuses_L_hasFile
set_option maxRecDepth 20000 in
theorem ggL_refuses_L_shallow : GoodIn wsL_refuses wsL_shallow := goodIn_ca (goodIn_r _ [267, 20, 1, 268, 269, 270, 7, 271, 9, 38, 122, 123, 124, 125, 35, 36, 126, 77, 78, 13, 79, 15, 272, 154, 155, 156, 152, 49, 50, 51, 52, 53, 157, 158, 159, 160, 68, 69, 76, 48, 280, 281, 282, 283, 284, 285, 286, 287, 288, 295, 296, 297, 289, 290, 291, 292, 293, 294] (by decide +kernel) (by decide +kernel)) (goodIn_sub (fun _ h => List.mem_cons_of_mem _ (List.mem_append_right _ h)) (by decide +kernel))
set_option maxRecDepth 20000 in
theorem gL_refuses_L_shallow : GoodIn wsL_refuses (va_wsS RL 116 yL_shallow wsL_shallow) := goodIn_app (goodIn_of _ (by decide +kernel)) ggL_refuses_L_shallow
set_option maxRecDepth 20000 in
theorem ggL_refuses_L_ancestor : GoodIn wsL_refuses wsL_ancestor := goodIn_ca (goodIn_r _ [275, 20, 1, 276, 277, 278, 7, 279, 9, 31, 32, 33, 34, 35, 36, 37, 38, 122, 123, 124, 125, 126, 77, 78, 13, 79, 15, 51, 52, 53, 148, 149, 150, 151, 152, 153, 154, 155, 156, 49, 50, 157, 158, 159, 160, 68, 69, 76, 48, 280, 281, 282, 283, 284, 285, 286, 287, 288, 295, 296, 297, 289, 290, 291, 292, 293, 294] (by decide +kernel) (by decide +kernel)) (goodIn_sub (fun _ h => List.mem_cons_of_mem _ (List.mem_append_right _ h)) (by decide +kernel))
set_option maxRecDepth 20000 in
theorem gL_refuses_L_ancestor : GoodIn wsL_refuses (va_wsS RL 119 yL_ancestor wsL_ancestor) := goodIn_app (goodIn_of _ (by decide +kernel)) ggL_refuses_L_ancestor
theorem dL_refuses_0 : decode cL_refuses 0 = .ok (.iload_n 2, 1) := by decide +kernel
theorem dL_refuses_1 : decode cL_refuses 1 = .ok (.iconst 2, 1) := by decide +kernel
theorem dL_refuses_2 : decode cL_refuses 2 = .ok (.irem, 1) := by decide +kernel
theorem dL_refuses_3 : decode cL_refuses 3 = .ok (.ifCond .ne 7, 3) := by decide +kernel
theorem dL_refuses_6 : decode cL_refuses 6 = .ok (.iconst 1, 1) := by decide +kernel
theorem dL_refuses_7 : decode cL_refuses 7 = .ok (.goto 4, 3) := by decide +kernel
theorem dL_refuses_10 : decode cL_refuses 10 = .ok (.iconst 0, 1) := by decide +kernel
theorem dL_refuses_11 : decode cL_refuses 11 = .ok (.istore_n 3, 1) := by decide +kernel
theorem dL_refuses_12 : decode cL_refuses 12 = .ok (.aload_n 0, 1) := by decide +kernel
theorem dL_refuses_13 : decode cL_refuses 13 = .ok (.invokevirtual 71, 3) := by decide +kernel
theorem dL_refuses_16 : decode cL_refuses 16 = .ok (.istore 4, 2) := by decide +kernel
theorem dL_refuses_18 : decode cL_refuses 18 = .ok (.iload_n 3, 1) := by decide +kernel
theorem dL_refuses_19 : decode cL_refuses 19 = .ok (.ifCond .eq 13, 3) := by decide +kernel
theorem dL_refuses_22 : decode cL_refuses 22 = .ok (.bipush (-2), 2) := by decide +kernel
theorem dL_refuses_24 : decode cL_refuses 24 = .ok (.iload_n 2, 1) := by decide +kernel
theorem dL_refuses_25 : decode cL_refuses 25 = .ok (.bipush 50, 2) := by decide +kernel
theorem dL_refuses_27 : decode cL_refuses 27 = .ok (.irem, 1) := by decide +kernel
