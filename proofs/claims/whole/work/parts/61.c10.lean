set_option maxRecDepth 20000 in
theorem ggL_make_X2_make : GoodIn wsL_make wsX2_make := goodIn_ca (goodIn_ca (goodIn_ca (goodIn_r _ [8, 9, 10, 11, 12, 13, 14, 15, 16, 7, 17, 18, 19, 20, 21, 22, 23, 24, 25, 26, 27, 28, 29, 30, 31, 32, 33, 34, 35, 36, 37, 38, 39, 40, 41, 42, 43, 44, 45, 46, 47, 48, 49, 50, 51, 52, 53, 54, 55, 56, 57, 58, 59, 60, 61, 62, 63, 64, 65, 66, 67, 68, 69, 70, 71, 72, 73, 74, 75, 76, 77, 78, 79, 80, 81, 82, 83, 84, 85, 86, 87, 88] (by decide +kernel) (by decide +kernel)) (goodIn_sub (fun _ h => List.mem_cons_of_mem _ (List.mem_append_left _ (List.mem_append_left _ (List.mem_append_right _ h)))) (by decide +kernel))) (goodIn_sub (fun _ h => List.mem_cons_of_mem _ (List.mem_append_left _ (List.mem_append_right _ h))) (by decide +kernel))) (goodIn_sub (fun _ h => List.mem_cons_of_mem _ (List.mem_append_right _ h)) (by decide +kernel))
set_option maxRecDepth 20000 in
theorem gL_make_X2_make : GoodIn wsL_make (wsV RL 7 RX2 yX2_make wsX2_make) := goodIn_app (goodIn_of _ (by decide +kernel)) ggL_make_X2_make
theorem dL_make_0 : decode cL_make 0 = .ok (.aload 6, 2) := by decide +kernel
theorem dL_make_2 : decode cL_make 2 = .ok (.iconst 0, 1) := by decide +kernel
theorem dL_make_3 : decode cL_make 3 = .ok (.aload_n 0, 1) := by decide +kernel
theorem dL_make_4 : decode cL_make 4 = .ok (.iload_n 1, 1) := by decide +kernel
theorem dL_make_5 : decode cL_make 5 = .ok (.iload_n 2, 1) := by decide +kernel
theorem dL_make_6 : decode cL_make 6 = .ok (.iload_n 3, 1) := by decide +kernel
theorem dL_make_7 : decode cL_make 7 = .ok (.iload 4, 2) := by decide +kernel
theorem dL_make_9 : decode cL_make 9 = .ok (.iload 5, 2) := by decide +kernel
theorem dL_make_11 : decode cL_make 11 = .ok (.invokevirtual 7, 3) := by decide +kernel
theorem dL_make_14 : decode cL_make 14 = .ok (.i2l, 1) := by decide +kernel
theorem dL_make_15 : decode cL_make 15 = .ok (.lastore, 1) := by decide +kernel
theorem dL_make_16 : decode cL_make 16 = .ok (.goto 15, 3) := by decide +kernel
theorem dL_make_19 : decode cL_make 19 = .ok (.astore 7, 2) := by decide +kernel
theorem dL_make_21 : decode cL_make 21 = .ok (.iconst 1, 1) := by decide +kernel
theorem dL_make_22 : decode cL_make 22 = .ok (.ireturn, 1) := by decide +kernel
theorem dL_make_23 : decode cL_make 23 = .ok (.astore 7, 2) := by decide +kernel
theorem dL_make_25 : decode cL_make 25 = .ok (.iconst 2, 1) := by decide +kernel
theorem dL_make_26 : decode cL_make 26 = .ok (.ireturn, 1) := by decide +kernel
theorem dL_make_27 : decode cL_make 27 = .ok (.astore 7, 2) := by decide +kernel
theorem dL_make_29 : decode cL_make 29 = .ok (.iconst 3, 1) := by decide +kernel
theorem dL_make_30 : decode cL_make 30 = .ok (.ireturn, 1) := by decide +kernel
theorem dL_make_31 : decode cL_make 31 = .ok (.iconst 0, 1) := by decide +kernel
theorem dL_make_32 : decode cL_make 32 = .ok (.ireturn, 1) := by decide +kernel
set_option maxRecDepth 20000 in
theorem ggL_setRef_X2_setRef : GoodIn wsL_setRef wsX2_setRef := goodIn_ca (goodIn_r _ [6, 7, 8, 9, 5, 10, 11, 12, 13, 14, 15, 16, 17, 18, 19, 20, 21, 22, 23, 24, 25, 26, 27, 28, 29, 30, 31, 32, 33, 34, 35, 36, 37, 38, 39, 40, 41, 42, 43, 44, 45, 46, 47, 48, 49, 50, 51] (by decide +kernel) (by decide +kernel)) (goodIn_sub (fun _ h => List.mem_cons_of_mem _ (List.mem_append_right _ h)) (by decide +kernel))
set_option maxRecDepth 20000 in
theorem gL_setRef_X2_setRef : GoodIn wsL_setRef (wsV RL 19 RX2 yX2_setRef wsX2_setRef) := goodIn_app (goodIn_of _ (by decide +kernel)) ggL_setRef_X2_setRef
theorem dL_setRef_0 : decode cL_setRef 0 = .ok (.aload 4, 2) := by decide +kernel
theorem dL_setRef_2 : decode cL_setRef 2 = .ok (.iconst 0, 1) := by decide +kernel
theorem dL_setRef_3 : decode cL_setRef 3 = .ok (.aload_n 0, 1) := by decide +kernel
theorem dL_setRef_4 : decode cL_setRef 4 = .ok (.iload_n 1, 1) := by decide +kernel
theorem dL_setRef_5 : decode cL_setRef 5 = .ok (.iload_n 2, 1) := by decide +kernel
theorem dL_setRef_6 : decode cL_setRef 6 = .ok (.iload_n 3, 1) := by decide +kernel
theorem dL_setRef_7 : decode cL_setRef 7 = .ok (.invokevirtual 19, 3) := by decide +kernel
theorem dL_setRef_10 : decode cL_setRef 10 = .ok (.i2l, 1) := by decide +kernel
theorem dL_setRef_11 : decode cL_setRef 11 = .ok (.lastore, 1) := by decide +kernel
theorem dL_setRef_12 : decode cL_setRef 12 = .ok (.goto 7, 3) := by decide +kernel
theorem dL_setRef_15 : decode cL_setRef 15 = .ok (.astore 5, 2) := by decide +kernel
theorem dL_setRef_17 : decode cL_setRef 17 = .ok (.iconst 1, 1) := by decide +kernel
theorem dL_setRef_18 : decode cL_setRef 18 = .ok (.ireturn, 1) := by decide +kernel
theorem dL_setRef_19 : decode cL_setRef 19 = .ok (.iconst 0, 1) := by decide +kernel
theorem dL_setRef_20 : decode cL_setRef 20 = .ok (.ireturn, 1) := by decide +kernel
set_option maxRecDepth 20000 in
theorem ggL_ref_X2_ref : GoodIn wsL_ref wsX2_ref := goodIn_ca (goodIn_r _ [6, 7, 8, 9, 5, 10, 11, 12, 13, 14, 15, 16, 17, 18, 19, 20, 21, 22, 23, 24, 25, 26, 27, 28, 29, 30, 31, 32, 33, 34, 35, 36, 37, 38] (by decide +kernel) (by decide +kernel)) (goodIn_sub (fun _ h => List.mem_cons_of_mem _ (List.mem_append_right _ h)) (by decide +kernel))
set_option maxRecDepth 20000 in
theorem gL_ref_X2_ref : GoodIn wsL_ref (wsV RL 23 RX2 yX2_ref wsX2_ref) := goodIn_app (goodIn_of _ (by decide +kernel)) ggL_ref_X2_ref
theorem dL_ref_0 : decode cL_ref 0 = .ok (.aload_n 3, 1) := by decide +kernel
theorem dL_ref_1 : decode cL_ref 1 = .ok (.iconst 0, 1) := by decide +kernel
theorem dL_ref_2 : decode cL_ref 2 = .ok (.aload_n 0, 1) := by decide +kernel
theorem dL_ref_3 : decode cL_ref 3 = .ok (.iload_n 1, 1) := by decide +kernel
theorem dL_ref_4 : decode cL_ref 4 = .ok (.iload_n 2, 1) := by decide +kernel
theorem dL_ref_5 : decode cL_ref 5 = .ok (.invokevirtual 23, 3) := by decide +kernel
theorem dL_ref_8 : decode cL_ref 8 = .ok (.i2l, 1) := by decide +kernel
theorem dL_ref_9 : decode cL_ref 9 = .ok (.lastore, 1) := by decide +kernel
theorem dL_ref_10 : decode cL_ref 10 = .ok (.goto 7, 3) := by decide +kernel
theorem dL_ref_13 : decode cL_ref 13 = .ok (.astore 4, 2) := by decide +kernel
theorem dL_ref_15 : decode cL_ref 15 = .ok (.iconst 1, 1) := by decide +kernel
theorem dL_ref_16 : decode cL_ref 16 = .ok (.ireturn, 1) := by decide +kernel
theorem dL_ref_17 : decode cL_ref 17 = .ok (.iconst 0, 1) := by decide +kernel
theorem dL_ref_18 : decode cL_ref 18 = .ok (.ireturn, 1) := by decide +kernel
set_option maxRecDepth 20000 in
theorem ggL_fileAt_X2_fileAt : GoodIn wsL_fileAt wsX2_fileAt := goodIn_ca (goodIn_r _ [6, 7, 8, 9, 10, 5, 11, 12, 13, 14, 15, 16, 17, 18, 19, 20, 21, 22, 23, 24, 25, 26, 27, 28, 29, 30, 31, 32, 33, 34, 35, 36, 37, 38, 39, 40, 41, 42, 43, 44, 45, 46] (by decide +kernel) (by decide +kernel)) (goodIn_sub (fun _ h => List.mem_cons_of_mem _ (List.mem_append_right _ h)) (by decide +kernel))
set_option maxRecDepth 20000 in
theorem gL_fileAt_X2_fileAt : GoodIn wsL_fileAt (wsV RL 27 RX2 yX2_fileAt wsX2_fileAt) := goodIn_app (goodIn_of _ (by decide +kernel)) ggL_fileAt_X2_fileAt
theorem dL_fileAt_0 : decode cL_fileAt 0 = .ok (.aload_n 3, 1) := by decide +kernel
theorem dL_fileAt_1 : decode cL_fileAt 1 = .ok (.iconst 0, 1) := by decide +kernel
theorem dL_fileAt_2 : decode cL_fileAt 2 = .ok (.aload_n 0, 1) := by decide +kernel
theorem dL_fileAt_3 : decode cL_fileAt 3 = .ok (.iload_n 1, 1) := by decide +kernel
theorem dL_fileAt_4 : decode cL_fileAt 4 = .ok (.iload_n 2, 1) := by decide +kernel
theorem dL_fileAt_5 : decode cL_fileAt 5 = .ok (.invokevirtual 27, 3) := by decide +kernel
theorem dL_fileAt_8 : decode cL_fileAt 8 = .ok (.i2l, 1) := by decide +kernel
theorem dL_fileAt_9 : decode cL_fileAt 9 = .ok (.lastore, 1) := by decide +kernel
theorem dL_fileAt_10 : decode cL_fileAt 10 = .ok (.goto 7, 3) := by decide +kernel
theorem dL_fileAt_13 : decode cL_fileAt 13 = .ok (.astore 4, 2) := by decide +kernel
theorem dL_fileAt_15 : decode cL_fileAt 15 = .ok (.iconst 1, 1) := by decide +kernel
theorem dL_fileAt_16 : decode cL_fileAt 16 = .ok (.ireturn, 1) := by decide +kernel
theorem dL_fileAt_17 : decode cL_fileAt 17 = .ok (.iconst 0, 1) := by decide +kernel
theorem dL_fileAt_18 : decode cL_fileAt 18 = .ok (.ireturn, 1) := by decide +kernel
set_option maxRecDepth 20000 in
theorem ggL_fetch_X2_fetch : GoodIn wsL_fetch wsX2_fetch := goodIn_ca (goodIn_ca (goodIn_ca (goodIn_r _ [8, 9, 10, 11, 12, 13, 14, 15, 7, 16, 17, 18, 19, 20, 21, 22, 23, 24, 25, 26, 27, 28, 29, 30, 31, 32, 33, 34, 35, 36, 37, 38, 39, 40, 41, 42, 43, 44, 45, 46, 47, 48, 49, 50, 51, 52, 53, 54, 55, 56, 57, 58, 59, 60, 61, 62, 63, 64, 65, 66, 67, 68, 69, 70, 71, 72, 73, 74, 75, 76, 77, 78, 79, 80, 81, 82, 83, 84, 85, 86, 87, 88, 89, 90, 91, 92, 93, 94, 95, 96, 97, 98, 99, 100, 101, 102, 103, 104, 105, 106, 107, 108, 109, 110, 111, 112, 113, 114, 115, 116, 117, 118, 119, 120, 121, 122, 123, 124, 125, 126, 127, 128, 129, 130, 131, 132, 133, 134, 135, 136, 137, 138] (by decide +kernel) (by decide +kernel)) (goodIn_sub (fun _ h => List.mem_cons_of_mem _ (List.mem_append_left _ (List.mem_append_left _ (List.mem_append_right _ h)))) (by decide +kernel))) (goodIn_sub (fun _ h => List.mem_cons_of_mem _ (List.mem_append_left _ (List.mem_append_right _ h))) (by decide +kernel))) (goodIn_sub (fun _ h => List.mem_cons_of_mem _ (List.mem_append_right _ h)) (by decide +kernel))
set_option maxRecDepth 20000 in
theorem gL_fetch_X2_fetch : GoodIn wsL_fetch (wsV RL 30 RX2 yX2_fetch wsX2_fetch) := goodIn_app (goodIn_of _ (by decide +kernel)) ggL_fetch_X2_fetch
theorem dL_fetch_0 : decode cL_fetch 0 = .ok (.aload 4, 2) := by decide +kernel
theorem dL_fetch_2 : decode cL_fetch 2 = .ok (.iconst 0, 1) := by decide +kernel
theorem dL_fetch_3 : decode cL_fetch 3 = .ok (.aload_n 0, 1) := by decide +kernel
theorem dL_fetch_4 : decode cL_fetch 4 = .ok (.iload_n 1, 1) := by decide +kernel
theorem dL_fetch_5 : decode cL_fetch 5 = .ok (.iload_n 2, 1) := by decide +kernel
theorem dL_fetch_6 : decode cL_fetch 6 = .ok (.iload_n 3, 1) := by decide +kernel
theorem dL_fetch_7 : decode cL_fetch 7 = .ok (.invokevirtual 30, 3) := by decide +kernel
theorem dL_fetch_10 : decode cL_fetch 10 = .ok (.i2l, 1) := by decide +kernel
theorem dL_fetch_11 : decode cL_fetch 11 = .ok (.lastore, 1) := by decide +kernel
theorem dL_fetch_12 : decode cL_fetch 12 = .ok (.goto 15, 3) := by decide +kernel
theorem dL_fetch_15 : decode cL_fetch 15 = .ok (.astore 5, 2) := by decide +kernel
theorem dL_fetch_17 : decode cL_fetch 17 = .ok (.iconst 1, 1) := by decide +kernel
theorem dL_fetch_18 : decode cL_fetch 18 = .ok (.ireturn, 1) := by decide +kernel
theorem dL_fetch_19 : decode cL_fetch 19 = .ok (.astore 5, 2) := by decide +kernel
theorem dL_fetch_21 : decode cL_fetch 21 = .ok (.iconst 2, 1) := by decide +kernel
theorem dL_fetch_22 : decode cL_fetch 22 = .ok (.ireturn, 1) := by decide +kernel
theorem dL_fetch_23 : decode cL_fetch 23 = .ok (.astore 5, 2) := by decide +kernel
theorem dL_fetch_25 : decode cL_fetch 25 = .ok (.iconst 3, 1) := by decide +kernel
theorem dL_fetch_26 : decode cL_fetch 26 = .ok (.ireturn, 1) := by decide +kernel
theorem dL_fetch_27 : decode cL_fetch 27 = .ok (.iconst 0, 1) := by decide +kernel
theorem dL_fetch_28 : decode cL_fetch 28 = .ok (.ireturn, 1) := by decide +kernel
set_option maxRecDepth 20000 in
theorem ggL_wouldFetch_X2_wouldFetch : GoodIn wsL_wouldFetch wsX2_wouldFetch := goodIn_ca (goodIn_ca (goodIn_ca (goodIn_r _ [8, 9, 10, 11, 12, 13, 14, 7, 15, 16, 17, 18, 19, 20, 21, 22, 23, 24, 25, 26, 27, 28, 29, 30, 31, 32, 33, 34, 35, 36, 37, 38, 39, 40, 41, 42, 43, 44, 45, 46, 47, 48, 49, 50, 51, 52, 53, 54, 55, 56, 57, 58, 59, 60, 61, 62, 63, 64, 65, 66, 67, 68, 69, 70, 71, 72, 73, 74, 75, 76, 77, 78, 79, 80, 81, 82] (by decide +kernel) (by decide +kernel)) (goodIn_sub (fun _ h => List.mem_cons_of_mem _ (List.mem_append_left _ (List.mem_append_left _ (List.mem_append_right _ h)))) (by decide +kernel))) (goodIn_sub (fun _ h => List.mem_cons_of_mem _ (List.mem_append_left _ (List.mem_append_right _ h))) (by decide +kernel))) (goodIn_sub (fun _ h => List.mem_cons_of_mem _ (List.mem_append_right _ h)) (by decide +kernel))
set_option maxRecDepth 20000 in
theorem gL_wouldFetch_X2_wouldFetch : GoodIn wsL_wouldFetch (wsV RL 34 RX2 yX2_wouldFetch wsX2_wouldFetch) := goodIn_app (goodIn_of _ (by decide +kernel)) ggL_wouldFetch_X2_wouldFetch
theorem dL_wouldFetch_0 : decode cL_wouldFetch 0 = .ok (.aload_n 3, 1) := by decide +kernel
theorem dL_wouldFetch_1 : decode cL_wouldFetch 1 = .ok (.iconst 0, 1) := by decide +kernel
theorem dL_wouldFetch_2 : decode cL_wouldFetch 2 = .ok (.aload_n 0, 1) := by decide +kernel
theorem dL_wouldFetch_3 : decode cL_wouldFetch 3 = .ok (.iload_n 1, 1) := by decide +kernel
theorem dL_wouldFetch_4 : decode cL_wouldFetch 4 = .ok (.iload_n 2, 1) := by decide +kernel
theorem dL_wouldFetch_5 : decode cL_wouldFetch 5 = .ok (.invokevirtual 34, 3) := by decide +kernel
theorem dL_wouldFetch_8 : decode cL_wouldFetch 8 = .ok (.i2l, 1) := by decide +kernel
theorem dL_wouldFetch_9 : decode cL_wouldFetch 9 = .ok (.lastore, 1) := by decide +kernel
theorem dL_wouldFetch_10 : decode cL_wouldFetch 10 = .ok (.goto 15, 3) := by decide +kernel
theorem dL_wouldFetch_13 : decode cL_wouldFetch 13 = .ok (.astore 4, 2) := by decide +kernel
theorem dL_wouldFetch_15 : decode cL_wouldFetch 15 = .ok (.iconst 1, 1) := by decide +kernel
theorem dL_wouldFetch_16 : decode cL_wouldFetch 16 = .ok (.ireturn, 1) := by decide +kernel
theorem dL_wouldFetch_17 : decode cL_wouldFetch 17 = .ok (.astore 4, 2) := by decide +kernel
theorem dL_wouldFetch_19 : decode cL_wouldFetch 19 = .ok (.iconst 2, 1) := by decide +kernel
theorem dL_wouldFetch_20 : decode cL_wouldFetch 20 = .ok (.ireturn, 1) := by decide +kernel
theorem dL_wouldFetch_21 : decode cL_wouldFetch 21 = .ok (.astore 4, 2) := by decide +kernel
theorem dL_wouldFetch_23 : decode cL_wouldFetch 23 = .ok (.iconst 3, 1) := by decide +kernel
theorem dL_wouldFetch_24 : decode cL_wouldFetch 24 = .ok (.ireturn, 1) := by decide +kernel
theorem dL_wouldFetch_25 : decode cL_wouldFetch 25 = .ok (.iconst 0, 1) := by decide +kernel
theorem dL_wouldFetch_26 : decode cL_wouldFetch 26 = .ok (.ireturn, 1) := by decide +kernel
set_option maxRecDepth 20000 in
theorem ggL_load_X2_load : GoodIn wsL_load wsX2_load := goodIn_ca (goodIn_ca (goodIn_r _ [7, 8, 9, 10, 11, 12, 13, 6, 14, 15, 16, 17, 18, 19, 20, 21, 22, 23, 24, 25, 26, 27, 28, 29, 30, 31, 32, 33, 34, 35, 36, 37, 38, 39, 40, 41] (by decide +kernel) (by decide +kernel)) (goodIn_sub (fun _ h => List.mem_cons_of_mem _ (List.mem_append_left _ (List.mem_append_right _ h))) (by decide +kernel))) (goodIn_sub (fun _ h => List.mem_cons_of_mem _ (List.mem_append_right _ h)) (by decide +kernel))
set_option maxRecDepth 20000 in
theorem gL_load_X2_load : GoodIn wsL_load (wsV RL 37 RX2 yX2_load wsX2_load) := goodIn_app (goodIn_of _ (by decide +kernel)) ggL_load_X2_load
theorem dL_load_0 : decode cL_load 0 = .ok (.aload_n 2, 1) := by decide +kernel
theorem dL_load_1 : decode cL_load 1 = .ok (.iconst 0, 1) := by decide +kernel
theorem dL_load_2 : decode cL_load 2 = .ok (.aload_n 0, 1) := by decide +kernel
theorem dL_load_3 : decode cL_load 3 = .ok (.iload_n 1, 1) := by decide +kernel
theorem dL_load_4 : decode cL_load 4 = .ok (.invokevirtual 37, 3) := by decide +kernel
theorem dL_load_7 : decode cL_load 7 = .ok (.ifCond .eq 7, 3) := by decide +kernel
theorem dL_load_10 : decode cL_load 10 = .ok (.lconst 1, 1) := by decide +kernel
theorem dL_load_11 : decode cL_load 11 = .ok (.goto 4, 3) := by decide +kernel
theorem dL_load_14 : decode cL_load 14 = .ok (.lconst 0, 1) := by decide +kernel
theorem dL_load_15 : decode cL_load 15 = .ok (.lastore, 1) := by decide +kernel
theorem dL_load_16 : decode cL_load 16 = .ok (.goto 9, 3) := by decide +kernel
theorem dL_load_19 : decode cL_load 19 = .ok (.astore_n 3, 1) := by decide +kernel
theorem dL_load_20 : decode cL_load 20 = .ok (.iconst 1, 1) := by decide +kernel
theorem dL_load_21 : decode cL_load 21 = .ok (.ireturn, 1) := by decide +kernel
theorem dL_load_22 : decode cL_load 22 = .ok (.astore_n 3, 1) := by decide +kernel
theorem dL_load_23 : decode cL_load 23 = .ok (.iconst 2, 1) := by decide +kernel
theorem dL_load_24 : decode cL_load 24 = .ok (.ireturn, 1) := by decide +kernel
theorem dL_load_25 : decode cL_load 25 = .ok (.iconst 0, 1) := by decide +kernel
theorem dL_load_26 : decode cL_load 26 = .ok (.ireturn, 1) := by decide +kernel
set_option maxRecDepth 20000 in
theorem ggL_protect_X2_protect : GoodIn wsL_protect wsX2_protect := goodIn_ca (goodIn_r _ [6, 7, 8, 9, 5, 10, 11, 12, 13, 14, 15, 16, 17, 18, 19, 20, 21, 22, 23, 24] (by decide +kernel) (by decide +kernel)) (goodIn_sub (fun _ h => List.mem_cons_of_mem _ (List.mem_append_right _ h)) (by decide +kernel))
set_option maxRecDepth 20000 in
theorem gL_protect_X2_protect : GoodIn wsL_protect (wsV RL 41 RX2 yX2_protect wsX2_protect) := goodIn_app (goodIn_of _ (by decide +kernel)) ggL_protect_X2_protect
theorem dL_protect_0 : decode cL_protect 0 = .ok (.aload_n 3, 1) := by decide +kernel
theorem dL_protect_1 : decode cL_protect 1 = .ok (.iconst 0, 1) := by decide +kernel
theorem dL_protect_2 : decode cL_protect 2 = .ok (.aload_n 0, 1) := by decide +kernel
theorem dL_protect_3 : decode cL_protect 3 = .ok (.iload_n 1, 1) := by decide +kernel
theorem dL_protect_4 : decode cL_protect 4 = .ok (.iload_n 2, 1) := by decide +kernel
theorem dL_protect_5 : decode cL_protect 5 = .ok (.invokevirtual 41, 3) := by decide +kernel
theorem dL_protect_8 : decode cL_protect 8 = .ok (.ifCond .eq 7, 3) := by decide +kernel
theorem dL_protect_11 : decode cL_protect 11 = .ok (.lconst 1, 1) := by decide +kernel
theorem dL_protect_12 : decode cL_protect 12 = .ok (.goto 4, 3) := by decide +kernel
theorem dL_protect_15 : decode cL_protect 15 = .ok (.lconst 0, 1) := by decide +kernel
theorem dL_protect_16 : decode cL_protect 16 = .ok (.lastore, 1) := by decide +kernel
theorem dL_protect_17 : decode cL_protect 17 = .ok (.goto 7, 3) := by decide +kernel
theorem dL_protect_20 : decode cL_protect 20 = .ok (.astore 4, 2) := by decide +kernel
theorem dL_protect_22 : decode cL_protect 22 = .ok (.iconst 1, 1) := by decide +kernel
theorem dL_protect_23 : decode cL_protect 23 = .ok (.ireturn, 1) := by decide +kernel
theorem dL_protect_24 : decode cL_protect 24 = .ok (.iconst 0, 1) := by decide +kernel
theorem dL_protect_25 : decode cL_protect 25 = .ok (.ireturn, 1) := by decide +kernel
set_option maxRecDepth 20000 in
theorem ggL_move_X2_move : GoodIn wsL_move wsX2_move := goodIn_ca (goodIn_ca (goodIn_r _ [7, 8, 9, 10, 11, 12, 13, 14, 15, 6, 16, 17, 18, 19, 20, 21, 22, 23, 24, 25, 26, 27, 28, 29, 30, 31, 32, 33, 34, 35, 36, 37, 38, 39, 40, 41, 42, 43, 44, 45, 46, 47, 48, 49, 50, 51] (by decide +kernel) (by decide +kernel)) (goodIn_sub (fun _ h => List.mem_cons_of_mem _ (List.mem_append_left _ (List.mem_append_right _ h))) (by decide +kernel))) (goodIn_sub (fun _ h => List.mem_cons_of_mem _ (List.mem_append_right _ h)) (by decide +kernel))
set_option maxRecDepth 20000 in
theorem gL_move_X2_move : GoodIn wsL_move (wsV RL 45 RX2 yX2_move wsX2_move) := goodIn_app (goodIn_of _ (by decide +kernel)) ggL_move_X2_move
theorem dL_move_0 : decode cL_move 0 = .ok (.aload 4, 2) := by decide +kernel
theorem dL_move_2 : decode cL_move 2 = .ok (.iconst 0, 1) := by decide +kernel
theorem dL_move_3 : decode cL_move 3 = .ok (.aload_n 0, 1) := by decide +kernel
theorem dL_move_4 : decode cL_move 4 = .ok (.iload_n 1, 1) := by decide +kernel
theorem dL_move_5 : decode cL_move 5 = .ok (.iload_n 2, 1) := by decide +kernel
theorem dL_move_6 : decode cL_move 6 = .ok (.iload_n 3, 1) := by decide +kernel
theorem dL_move_7 : decode cL_move 7 = .ok (.invokevirtual 45, 3) := by decide +kernel
theorem dL_move_10 : decode cL_move 10 = .ok (.i2l, 1) := by decide +kernel
theorem dL_move_11 : decode cL_move 11 = .ok (.lastore, 1) := by decide +kernel
theorem dL_move_12 : decode cL_move 12 = .ok (.goto 11, 3) := by decide +kernel
theorem dL_move_15 : decode cL_move 15 = .ok (.astore 5, 2) := by decide +kernel
theorem dL_move_17 : decode cL_move 17 = .ok (.iconst 1, 1) := by decide +kernel
theorem dL_move_18 : decode cL_move 18 = .ok (.ireturn, 1) := by decide +kernel
theorem dL_move_19 : decode cL_move 19 = .ok (.astore 5, 2) := by decide +kernel
theorem dL_move_21 : decode cL_move 21 = .ok (.iconst 2, 1) := by decide +kernel
theorem dL_move_22 : decode cL_move 22 = .ok (.ireturn, 1) := by decide +kernel
theorem dL_move_23 : decode cL_move 23 = .ok (.iconst 0, 1) := by decide +kernel
theorem dL_move_24 : decode cL_move 24 = .ok (.ireturn, 1) := by decide +kernel
set_option maxRecDepth 20000 in
theorem ggL_collect_X2_collect : GoodIn wsL_collect wsX2_collect := goodIn_ca (goodIn_r _ [6, 7, 8, 9, 10, 11, 5, 12, 13, 14, 15, 16, 17, 18, 19, 20, 21, 22, 23, 24, 25, 26, 27, 28, 29, 30, 31, 32, 33, 34, 35, 36, 37, 38, 39, 40, 41, 42, 43, 44, 45, 46, 47, 48, 49, 50, 51, 52, 53, 54, 55, 56, 57, 58, 59, 60, 61, 62, 63, 64, 65, 66, 67, 68, 69, 70, 71, 72, 73, 74, 75, 76, 77, 78, 79, 80, 81, 82, 83, 84, 85, 86, 87, 88, 89, 90, 91, 92, 93, 94, 95, 96] (by decide +kernel) (by decide +kernel)) (goodIn_sub (fun _ h => List.mem_cons_of_mem _ (List.mem_append_right _ h)) (by decide +kernel))
set_option maxRecDepth 20000 in
theorem gL_collect_X2_collect : GoodIn wsL_collect (wsV RL 48 RX2 yX2_collect wsX2_collect) := goodIn_app (goodIn_of _ (by decide +kernel)) ggL_collect_X2_collect
theorem dL_collect_0 : decode cL_collect 0 = .ok (.aload_n 2, 1) := by decide +kernel
theorem dL_collect_1 : decode cL_collect 1 = .ok (.iconst 0, 1) := by decide +kernel
theorem dL_collect_2 : decode cL_collect 2 = .ok (.aload_n 0, 1) := by decide +kernel
theorem dL_collect_3 : decode cL_collect 3 = .ok (.iload_n 1, 1) := by decide +kernel
theorem dL_collect_4 : decode cL_collect 4 = .ok (.invokevirtual 48, 3) := by decide +kernel
theorem dL_collect_7 : decode cL_collect 7 = .ok (.i2l, 1) := by decide +kernel
theorem dL_collect_8 : decode cL_collect 8 = .ok (.lastore, 1) := by decide +kernel
theorem dL_collect_9 : decode cL_collect 9 = .ok (.goto 6, 3) := by decide +kernel
theorem dL_collect_12 : decode cL_collect 12 = .ok (.astore_n 3, 1) := by decide +kernel
theorem dL_collect_13 : decode cL_collect 13 = .ok (.iconst 1, 1) := by decide +kernel
theorem dL_collect_14 : decode cL_collect 14 = .ok (.ireturn, 1) := by decide +kernel
theorem dL_collect_15 : decode cL_collect 15 = .ok (.iconst 0, 1) := by decide +kernel
theorem dL_collect_16 : decode cL_collect 16 = .ok (.ireturn, 1) := by decide +kernel
set_option maxRecDepth 20000 in
theorem ggL_has_X2_has : GoodIn wsL_has wsX2_has := goodIn_ca (goodIn_r _ [6, 7, 8, 9, 5, 10, 11, 12, 13, 14, 15, 16, 17, 18, 19, 20, 21, 22, 23, 24, 25, 26, 27, 28, 29, 30, 31, 32, 33, 34, 35, 36, 37, 38, 39, 40, 41, 42, 43, 44, 45, 46, 47, 48, 49] (by decide +kernel) (by decide +kernel)) (goodIn_sub (fun _ h => List.mem_cons_of_mem _ (List.mem_append_right _ h)) (by decide +kernel))
set_option maxRecDepth 20000 in
theorem gL_has_X2_has : GoodIn wsL_has (wsV RL 52 RX2 yX2_has wsX2_has) := goodIn_app (goodIn_of _ (by decide +kernel)) ggL_has_X2_has
theorem dL_has_0 : decode cL_has 0 = .ok (.aload_n 3, 1) := by decide +kernel
theorem dL_has_1 : decode cL_has 1 = .ok (.iconst 0, 1) := by decide +kernel
theorem dL_has_2 : decode cL_has 2 = .ok (.aload_n 0, 1) := by decide +kernel
theorem dL_has_3 : decode cL_has 3 = .ok (.iload_n 1, 1) := by decide +kernel
theorem dL_has_4 : decode cL_has 4 = .ok (.iload_n 2, 1) := by decide +kernel
theorem dL_has_5 : decode cL_has 5 = .ok (.invokevirtual 52, 3) := by decide +kernel
theorem dL_has_8 : decode cL_has 8 = .ok (.ifCond .eq 7, 3) := by decide +kernel
theorem dL_has_11 : decode cL_has 11 = .ok (.lconst 1, 1) := by decide +kernel
theorem dL_has_12 : decode cL_has 12 = .ok (.goto 4, 3) := by decide +kernel
theorem dL_has_15 : decode cL_has 15 = .ok (.lconst 0, 1) := by decide +kernel
theorem dL_has_16 : decode cL_has 16 = .ok (.lastore, 1) := by decide +kernel
theorem dL_has_17 : decode cL_has 17 = .ok (.goto 7, 3) := by decide +kernel
theorem dL_has_20 : decode cL_has 20 = .ok (.astore 4, 2) := by decide +kernel
theorem dL_has_22 : decode cL_has 22 = .ok (.iconst 1, 1) := by decide +kernel
theorem dL_has_23 : decode cL_has 23 = .ok (.ireturn, 1) := by decide +kernel
theorem dL_has_24 : decode cL_has 24 = .ok (.iconst 0, 1) := by decide +kernel
theorem dL_has_25 : decode cL_has 25 = .ok (.ireturn, 1) := by decide +kernel
set_option maxRecDepth 20000 in
theorem ggL_hasFile_X2_hasFile : GoodIn wsL_hasFile wsX2_hasFile := goodIn_ca (goodIn_ca (goodIn_r _ [7, 8, 9, 10, 6, 11, 12, 13, 14, 15, 16, 17, 18, 19, 20, 21, 22, 23, 24, 25, 26, 27, 28, 29, 30, 31, 32, 33, 34, 35, 36, 37, 38, 39, 40, 41] (by decide +kernel) (by decide +kernel)) (goodIn_sub (fun _ h => List.mem_cons_of_mem _ (List.mem_append_left _ (List.mem_append_right _ h))) (by decide +kernel))) (goodIn_sub (fun _ h => List.mem_cons_of_mem _ (List.mem_append_right _ h)) (by decide +kernel))
set_option maxRecDepth 20000 in
theorem gL_hasFile_X2_hasFile : GoodIn wsL_hasFile (wsV RL 56 RX2 yX2_hasFile wsX2_hasFile) := goodIn_app (goodIn_of _ (by decide +kernel)) ggL_hasFile_X2_hasFile
theorem dL_hasFile_0 : decode cL_hasFile 0 = .ok (.aload_n 3, 1) := by decide +kernel
theorem dL_hasFile_1 : decode cL_hasFile 1 = .ok (.iconst 0, 1) := by decide +kernel
theorem dL_hasFile_2 : decode cL_hasFile 2 = .ok (.aload_n 0, 1) := by decide +kernel
theorem dL_hasFile_3 : decode cL_hasFile 3 = .ok (.iload_n 1, 1) := by decide +kernel
theorem dL_hasFile_4 : decode cL_hasFile 4 = .ok (.iload_n 2, 1) := by decide +kernel
theorem dL_hasFile_5 : decode cL_hasFile 5 = .ok (.invokevirtual 56, 3) := by decide +kernel
theorem dL_hasFile_8 : decode cL_hasFile 8 = .ok (.ifCond .eq 7, 3) := by decide +kernel
theorem dL_hasFile_11 : decode cL_hasFile 11 = .ok (.lconst 1, 1) := by decide +kernel
theorem dL_hasFile_12 : decode cL_hasFile 12 = .ok (.goto 4, 3) := by decide +kernel
theorem dL_hasFile_15 : decode cL_hasFile 15 = .ok (.lconst 0, 1) := by decide +kernel
theorem dL_hasFile_16 : decode cL_hasFile 16 = .ok (.lastore, 1) := by decide +kernel
theorem dL_hasFile_17 : decode cL_hasFile 17 = .ok (.goto 11, 3) := by decide +kernel
theorem dL_hasFile_20 : decode cL_hasFile 20 = .ok (.astore 4, 2) := by decide +kernel
theorem dL_hasFile_22 : decode cL_hasFile 22 = .ok (.iconst 1, 1) := by decide +kernel
theorem dL_hasFile_23 : decode cL_hasFile 23 = .ok (.ireturn, 1) := by decide +kernel
theorem dL_hasFile_24 : decode cL_hasFile 24 = .ok (.astore 4, 2) := by decide +kernel
theorem dL_hasFile_26 : decode cL_hasFile 26 = .ok (.iconst 2, 1) := by decide +kernel
theorem dL_hasFile_27 : decode cL_hasFile 27 = .ok (.ireturn, 1) := by decide +kernel
theorem dL_hasFile_28 : decode cL_hasFile 28 = .ok (.iconst 0, 1) := by decide +kernel
theorem dL_hasFile_29 : decode cL_hasFile 29 = .ok (.ireturn, 1) := by decide +kernel
set_option maxRecDepth 20000 in
theorem ggL_isShallow_X2_isShallow : GoodIn wsL_isShallow wsX2_isShallow := goodIn_ca (goodIn_r _ [6, 7, 8, 9, 10, 11, 5, 12, 13, 14, 15, 16, 17, 18, 19, 20, 21, 22, 23, 24, 25, 26, 27, 28, 29, 30, 31, 32, 33, 34, 35, 36, 37, 38, 39, 40, 41, 42, 43, 44, 45, 46, 47, 48, 49, 50, 51, 52, 53, 54, 55, 56] (by decide +kernel) (by decide +kernel)) (goodIn_sub (fun _ h => List.mem_cons_of_mem _ (List.mem_append_right _ h)) (by decide +kernel))
set_option maxRecDepth 20000 in
theorem gL_isShallow_X2_isShallow : GoodIn wsL_isShallow (wsV RL 59 RX2 yX2_isShallow wsX2_isShallow) := goodIn_app (goodIn_of _ (by decide +kernel)) ggL_isShallow_X2_isShallow
theorem dL_isShallow_0 : decode cL_isShallow 0 = .ok (.aload_n 2, 1) := by decide +kernel
theorem dL_isShallow_1 : decode cL_isShallow 1 = .ok (.iconst 0, 1) := by decide +kernel
theorem dL_isShallow_2 : decode cL_isShallow 2 = .ok (.aload_n 0, 1) := by decide +kernel
theorem dL_isShallow_3 : decode cL_isShallow 3 = .ok (.iload_n 1, 1) := by decide +kernel
theorem dL_isShallow_4 : decode cL_isShallow 4 = .ok (.invokevirtual 59, 3) := by decide +kernel
theorem dL_isShallow_7 : decode cL_isShallow 7 = .ok (.ifCond .eq 7, 3) := by decide +kernel
theorem dL_isShallow_10 : decode cL_isShallow 10 = .ok (.lconst 1, 1) := by decide +kernel
theorem dL_isShallow_11 : decode cL_isShallow 11 = .ok (.goto 4, 3) := by decide +kernel
theorem dL_isShallow_14 : decode cL_isShallow 14 = .ok (.lconst 0, 1) := by decide +kernel
theorem dL_isShallow_15 : decode cL_isShallow 15 = .ok (.lastore, 1) := by decide +kernel
theorem dL_isShallow_16 : decode cL_isShallow 16 = .ok (.goto 6, 3) := by decide +kernel
theorem dL_isShallow_19 : decode cL_isShallow 19 = .ok (.astore_n 3, 1) := by decide +kernel
theorem dL_isShallow_20 : decode cL_isShallow 20 = .ok (.iconst 1, 1) := by decide +kernel
theorem dL_isShallow_21 : decode cL_isShallow 21 = .ok (.ireturn, 1) := by decide +kernel
theorem dL_isShallow_22 : decode cL_isShallow 22 = .ok (.iconst 0, 1) := by decide +kernel
theorem dL_isShallow_23 : decode cL_isShallow 23 = .ok (.ireturn, 1) := by decide +kernel
set_option maxRecDepth 20000 in
theorem ggL_isAncestor_X2_isAncestor : GoodIn wsL_isAncestor wsX2_isAncestor := goodIn_ca (goodIn_r _ [6, 7, 8, 9, 10, 5, 11, 12, 13, 14, 15, 16, 17, 18, 19, 20, 21, 22, 23, 24, 25, 26, 27, 28, 29, 30, 31, 32, 33, 34, 35, 36, 37, 38, 39, 40, 41, 42, 43, 44, 45, 46, 47, 48, 49, 50, 51, 52, 53, 54, 55, 56, 57, 58, 59, 60, 61, 62, 63, 64, 65] (by decide +kernel) (by decide +kernel)) (goodIn_sub (fun _ h => List.mem_cons_of_mem _ (List.mem_append_right _ h)) (by decide +kernel))
set_option maxRecDepth 20000 in
theorem gL_isAncestor_X2_isAncestor : GoodIn wsL_isAncestor (wsV RL 62 RX2 yX2_isAncestor wsX2_isAncestor) := goodIn_app (goodIn_of _ (by decide +kernel)) ggL_isAncestor_X2_isAncestor
theorem dL_isAncestor_0 : decode cL_isAncestor 0 = .ok (.aload 4, 2) := by decide +kernel
theorem dL_isAncestor_2 : decode cL_isAncestor 2 = .ok (.iconst 0, 1) := by decide +kernel
theorem dL_isAncestor_3 : decode cL_isAncestor 3 = .ok (.aload_n 0, 1) := by decide +kernel
theorem dL_isAncestor_4 : decode cL_isAncestor 4 = .ok (.iload_n 1, 1) := by decide +kernel
theorem dL_isAncestor_5 : decode cL_isAncestor 5 = .ok (.iload_n 2, 1) := by decide +kernel
theorem dL_isAncestor_6 : decode cL_isAncestor 6 = .ok (.iload_n 3, 1) := by decide +kernel
theorem dL_isAncestor_7 : decode cL_isAncestor 7 = .ok (.invokevirtual 62, 3) := by decide +kernel
theorem dL_isAncestor_10 : decode cL_isAncestor 10 = .ok (.ifCond .eq 7, 3) := by decide +kernel
theorem dL_isAncestor_13 : decode cL_isAncestor 13 = .ok (.lconst 1, 1) := by decide +kernel
theorem dL_isAncestor_14 : decode cL_isAncestor 14 = .ok (.goto 4, 3) := by decide +kernel
theorem dL_isAncestor_17 : decode cL_isAncestor 17 = .ok (.lconst 0, 1) := by decide +kernel
theorem dL_isAncestor_18 : decode cL_isAncestor 18 = .ok (.lastore, 1) := by decide +kernel
theorem dL_isAncestor_19 : decode cL_isAncestor 19 = .ok (.goto 7, 3) := by decide +kernel
theorem dL_isAncestor_22 : decode cL_isAncestor 22 = .ok (.astore 5, 2) := by decide +kernel
theorem dL_isAncestor_24 : decode cL_isAncestor 24 = .ok (.iconst 1, 1) := by decide +kernel
theorem dL_isAncestor_25 : decode cL_isAncestor 25 = .ok (.ireturn, 1) := by decide +kernel
theorem dL_isAncestor_26 : decode cL_isAncestor 26 = .ok (.iconst 0, 1) := by decide +kernel
theorem dL_isAncestor_27 : decode cL_isAncestor 27 = .ok (.ireturn, 1) := by decide +kernel
