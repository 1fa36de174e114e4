theorem dL_holds_361 : decode cL_holds 361 = .ok (.goto (-43), 3) := by decide +kernel
theorem dL_holds_364 : decode cL_holds 364 = .ok (.aload_n 0, 1) := by decide +kernel
theorem dL_holds_365 : decode cL_holds 365 = .ok (.iload 5, 2) := by decide +kernel
theorem dL_holds_367 : decode cL_holds 367 = .ok (.iconst 1, 1) := by decide +kernel
theorem dL_holds_368 : decode cL_holds 368 = .ok (.invokestatic 95, 3) := by decide +kernel
theorem dL_holds_371 : decode cL_holds 371 = .ok (.istore 9, 2) := by decide +kernel
theorem dL_holds_373 : decode cL_holds 373 = .ok (.aload_n 0, 1) := by decide +kernel
theorem dL_holds_374 : decode cL_holds 374 = .ok (.iload 5, 2) := by decide +kernel
theorem dL_holds_376 : decode cL_holds 376 = .ok (.iconst 1, 1) := by decide +kernel
theorem dL_holds_377 : decode cL_holds 377 = .ok (.iload_n 1, 1) := by decide +kernel
theorem dL_holds_378 : decode cL_holds 378 = .ok (.bipush 7, 2) := by decide +kernel
theorem dL_holds_380 : decode cL_holds 380 = .ok (.irem, 1) := by decide +kernel
theorem dL_holds_381 : decode cL_holds 381 = .ok (.iadd, 1) := by decide +kernel
theorem dL_holds_382 : decode cL_holds 382 = .ok (.invokestatic 95, 3) := by decide +kernel
theorem dL_holds_385 : decode cL_holds 385 = .ok (.istore 10, 2) := by decide +kernel
theorem dL_holds_387 : decode cL_holds 387 = .ok (.aload_n 0, 1) := by decide +kernel
theorem dL_holds_388 : decode cL_holds 388 = .ok (.iload 5, 2) := by decide +kernel
theorem dL_holds_390 : decode cL_holds 390 = .ok (.iconst 0, 1) := by decide +kernel
theorem dL_holds_391 : decode cL_holds 391 = .ok (.invokestatic 95, 3) := by decide +kernel
theorem dL_holds_394 : decode cL_holds 394 = .ok (.iload 8, 2) := by decide +kernel
theorem dL_holds_396 : decode cL_holds 396 = .ok (.if_icmp .ne 48, 3) := by decide +kernel
theorem dL_holds_399 : decode cL_holds 399 = .ok (.aload_n 0, 1) := by decide +kernel
theorem dL_holds_400 : decode cL_holds 400 = .ok (.iload 5, 2) := by decide +kernel
theorem dL_holds_402 : decode cL_holds 402 = .ok (.bipush 60, 2) := by decide +kernel
theorem dL_holds_404 : decode cL_holds 404 = .ok (.invokestatic 95, 3) := by decide +kernel
theorem dL_holds_407 : decode cL_holds 407 = .ok (.iload 8, 2) := by decide +kernel
theorem dL_holds_409 : decode cL_holds 409 = .ok (.if_icmp .ne 35, 3) := by decide +kernel
theorem dL_holds_412 : decode cL_holds 412 = .ok (.iload 9, 2) := by decide +kernel
theorem dL_holds_414 : decode cL_holds 414 = .ok (.iconst 1, 1) := by decide +kernel
theorem dL_holds_415 : decode cL_holds 415 = .ok (.aload_n 0, 1) := by decide +kernel
theorem dL_holds_416 : decode cL_holds 416 = .ok (.iconst 1, 1) := by decide +kernel
theorem dL_holds_417 : decode cL_holds 417 = .ok (.iload 6, 2) := by decide +kernel
theorem dL_holds_419 : decode cL_holds 419 = .ok (.invokestatic 112, 3) := by decide +kernel
theorem dL_holds_422 : decode cL_holds 422 = .ok (.isub, 1) := by decide +kernel
theorem dL_holds_423 : decode cL_holds 423 = .ok (.if_icmp .ne 21, 3) := by decide +kernel
theorem dL_holds_426 : decode cL_holds 426 = .ok (.iload 10, 2) := by decide +kernel
theorem dL_holds_428 : decode cL_holds 428 = .ok (.iload 9, 2) := by decide +kernel
theorem dL_holds_430 : decode cL_holds 430 = .ok (.if_icmp .lt 14, 3) := by decide +kernel
theorem dL_holds_433 : decode cL_holds 433 = .ok (.iload 10, 2) := by decide +kernel
theorem dL_holds_435 : decode cL_holds 435 = .ok (.iload 8, 2) := by decide +kernel
theorem dL_holds_437 : decode cL_holds 437 = .ok (.if_icmp .gt 7, 3) := by decide +kernel
theorem dL_holds_440 : decode cL_holds 440 = .ok (.iconst 1, 1) := by decide +kernel
theorem dL_holds_441 : decode cL_holds 441 = .ok (.goto 4, 3) := by decide +kernel
theorem dL_holds_444 : decode cL_holds 444 = .ok (.iconst 0, 1) := by decide +kernel
theorem dL_holds_445 : decode cL_holds 445 = .ok (.istore_n 3, 1) := by decide +kernel
theorem dL_holds_446 : decode cL_holds 446 = .ok (.iinc 5 1, 3) := by decide +kernel
theorem dL_holds_449 : decode cL_holds 449 = .ok (.goto (-212), 3) := by decide +kernel
theorem dL_holds_452 : decode cL_holds 452 = .ok (.iload_n 3, 1) := by decide +kernel
theorem dL_holds_453 : decode cL_holds 453 = .ok (.ireturn, 1) := by decide +kernel
set_option maxRecDepth 20000 in
theorem ggL_fetched_L_ref : GoodIn wsL_fetched wsL_ref := goodIn_ca (goodIn_r _ [4, 5, 6, 7, 8, 9, 10, 11, 12, 13, 14, 15, 16, 17, 18, 19, 20, 21, 22, 23, 24, 25, 26, 27, 28, 29, 30, 31, 220, 221, 222, 223, 224, 225, 226, 227, 228, 229, 230, 231] (by decide +kernel) (by decide +kernel)) (goodIn_sub (fun _ h => List.mem_cons_of_mem _ (List.mem_append_left _ (List.mem_append_left _ (List.mem_append_right _ h)))) (by decide +kernel))
set_option maxRecDepth 20000 in
theorem gL_fetched_L_ref : GoodIn wsL_fetched (va_wsS RL 85 yL_ref wsL_ref) := goodIn_app (goodIn_of _ (by decide +kernel)) ggL_fetched_L_ref
set_option maxRecDepth 20000 in
theorem ggL_fetched_L_would : GoodIn wsL_fetched wsL_would := goodIn_ca (goodIn_ca (goodIn_ca (goodIn_r _ [34, 5, 35, 36, 6, 37, 38, 39, 40, 41, 10, 42, 43, 19, 44, 45, 46, 47, 48, 49, 50, 51, 52, 18, 20, 21, 22, 16, 17, 23, 24, 25, 26, 27, 28, 29, 30, 31, 53, 54, 55, 56, 57, 58, 59, 60, 61, 62, 63, 64, 65, 66, 67, 68, 69, 70, 71, 72, 73, 74, 75, 76, 77, 78, 79, 80, 81, 82, 220, 221, 222, 223, 224, 225, 226, 227, 228, 229, 230, 231, 232, 233, 234, 235, 236, 237] (by decide +kernel) (by decide +kernel)) (goodIn_sub (fun _ h => List.mem_cons_of_mem _ (List.mem_append_left _ (List.mem_append_right _ h))) (by decide +kernel))) (goodIn_sub (fun _ h => List.mem_cons_of_mem _ (List.mem_append_right _ h)) (by decide +kernel))) (goodIn_sub (fun _ h => List.mem_cons_of_mem _ (List.mem_append_left _ (List.mem_append_left _ (List.mem_append_right _ h)))) (by decide +kernel))
set_option maxRecDepth 20000 in
theorem gL_fetched_L_would : GoodIn wsL_fetched (va_wsS RL 95 yL_would wsL_would) := goodIn_app (goodIn_of _ (by decide +kernel)) ggL_fetched_L_would
set_option maxRecDepth 20000 in
theorem ggL_fetched_X2_missing : GoodIn wsL_fetched wsX2_missing := goodIn_r _ [86, 19, 43, 87, 88, 89, 56, 90, 91, 65, 92, 10, 93, 94, 70, 71, 95, 96, 97, 98, 99, 100, 101, 102, 103, 61, 62, 63, 64, 104, 105, 106, 107, 108, 109, 110, 29, 111, 112, 220, 221, 222, 223, 224, 225, 226, 227, 228, 229, 230, 231, 232, 233, 234, 235, 236, 237] (by decide +kernel) (by decide +kernel)
set_option maxRecDepth 20000 in
theorem gL_fetched_X2_missing : GoodIn wsL_fetched (wsV RL 128 RX2 yX2_missing wsX2_missing) := goodIn_app (goodIn_of _ (by decide +kernel)) ggL_fetched_X2_missing
set_option maxRecDepth 20000 in
theorem ggL_fetched_L_fetches : GoodIn wsL_fetched wsL_fetches := goodIn_ca (goodIn_ca (goodIn_ca (goodIn_r _ [115, 5, 35, 36, 6, 37, 38, 116, 117, 118, 10, 119, 43, 44, 19, 18, 45, 46, 47, 48, 49, 50, 51, 52, 20, 21, 22, 16, 17, 23, 24, 25, 26, 27, 28, 29, 30, 31, 120, 121, 122, 123, 124, 125, 126, 127, 128, 92, 93, 94, 70, 71, 129, 130, 131, 56, 132, 65, 133, 134, 135, 136, 137, 138, 139, 140, 141, 59, 60, 61, 62, 63, 64, 53, 54, 55, 57, 58, 66, 67, 68, 69, 72, 73, 74, 75, 87, 88, 89, 90, 91, 95, 96, 97, 98, 99, 100, 101, 102, 103, 104, 105, 106, 107, 142, 143, 144, 145, 112, 146, 147, 148, 149, 150, 151, 152, 153, 76, 77, 78, 79, 80, 81, 82, 220, 221, 222, 223, 224, 225, 226, 227, 228, 229, 230, 231, 232, 233, 234, 235, 236, 237] (by decide +kernel) (by decide +kernel)) (goodIn_sub (fun _ h => List.mem_cons_of_mem _ (List.mem_append_left _ (List.mem_append_right _ h))) (by decide +kernel))) (goodIn_sub (fun _ h => List.mem_cons_of_mem _ (List.mem_append_right _ h)) (by decide +kernel))) (goodIn_sub (fun _ h => List.mem_cons_of_mem _ (List.mem_append_left _ (List.mem_append_left _ (List.mem_append_right _ h)))) (by decide +kernel))
set_option maxRecDepth 20000 in
theorem gL_fetched_L_fetches : GoodIn wsL_fetched (va_wsS RL 91 yL_fetches wsL_fetches) := goodIn_app (goodIn_of _ (by decide +kernel)) ggL_fetched_L_fetches
set_option maxRecDepth 20000 in
theorem ggL_fetched_X2_rounds : GoodIn wsL_fetched wsX2_rounds := goodIn_r _ [157, 124, 220, 221, 222, 223, 224, 225, 226, 227, 228] (by decide +kernel) (by decide +kernel)
set_option maxRecDepth 20000 in
theorem gL_fetched_X2_rounds : GoodIn wsL_fetched (wsV RL 131 RX2 yX2_rounds wsX2_rounds) := goodIn_app (goodIn_of _ (by decide +kernel)) ggL_fetched_X2_rounds
set_option maxRecDepth 20000 in
theorem ggL_fetched_L_ancestor : GoodIn wsL_fetched wsL_ancestor := goodIn_ca (goodIn_r _ [160, 5, 6, 161, 162, 163, 10, 164, 43, 12, 13, 14, 15, 16, 17, 18, 19, 165, 166, 167, 168, 169, 62, 63, 56, 64, 65, 94, 70, 71, 129, 130, 131, 132, 133, 134, 135, 136, 137, 92, 93, 138, 139, 140, 141, 59, 60, 61, 128, 220, 221, 222, 223, 224, 225, 226, 227, 228, 229, 230, 231, 232, 233, 234, 235, 236, 237] (by decide +kernel) (by decide +kernel)) (goodIn_sub (fun _ h => List.mem_cons_of_mem _ (List.mem_append_left _ (List.mem_append_left _ (List.mem_append_right _ h)))) (by decide +kernel))
set_option maxRecDepth 20000 in
theorem gL_fetched_L_ancestor : GoodIn wsL_fetched (va_wsS RL 119 yL_ancestor wsL_ancestor) := goodIn_app (goodIn_of _ (by decide +kernel)) ggL_fetched_L_ancestor
set_option maxRecDepth 20000 in
theorem ggL_fetched_L_has : GoodIn wsL_fetched wsL_has := goodIn_ca (goodIn_r _ [172, 5, 6, 173, 174, 175, 10, 176, 12, 13, 14, 15, 16, 17, 18, 19, 165, 166, 167, 168, 43, 169, 62, 63, 56, 64, 65, 128, 92, 93, 94, 70, 71, 229, 230, 231, 220, 221, 222, 223, 224, 225, 226, 227, 228, 232, 233, 234, 235, 236, 237] (by decide +kernel) (by decide +kernel)) (goodIn_sub (fun _ h => List.mem_cons_of_mem _ (List.mem_append_left _ (List.mem_append_left _ (List.mem_append_right _ h)))) (by decide +kernel))
set_option maxRecDepth 20000 in
theorem gL_fetched_L_has : GoodIn wsL_fetched (va_wsS RL 112 yL_has wsL_has) := goodIn_app (goodIn_of _ (by decide +kernel)) ggL_fetched_L_has
set_option maxRecDepth 20000 in
theorem ggL_fetched_L_shallow : GoodIn wsL_fetched wsL_shallow := goodIn_ca (goodIn_r _ [179, 5, 6, 180, 181, 182, 10, 183, 43, 19, 165, 166, 167, 168, 16, 17, 169, 62, 63, 56, 64, 65, 184, 135, 136, 137, 133, 92, 93, 94, 70, 71, 138, 139, 140, 141, 59, 60, 61, 128, 220, 221, 222, 223, 224, 225, 226, 227, 228, 229, 230, 231, 232, 233, 234, 235, 236, 237] (by decide +kernel) (by decide +kernel)) (goodIn_sub (fun _ h => List.mem_cons_of_mem _ (List.mem_append_left _ (List.mem_append_left _ (List.mem_append_right _ h)))) (by decide +kernel))
set_option maxRecDepth 20000 in
theorem gL_fetched_L_shallow : GoodIn wsL_fetched (va_wsS RL 116 yL_shallow wsL_shallow) := goodIn_app (goodIn_of _ (by decide +kernel)) ggL_fetched_L_shallow
set_option maxRecDepth 20000 in
theorem ggL_fetched_L_file : GoodIn wsL_fetched wsL_file := goodIn_ca (goodIn_r _ [187, 5, 6, 188, 189, 190, 10, 191, 43, 165, 166, 167, 168, 16, 17, 169, 62, 63, 56, 64, 65, 192, 193, 194, 195, 104, 105, 196, 100, 101, 102, 103, 61, 220, 221, 222, 223, 224, 225, 226, 227, 228, 232, 233, 234, 235, 236, 237] (by decide +kernel) (by decide +kernel)) (goodIn_sub (fun _ h => List.mem_cons_of_mem _ (List.mem_append_left _ (List.mem_append_left _ (List.mem_append_right _ h)))) (by decide +kernel))
set_option maxRecDepth 20000 in
theorem gL_fetched_L_file : GoodIn wsL_fetched (va_wsS RL 88 yL_file wsL_file) := goodIn_app (goodIn_of _ (by decide +kernel)) ggL_fetched_L_file
set_option maxRecDepth 20000 in
theorem ggL_fetched_L_hasFile : GoodIn wsL_fetched wsL_hasFile := goodIn_ca (goodIn_ca (goodIn_r _ [199, 5, 35, 6, 37, 200, 201, 202, 10, 203, 12, 13, 14, 15, 16, 17, 18, 19, 204, 205, 206, 49, 50, 207, 106, 107, 208, 147, 148, 29, 149, 112, 220, 221, 222, 223, 224, 225, 226, 227, 228, 229, 230, 231] (by decide +kernel) (by decide +kernel)) (goodIn_sub (fun _ h => List.mem_cons_of_mem _ (List.mem_append_left _ (List.mem_append_left _ (List.mem_append_right _ h)))) (by decide +kernel))) (goodIn_sub (fun _ h => List.mem_cons_of_mem _ (List.mem_append_left _ (List.mem_append_right _ h))) (by decide +kernel))
set_option maxRecDepth 20000 in
theorem gL_fetched_L_hasFile : GoodIn wsL_fetched (va_wsS RL 114 yL_hasFile wsL_hasFile) := goodIn_app (goodIn_of _ (by decide +kernel)) ggL_fetched_L_hasFile
set_option maxRecDepth 20000 in
theorem ggL_fetched_L_loads : GoodIn wsL_fetched wsL_loads := goodIn_ca (goodIn_ca (goodIn_r _ [211, 35, 36, 37, 38, 212, 213, 214, 10, 215, 51, 52, 18, 19, 204, 205, 206, 49, 50, 207, 106, 107, 208, 147, 148, 29, 149, 112, 216, 217, 218, 219, 220, 221, 222, 223, 224, 225, 226, 227, 228, 229, 230, 231] (by decide +kernel) (by decide +kernel)) (goodIn_sub (fun _ h => List.mem_cons_of_mem _ (List.mem_append_right _ h)) (by decide +kernel))) (goodIn_sub (fun _ h => List.mem_cons_of_mem _ (List.mem_append_left _ (List.mem_append_right _ h))) (by decide +kernel))
set_option maxRecDepth 20000 in
theorem gL_fetched_L_loads : GoodIn wsL_fetched (va_wsS RL 98 yL_loads wsL_loads) := goodIn_app (goodIn_of _ (by decide +kernel)) ggL_fetched_L_loads
theorem dL_fetched_0 : decode cL_fetched 0 = .ok (.iconst 1, 1) := by decide +kernel
theorem dL_fetched_1 : decode cL_fetched 1 = .ok (.istore_n 2, 1) := by decide +kernel
theorem dL_fetched_2 : decode cL_fetched 2 = .ok (.iconst 0, 1) := by decide +kernel
theorem dL_fetched_3 : decode cL_fetched 3 = .ok (.istore_n 3, 1) := by decide +kernel
theorem dL_fetched_4 : decode cL_fetched 4 = .ok (.iload_n 3, 1) := by decide +kernel
theorem dL_fetched_5 : decode cL_fetched 5 = .ok (.iconst 4, 1) := by decide +kernel
theorem dL_fetched_6 : decode cL_fetched 6 = .ok (.if_icmp .ge 297, 3) := by decide +kernel
theorem dL_fetched_9 : decode cL_fetched 9 = .ok (.iload_n 2, 1) := by decide +kernel
theorem dL_fetched_10 : decode cL_fetched 10 = .ok (.ifCond .eq 293, 3) := by decide +kernel
theorem dL_fetched_13 : decode cL_fetched 13 = .ok (.aload_n 0, 1) := by decide +kernel
theorem dL_fetched_14 : decode cL_fetched 14 = .ok (.iconst 0, 1) := by decide +kernel
theorem dL_fetched_15 : decode cL_fetched 15 = .ok (.iload_n 3, 1) := by decide +kernel
theorem dL_fetched_16 : decode cL_fetched 16 = .ok (.invokestatic 85, 3) := by decide +kernel
theorem dL_fetched_19 : decode cL_fetched 19 = .ok (.istore 4, 2) := by decide +kernel
theorem dL_fetched_21 : decode cL_fetched 21 = .ok (.iload 4, 2) := by decide +kernel
theorem dL_fetched_23 : decode cL_fetched 23 = .ok (.ifCond .lt 274, 3) := by decide +kernel
theorem dL_fetched_26 : decode cL_fetched 26 = .ok (.iconst 1, 1) := by decide +kernel
theorem dL_fetched_27 : decode cL_fetched 27 = .ok (.iload_n 1, 1) := by decide +kernel
theorem dL_fetched_28 : decode cL_fetched 28 = .ok (.iconst 1, 1) := by decide +kernel
theorem dL_fetched_29 : decode cL_fetched 29 = .ok (.iload_n 3, 1) := by decide +kernel
theorem dL_fetched_30 : decode cL_fetched 30 = .ok (.iadd, 1) := by decide +kernel
theorem dL_fetched_31 : decode cL_fetched 31 = .ok (.idiv, 1) := by decide +kernel
theorem dL_fetched_32 : decode cL_fetched 32 = .ok (.iconst 5, 1) := by decide +kernel
theorem dL_fetched_33 : decode cL_fetched 33 = .ok (.irem, 1) := by decide +kernel
theorem dL_fetched_34 : decode cL_fetched 34 = .ok (.iadd, 1) := by decide +kernel
theorem dL_fetched_35 : decode cL_fetched 35 = .ok (.istore 5, 2) := by decide +kernel
theorem dL_fetched_37 : decode cL_fetched 37 = .ok (.aload_n 0, 1) := by decide +kernel
theorem dL_fetched_38 : decode cL_fetched 38 = .ok (.iload_n 3, 1) := by decide +kernel
theorem dL_fetched_39 : decode cL_fetched 39 = .ok (.iload 5, 2) := by decide +kernel
theorem dL_fetched_41 : decode cL_fetched 41 = .ok (.invokestatic 95, 3) := by decide +kernel
theorem dL_fetched_44 : decode cL_fetched 44 = .ok (.istore 6, 2) := by decide +kernel
theorem dL_fetched_46 : decode cL_fetched 46 = .ok (.aload_n 0, 1) := by decide +kernel
theorem dL_fetched_47 : decode cL_fetched 47 = .ok (.invokevirtual 128, 3) := by decide +kernel
theorem dL_fetched_50 : decode cL_fetched 50 = .ok (.istore 7, 2) := by decide +kernel
theorem dL_fetched_52 : decode cL_fetched 52 = .ok (.aload_n 0, 1) := by decide +kernel
theorem dL_fetched_53 : decode cL_fetched 53 = .ok (.iload_n 3, 1) := by decide +kernel
theorem dL_fetched_54 : decode cL_fetched 54 = .ok (.iload 5, 2) := by decide +kernel
theorem dL_fetched_56 : decode cL_fetched 56 = .ok (.iconst 0, 1) := by decide +kernel
theorem dL_fetched_57 : decode cL_fetched 57 = .ok (.invokestatic 91, 3) := by decide +kernel
theorem dL_fetched_60 : decode cL_fetched 60 = .ok (.iload 6, 2) := by decide +kernel
theorem dL_fetched_62 : decode cL_fetched 62 = .ok (.if_icmp .ne 37, 3) := by decide +kernel
theorem dL_fetched_65 : decode cL_fetched 65 = .ok (.aload_n 0, 1) := by decide +kernel
theorem dL_fetched_66 : decode cL_fetched 66 = .ok (.iload_n 3, 1) := by decide +kernel
theorem dL_fetched_67 : decode cL_fetched 67 = .ok (.iload 5, 2) := by decide +kernel
theorem dL_fetched_69 : decode cL_fetched 69 = .ok (.invokestatic 95, 3) := by decide +kernel
theorem dL_fetched_72 : decode cL_fetched 72 = .ok (.ifCond .ne 27, 3) := by decide +kernel
theorem dL_fetched_75 : decode cL_fetched 75 = .ok (.aload_n 0, 1) := by decide +kernel
theorem dL_fetched_76 : decode cL_fetched 76 = .ok (.iconst 1, 1) := by decide +kernel
theorem dL_fetched_77 : decode cL_fetched 77 = .ok (.iload_n 3, 1) := by decide +kernel
theorem dL_fetched_78 : decode cL_fetched 78 = .ok (.invokestatic 85, 3) := by decide +kernel
theorem dL_fetched_81 : decode cL_fetched 81 = .ok (.iload 4, 2) := by decide +kernel
theorem dL_fetched_83 : decode cL_fetched 83 = .ok (.if_icmp .ne 16, 3) := by decide +kernel
theorem dL_fetched_86 : decode cL_fetched 86 = .ok (.aload_n 0, 1) := by decide +kernel
theorem dL_fetched_87 : decode cL_fetched 87 = .ok (.invokevirtual 128, 3) := by decide +kernel
theorem dL_fetched_90 : decode cL_fetched 90 = .ok (.iload 7, 2) := by decide +kernel
theorem dL_fetched_92 : decode cL_fetched 92 = .ok (.if_icmp .lt 7, 3) := by decide +kernel
theorem dL_fetched_95 : decode cL_fetched 95 = .ok (.iconst 1, 1) := by decide +kernel
theorem dL_fetched_96 : decode cL_fetched 96 = .ok (.goto 4, 3) := by decide +kernel
theorem dL_fetched_99 : decode cL_fetched 99 = .ok (.iconst 0, 1) := by decide +kernel
theorem dL_fetched_100 : decode cL_fetched 100 = .ok (.istore_n 2, 1) := by decide +kernel
theorem dL_fetched_101 : decode cL_fetched 101 = .ok (.aload_n 0, 1) := by decide +kernel
theorem dL_fetched_102 : decode cL_fetched 102 = .ok (.iload_n 3, 1) := by decide +kernel
theorem dL_fetched_103 : decode cL_fetched 103 = .ok (.iconst 0, 1) := by decide +kernel
theorem dL_fetched_104 : decode cL_fetched 104 = .ok (.invokestatic 95, 3) := by decide +kernel
theorem dL_fetched_107 : decode cL_fetched 107 = .ok (.istore 8, 2) := by decide +kernel
theorem dL_fetched_109 : decode cL_fetched 109 = .ok (.iload_n 2, 1) := by decide +kernel
theorem dL_fetched_110 : decode cL_fetched 110 = .ok (.ifCond .eq 35, 3) := by decide +kernel
theorem dL_fetched_113 : decode cL_fetched 113 = .ok (.aload_n 0, 1) := by decide +kernel
theorem dL_fetched_114 : decode cL_fetched 114 = .ok (.iload_n 3, 1) := by decide +kernel
theorem dL_fetched_115 : decode cL_fetched 115 = .ok (.iconst 0, 1) := by decide +kernel
theorem dL_fetched_116 : decode cL_fetched 116 = .ok (.iconst 1, 1) := by decide +kernel
theorem dL_fetched_117 : decode cL_fetched 117 = .ok (.invokestatic 91, 3) := by decide +kernel
theorem dL_fetched_120 : decode cL_fetched 120 = .ok (.iload 8, 2) := by decide +kernel
theorem dL_fetched_122 : decode cL_fetched 122 = .ok (.if_icmp .ne 23, 3) := by decide +kernel
theorem dL_fetched_125 : decode cL_fetched 125 = .ok (.aload_n 0, 1) := by decide +kernel
theorem dL_fetched_126 : decode cL_fetched 126 = .ok (.invokevirtual 131, 3) := by decide +kernel
theorem dL_fetched_129 : decode cL_fetched 129 = .ok (.ifCond .le 16, 3) := by decide +kernel
theorem dL_fetched_132 : decode cL_fetched 132 = .ok (.aload_n 0, 1) := by decide +kernel
theorem dL_fetched_133 : decode cL_fetched 133 = .ok (.iload_n 3, 1) := by decide +kernel
theorem dL_fetched_134 : decode cL_fetched 134 = .ok (.iconst 0, 1) := by decide +kernel
theorem dL_fetched_135 : decode cL_fetched 135 = .ok (.invokestatic 95, 3) := by decide +kernel
theorem dL_fetched_138 : decode cL_fetched 138 = .ok (.ifCond .ne 7, 3) := by decide +kernel
theorem dL_fetched_141 : decode cL_fetched 141 = .ok (.iconst 1, 1) := by decide +kernel
theorem dL_fetched_142 : decode cL_fetched 142 = .ok (.goto 4, 3) := by decide +kernel
theorem dL_fetched_145 : decode cL_fetched 145 = .ok (.iconst 0, 1) := by decide +kernel
theorem dL_fetched_146 : decode cL_fetched 146 = .ok (.istore_n 2, 1) := by decide +kernel
theorem dL_fetched_147 : decode cL_fetched 147 = .ok (.iconst 0, 1) := by decide +kernel
theorem dL_fetched_148 : decode cL_fetched 148 = .ok (.istore 9, 2) := by decide +kernel
theorem dL_fetched_150 : decode cL_fetched 150 = .ok (.iload 9, 2) := by decide +kernel
theorem dL_fetched_152 : decode cL_fetched 152 = .ok (.iload 4, 2) := by decide +kernel
theorem dL_fetched_154 : decode cL_fetched 154 = .ok (.if_icmp .gt 64, 3) := by decide +kernel
theorem dL_fetched_157 : decode cL_fetched 157 = .ok (.iload_n 2, 1) := by decide +kernel
theorem dL_fetched_158 : decode cL_fetched 158 = .ok (.ifCond .eq 60, 3) := by decide +kernel
theorem dL_fetched_161 : decode cL_fetched 161 = .ok (.aload_n 0, 1) := by decide +kernel
theorem dL_fetched_162 : decode cL_fetched 162 = .ok (.iconst 0, 1) := by decide +kernel
theorem dL_fetched_163 : decode cL_fetched 163 = .ok (.iload 9, 2) := by decide +kernel
theorem dL_fetched_165 : decode cL_fetched 165 = .ok (.iload 4, 2) := by decide +kernel
theorem dL_fetched_167 : decode cL_fetched 167 = .ok (.invokestatic 119, 3) := by decide +kernel
theorem dL_fetched_170 : decode cL_fetched 170 = .ok (.ifCond .eq 36, 3) := by decide +kernel
theorem dL_fetched_173 : decode cL_fetched 173 = .ok (.aload_n 0, 1) := by decide +kernel
theorem dL_fetched_174 : decode cL_fetched 174 = .ok (.iconst 1, 1) := by decide +kernel
theorem dL_fetched_175 : decode cL_fetched 175 = .ok (.iload 9, 2) := by decide +kernel
theorem dL_fetched_177 : decode cL_fetched 177 = .ok (.invokestatic 112, 3) := by decide +kernel
theorem dL_fetched_180 : decode cL_fetched 180 = .ok (.iconst 1, 1) := by decide +kernel
theorem dL_fetched_181 : decode cL_fetched 181 = .ok (.if_icmp .ne 29, 3) := by decide +kernel
theorem dL_fetched_184 : decode cL_fetched 184 = .ok (.aload_n 0, 1) := by decide +kernel
theorem dL_fetched_185 : decode cL_fetched 185 = .ok (.iload 9, 2) := by decide +kernel
theorem dL_fetched_187 : decode cL_fetched 187 = .ok (.invokestatic 116, 3) := by decide +kernel
theorem dL_fetched_190 : decode cL_fetched 190 = .ok (.ifCond .ne 20, 3) := by decide +kernel
theorem dL_fetched_193 : decode cL_fetched 193 = .ok (.aload_n 0, 1) := by decide +kernel
theorem dL_fetched_194 : decode cL_fetched 194 = .ok (.iconst 1, 1) := by decide +kernel
theorem dL_fetched_195 : decode cL_fetched 195 = .ok (.iload 9, 2) := by decide +kernel
theorem dL_fetched_197 : decode cL_fetched 197 = .ok (.iload 4, 2) := by decide +kernel
theorem dL_fetched_199 : decode cL_fetched 199 = .ok (.invokestatic 119, 3) := by decide +kernel
theorem dL_fetched_202 : decode cL_fetched 202 = .ok (.iconst 1, 1) := by decide +kernel
theorem dL_fetched_203 : decode cL_fetched 203 = .ok (.if_icmp .ne 7, 3) := by decide +kernel
theorem dL_fetched_206 : decode cL_fetched 206 = .ok (.iconst 1, 1) := by decide +kernel
theorem dL_fetched_207 : decode cL_fetched 207 = .ok (.goto 4, 3) := by decide +kernel
theorem dL_fetched_210 : decode cL_fetched 210 = .ok (.iconst 0, 1) := by decide +kernel
theorem dL_fetched_211 : decode cL_fetched 211 = .ok (.istore_n 2, 1) := by decide +kernel
theorem dL_fetched_212 : decode cL_fetched 212 = .ok (.iinc 9 1, 3) := by decide +kernel
theorem dL_fetched_215 : decode cL_fetched 215 = .ok (.goto (-65), 3) := by decide +kernel
theorem dL_fetched_218 : decode cL_fetched 218 = .ok (.iconst 0, 1) := by decide +kernel
theorem dL_fetched_219 : decode cL_fetched 219 = .ok (.istore 9, 2) := by decide +kernel
theorem dL_fetched_221 : decode cL_fetched 221 = .ok (.iload 9, 2) := by decide +kernel
theorem dL_fetched_223 : decode cL_fetched 223 = .ok (.iconst 4, 1) := by decide +kernel
theorem dL_fetched_224 : decode cL_fetched 224 = .ok (.if_icmp .ge 73, 3) := by decide +kernel
theorem dL_fetched_227 : decode cL_fetched 227 = .ok (.iload_n 2, 1) := by decide +kernel
theorem dL_fetched_228 : decode cL_fetched 228 = .ok (.ifCond .eq 69, 3) := by decide +kernel
theorem dL_fetched_231 : decode cL_fetched 231 = .ok (.aload_n 0, 1) := by decide +kernel
theorem dL_fetched_232 : decode cL_fetched 232 = .ok (.iload 4, 2) := by decide +kernel
theorem dL_fetched_234 : decode cL_fetched 234 = .ok (.iload 9, 2) := by decide +kernel
theorem dL_fetched_236 : decode cL_fetched 236 = .ok (.invokestatic 88, 3) := by decide +kernel
theorem dL_fetched_239 : decode cL_fetched 239 = .ok (.istore 10, 2) := by decide +kernel
theorem dL_fetched_241 : decode cL_fetched 241 = .ok (.iload 10, 2) := by decide +kernel
theorem dL_fetched_243 : decode cL_fetched 243 = .ok (.ifCond .lt 42, 3) := by decide +kernel
theorem dL_fetched_246 : decode cL_fetched 246 = .ok (.aload_n 0, 1) := by decide +kernel
theorem dL_fetched_247 : decode cL_fetched 247 = .ok (.iconst 0, 1) := by decide +kernel
theorem dL_fetched_248 : decode cL_fetched 248 = .ok (.iload 10, 2) := by decide +kernel
theorem dL_fetched_250 : decode cL_fetched 250 = .ok (.invokestatic 114, 3) := by decide +kernel
theorem dL_fetched_253 : decode cL_fetched 253 = .ok (.ifCond .eq 32, 3) := by decide +kernel
theorem dL_fetched_256 : decode cL_fetched 256 = .ok (.aload_n 0, 1) := by decide +kernel
theorem dL_fetched_257 : decode cL_fetched 257 = .ok (.iload 10, 2) := by decide +kernel
theorem dL_fetched_259 : decode cL_fetched 259 = .ok (.invokestatic 98, 3) := by decide +kernel
theorem dL_fetched_262 : decode cL_fetched 262 = .ok (.ifCond .lt 27, 3) := by decide +kernel
theorem dL_fetched_265 : decode cL_fetched 265 = .ok (.aload_n 0, 1) := by decide +kernel
theorem dL_fetched_266 : decode cL_fetched 266 = .ok (.iconst 1, 1) := by decide +kernel
theorem dL_fetched_267 : decode cL_fetched 267 = .ok (.iload 10, 2) := by decide +kernel
theorem dL_fetched_269 : decode cL_fetched 269 = .ok (.invokestatic 114, 3) := by decide +kernel
theorem dL_fetched_272 : decode cL_fetched 272 = .ok (.iconst 1, 1) := by decide +kernel
theorem dL_fetched_273 : decode cL_fetched 273 = .ok (.if_icmp .ne 16, 3) := by decide +kernel
theorem dL_fetched_276 : decode cL_fetched 276 = .ok (.aload_n 0, 1) := by decide +kernel
theorem dL_fetched_277 : decode cL_fetched 277 = .ok (.iload 10, 2) := by decide +kernel
theorem dL_fetched_279 : decode cL_fetched 279 = .ok (.invokestatic 98, 3) := by decide +kernel
theorem dL_fetched_282 : decode cL_fetched 282 = .ok (.ifCond .ne 7, 3) := by decide +kernel
theorem dL_fetched_285 : decode cL_fetched 285 = .ok (.iconst 1, 1) := by decide +kernel
theorem dL_fetched_286 : decode cL_fetched 286 = .ok (.goto 4, 3) := by decide +kernel
theorem dL_fetched_289 : decode cL_fetched 289 = .ok (.iconst 0, 1) := by decide +kernel
theorem dL_fetched_290 : decode cL_fetched 290 = .ok (.istore_n 2, 1) := by decide +kernel
theorem dL_fetched_291 : decode cL_fetched 291 = .ok (.iinc 9 1, 3) := by decide +kernel
theorem dL_fetched_294 : decode cL_fetched 294 = .ok (.goto (-73), 3) := by decide +kernel
theorem dL_fetched_297 : decode cL_fetched 297 = .ok (.iinc 3 1, 3) := by decide +kernel
theorem dL_fetched_300 : decode cL_fetched 300 = .ok (.goto (-296), 3) := by decide +kernel
theorem dL_fetched_303 : decode cL_fetched 303 = .ok (.iload_n 2, 1) := by decide +kernel
theorem dL_fetched_304 : decode cL_fetched 304 = .ok (.ireturn, 1) := by decide +kernel
set_option maxRecDepth 20000 in
theorem ggL_pushed_L_pick : GoodIn wsL_pushed wsL_pick := goodIn_ca (goodIn_r _ [4, 5, 6, 7, 8, 9, 10, 11, 12, 13, 14, 15, 16, 17, 18, 3, 19, 20, 21, 22, 23, 24, 25, 26, 27, 28, 29, 30, 31, 32, 33, 34, 35, 36, 37, 38, 39, 40, 41, 42, 43, 44, 45, 46, 47, 256, 257, 258, 259, 260, 261, 262, 263, 264, 265, 266, 267, 268, 269, 270, 271, 272, 273] (by decide +kernel) (by decide +kernel)) (goodIn_sub (fun _ h => List.mem_cons_of_mem _ (List.mem_append_left _ (List.mem_append_left _ (List.mem_append_right _ h)))) (by decide +kernel))
set_option maxRecDepth 20000 in
theorem gL_pushed_L_pick : GoodIn wsL_pushed (va_wsS RL 122 yL_pick wsL_pick) := goodIn_app (goodIn_of _ (by decide +kernel)) ggL_pushed_L_pick
set_option maxRecDepth 20000 in
theorem ggL_pushed_X2_commits : GoodIn wsL_pushed wsX2_commits := goodIn_r _ [9, 10, 11, 12, 13, 14, 15, 16, 256, 257, 258, 259, 260, 261, 262, 263, 264, 265, 266, 267, 268, 269, 270] (by decide +kernel) (by decide +kernel)
set_option maxRecDepth 20000 in
theorem gL_pushed_X2_commits : GoodIn wsL_pushed (wsV RL 71 RX2 yX2_commits wsX2_commits) := goodIn_app (goodIn_of _ (by decide +kernel)) ggL_pushed_X2_commits
set_option maxRecDepth 20000 in
theorem ggL_pushed_X2_push : GoodIn wsL_pushed wsX2_push := goodIn_r _ [51, 52, 53, 54, 55, 8, 56, 57, 58, 59, 60, 61, 62, 63, 32, 10, 33, 64, 65, 66, 67, 68, 69, 70, 71, 45, 46, 47, 72, 73, 74, 14, 75, 16, 76, 77, 78, 79, 80, 43, 44, 81, 82, 83, 84, 85, 86, 87, 39, 40, 41, 88, 89, 90, 91, 92, 93, 42, 94, 95, 96, 97, 98, 99, 100, 101, 102, 103, 104, 105, 106, 107, 108, 109, 110, 111, 112, 113, 114, 115, 116, 117, 118, 119, 120, 121, 122, 123, 124, 125, 126, 127, 128, 129, 130, 131, 132, 133, 134, 135, 136, 137, 138, 139, 140, 141, 256, 257, 258, 259, 260, 261, 262, 263, 264, 271, 272, 273, 265, 266, 267, 268, 269, 270] (by decide +kernel) (by decide +kernel)
set_option maxRecDepth 20000 in
theorem gL_pushed_X2_push : GoodIn wsL_pushed (wsV RL 125 RX2 yX2_push wsX2_push) := goodIn_app (goodIn_of _ (by decide +kernel)) ggL_pushed_X2_push
set_option maxRecDepth 20000 in
theorem ggL_pushed_L_protects : GoodIn wsL_pushed wsL_protects := goodIn_ca (goodIn_r _ [144, 20, 21, 145, 146, 147, 8, 148, 92, 149, 150, 151, 30, 31, 93, 70, 71, 256, 257, 258, 259, 260, 261, 262, 263, 264] (by decide +kernel) (by decide +kernel)) (goodIn_sub (fun _ h => List.mem_cons_of_mem _ (List.mem_append_left _ (List.mem_append_left _ (List.mem_append_right _ h)))) (by decide +kernel))
set_option maxRecDepth 20000 in
theorem gL_pushed_L_protects : GoodIn wsL_pushed (va_wsS RL 102 yL_protects wsL_protects) := goodIn_app (goodIn_of _ (by decide +kernel)) ggL_pushed_L_protects
set_option maxRecDepth 20000 in
theorem ggL_pushed_L_makes : GoodIn wsL_pushed wsL_makes := goodIn_ca (goodIn_ca (goodIn_ca (goodIn_r _ [154, 20, 155, 156, 21, 157, 158, 159, 160, 161, 8, 162, 163, 164, 165, 166, 10, 26, 27, 28, 29, 30, 31, 32, 33, 167, 168, 169, 170, 129, 130, 171, 172, 173, 42, 43, 44, 45, 46, 47, 174, 175, 176, 177, 131, 132, 178, 179, 180, 14, 181, 16, 182, 183, 184, 185, 85, 86, 128, 186, 124, 125, 126, 127, 87, 39, 40, 41, 187, 188, 189, 67, 190, 137, 256, 257, 258, 259, 260, 261, 262, 263, 264, 271, 272, 273, 265, 266, 267, 268, 269, 270] (by decide +kernel) (by decide +kernel)) (goodIn_sub (fun _ h => List.mem_cons_of_mem _ (List.mem_append_left _ (List.mem_append_right _ h))) (by decide +kernel))) (goodIn_sub (fun _ h => List.mem_cons_of_mem _ (List.mem_append_right _ h)) (by decide +kernel))) (goodIn_sub (fun _ h => List.mem_cons_of_mem _ (List.mem_append_left _ (List.mem_append_left _ (List.mem_append_right _ h)))) (by decide +kernel))
set_option maxRecDepth 20000 in
theorem gL_pushed_L_makes : GoodIn wsL_pushed (va_wsS RL 75 yL_makes wsL_makes) := goodIn_app (goodIn_of _ (by decide +kernel)) ggL_pushed_L_makes
set_option maxRecDepth 20000 in
theorem ggL_pushed_L_ref : GoodIn wsL_pushed wsL_ref := goodIn_ca (goodIn_r _ [193, 20, 21, 194, 195, 196, 8, 197, 26, 27, 28, 29, 30, 31, 32, 33, 149, 150, 151, 93, 70, 71, 64, 65, 66, 67, 68, 69, 256, 257, 258, 259, 260, 261, 262, 263, 264, 271, 272, 273] (by decide +kernel) (by decide +kernel)) (goodIn_sub (fun _ h => List.mem_cons_of_mem _ (List.mem_append_left _ (List.mem_append_left _ (List.mem_append_right _ h)))) (by decide +kernel))
set_option maxRecDepth 20000 in
theorem gL_pushed_L_ref : GoodIn wsL_pushed (va_wsS RL 85 yL_ref wsL_ref) := goodIn_app (goodIn_of _ (by decide +kernel)) ggL_pushed_L_ref
set_option maxRecDepth 20000 in
theorem ggL_pushed_L_moves : GoodIn wsL_pushed wsL_moves := goodIn_ca (goodIn_ca (goodIn_r _ [200, 20, 156, 21, 158, 201, 202, 203, 8, 204, 165, 166, 52, 57, 58, 59, 149, 150, 151, 30, 31, 93, 70, 71, 205, 206, 207, 208, 34, 35, 36, 37, 10, 38, 39, 40, 14, 41, 16, 256, 257, 258, 259, 260, 261, 262, 263, 264, 265, 266, 267, 268, 269, 270] (by decide +kernel) (by decide +kernel)) (goodIn_sub (fun _ h => List.mem_cons_of_mem _ (List.mem_append_right _ h)) (by decide +kernel))) (goodIn_sub (fun _ h => List.mem_cons_of_mem _ (List.mem_append_left _ (List.mem_append_left _ (List.mem_append_right _ h)))) (by decide +kernel))
set_option maxRecDepth 20000 in
theorem gL_pushed_L_moves : GoodIn wsL_pushed (va_wsS RL 106 yL_moves wsL_moves) := goodIn_app (goodIn_of _ (by decide +kernel)) ggL_pushed_L_moves
set_option maxRecDepth 20000 in
theorem ggL_pushed_L_has : GoodIn wsL_pushed wsL_has := goodIn_ca (goodIn_r _ [19, 20, 21, 22, 23, 24, 8, 25, 26, 27, 28, 29, 30, 31, 32, 33, 34, 35, 36, 37, 10, 38, 39, 40, 14, 41, 16, 42, 43, 44, 45, 46, 47, 271, 272, 273, 256, 257, 258, 259, 260, 261, 262, 263, 264, 265, 266, 267, 268, 269, 270] (by decide +kernel) (by decide +kernel)) (goodIn_sub (fun _ h => List.mem_cons_of_mem _ (List.mem_append_left _ (List.mem_append_left _ (List.mem_append_right _ h)))) (by decide +kernel))
set_option maxRecDepth 20000 in
theorem gL_pushed_L_has : GoodIn wsL_pushed (va_wsS RL 112 yL_has wsL_has) := goodIn_app (goodIn_of _ (by decide +kernel)) ggL_pushed_L_has
set_option maxRecDepth 20000 in
theorem ggL_pushed_L_hasFile : GoodIn wsL_pushed wsL_hasFile := goodIn_ca (goodIn_ca (goodIn_r _ [211, 20, 155, 21, 157, 212, 213, 214, 8, 215, 26, 27, 28, 29, 30, 31, 32, 33, 174, 175, 176, 163, 164, 177, 131, 132, 216, 139, 140, 67, 141, 137, 256, 257, 258, 259, 260, 261, 262, 263, 264, 271, 272, 273] (by decide +kernel) (by decide +kernel)) (goodIn_sub (fun _ h => List.mem_cons_of_mem _ (List.mem_append_left _ (List.mem_append_left _ (List.mem_append_right _ h)))) (by decide +kernel))) (goodIn_sub (fun _ h => List.mem_cons_of_mem _ (List.mem_append_left _ (List.mem_append_right _ h))) (by decide +kernel))
set_option maxRecDepth 20000 in
theorem gL_pushed_L_hasFile : GoodIn wsL_pushed (va_wsS RL 114 yL_hasFile wsL_hasFile) := goodIn_app (goodIn_of _ (by decide +kernel)) ggL_pushed_L_hasFile
set_option maxRecDepth 20000 in
theorem ggL_pushed_L_would : GoodIn wsL_pushed wsL_would := goodIn_ca (goodIn_ca (goodIn_ca (goodIn_r _ [219, 20, 155, 156, 21, 157, 158, 220, 221, 222, 8, 223, 10, 33, 98, 224, 225, 226, 227, 163, 164, 165, 166, 32, 149, 150, 151, 30, 31, 93, 70, 71, 64, 65, 66, 67, 68, 69, 228, 229, 230, 14, 231, 232, 85, 86, 87, 39, 40, 41, 16, 233, 234, 235, 236, 46, 47, 237, 238, 239, 240, 108, 109, 110, 111, 112, 113, 114, 256, 257, 258, 259, 260, 261, 262, 263, 264, 271, 272, 273, 265, 266, 267, 268, 269, 270] (by decide +kernel) (by decide +kernel)) (goodIn_sub (fun _ h => List.mem_cons_of_mem _ (List.mem_append_left _ (List.mem_append_right _ h))) (by decide +kernel))) (goodIn_sub (fun _ h => List.mem_cons_of_mem _ (List.mem_append_right _ h)) (by decide +kernel))) (goodIn_sub (fun _ h => List.mem_cons_of_mem _ (List.mem_append_left _ (List.mem_append_left _ (List.mem_append_right _ h)))) (by decide +kernel))
set_option maxRecDepth 20000 in
theorem gL_pushed_L_would : GoodIn wsL_pushed (va_wsS RL 95 yL_would wsL_would) := goodIn_app (goodIn_of _ (by decide +kernel)) ggL_pushed_L_would
set_option maxRecDepth 20000 in
theorem ggL_pushed_L_fetches : GoodIn wsL_pushed wsL_fetches := goodIn_ca (goodIn_ca (goodIn_ca (goodIn_r _ [243, 20, 155, 156, 21, 157, 158, 244, 245, 246, 8, 247, 10, 98, 33, 32, 224, 225, 226, 227, 163, 164, 165, 166, 149, 150, 151, 30, 31, 93, 70, 71, 64, 65, 66, 67, 68, 69, 248, 249, 250, 251, 252, 253, 254, 255, 42, 43, 44, 45, 46, 47, 72, 73, 74, 14, 75, 16, 76, 77, 78, 79, 80, 81, 82, 83, 84, 85, 86, 87, 39, 40, 41, 228, 229, 230, 231, 232, 233, 234, 235, 236, 237, 238, 239, 240, 115, 116, 117, 118, 119, 120, 121, 122, 123, 124, 125, 126, 127, 128, 129, 130, 131, 132, 133, 134, 135, 136, 137, 138, 139, 140, 141, 104, 105, 106, 107, 108, 109, 110, 111, 112, 113, 114, 256, 257, 258, 259, 260, 261, 262, 263, 264, 271, 272, 273, 265, 266, 267, 268, 269, 270] (by decide +kernel) (by decide +kernel)) (goodIn_sub (fun _ h => List.mem_cons_of_mem _ (List.mem_append_left _ (List.mem_append_right _ h))) (by decide +kernel))) (goodIn_sub (fun _ h => List.mem_cons_of_mem _ (List.mem_append_right _ h)) (by decide +kernel))) (goodIn_sub (fun _ h => List.mem_cons_of_mem _ (List.mem_append_left _ (List.mem_append_left _ (List.mem_append_right _ h)))) (by decide +kernel))
set_option maxRecDepth 20000 in
theorem gL_pushed_L_fetches : GoodIn wsL_pushed (va_wsS RL 91 yL_fetches wsL_fetches) := goodIn_app (goodIn_of _ (by decide +kernel)) ggL_pushed_L_fetches
theorem dL_pushed_0 : decode cL_pushed 0 = .ok (.iload_n 2, 1) := by decide +kernel
theorem dL_pushed_1 : decode cL_pushed 1 = .ok (.iconst 4, 1) := by decide +kernel
