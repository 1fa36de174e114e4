set_option maxRecDepth 20000 in
theorem ggX2_init_X0_init : GoodIn wsX2_init wsX0_init := goodIn_r _ [20, 21, 2, 3, 15, 22, 23, 24, 25, 13, 26, 37, 38, 39, 40, 41, 42] (by decide +kernel) (by decide +kernel)
set_option maxRecDepth 20000 in
theorem gX2_init_X0_init_n9 : GoodIn wsX2_init (wsX0_init) := ggX2_init_X0_init
set_option maxRecDepth 20000 in
theorem ggX2_init_X1_init : GoodIn wsX2_init wsX1_init := goodIn_r _ [29, 30, 2, 3, 13, 31, 15, 32, 33, 34, 35, 36, 52, 53, 54] (by decide +kernel) (by decide +kernel)
set_option maxRecDepth 20000 in
theorem gX2_init_X1_init : GoodIn wsX2_init (wsX1_init) := ggX2_init_X1_init
theorem dX2_init_0 : decode cX2_init 0 = .ok (.aload_n 0, 1) := by decide +kernel
theorem dX2_init_1 : decode cX2_init 1 = .ok (.invokespecial 1, 3) := by decide +kernel
theorem dX2_init_4 : decode cX2_init 4 = .ok (.aload_n 0, 1) := by decide +kernel
theorem dX2_init_5 : decode cX2_init 5 = .ok (.new 7, 3) := by decide +kernel
theorem dX2_init_8 : decode cX2_init 8 = .ok (.dup, 1) := by decide +kernel
theorem dX2_init_9 : decode cX2_init 9 = .ok (.invokespecial 9, 3) := by decide +kernel
theorem dX2_init_12 : decode cX2_init 12 = .ok (.putfield 10, 3) := by decide +kernel
theorem dX2_init_15 : decode cX2_init 15 = .ok (.aload_n 0, 1) := by decide +kernel
theorem dX2_init_16 : decode cX2_init 16 = .ok (.new 16, 3) := by decide +kernel
theorem dX2_init_19 : decode cX2_init 19 = .ok (.dup, 1) := by decide +kernel
theorem dX2_init_20 : decode cX2_init 20 = .ok (.invokespecial 18, 3) := by decide +kernel
theorem dX2_init_23 : decode cX2_init 23 = .ok (.putfield 19, 3) := by decide +kernel
theorem dX2_init_26 : decode cX2_init 26 = .ok (.aload_n 0, 1) := by decide +kernel
theorem dX2_init_27 : decode cX2_init 27 = .ok (.new 16, 3) := by decide +kernel
theorem dX2_init_30 : decode cX2_init 30 = .ok (.dup, 1) := by decide +kernel
theorem dX2_init_31 : decode cX2_init 31 = .ok (.invokespecial 18, 3) := by decide +kernel
theorem dX2_init_34 : decode cX2_init 34 = .ok (.putfield 23, 3) := by decide +kernel
theorem dX2_init_37 : decode cX2_init 37 = .ok (.aload_n 0, 1) := by decide +kernel
theorem dX2_init_38 : decode cX2_init 38 = .ok (.iconst 4, 1) := by decide +kernel
theorem dX2_init_39 : decode cX2_init 39 = .ok (.newarray .boolean, 2) := by decide +kernel
theorem dX2_init_41 : decode cX2_init 41 = .ok (.putfield 26, 3) := by decide +kernel
theorem dX2_init_44 : decode cX2_init 44 = .ok (.aload_n 0, 1) := by decide +kernel
theorem dX2_init_45 : decode cX2_init 45 = .ok (.iconst 3, 1) := by decide +kernel
theorem dX2_init_46 : decode cX2_init 46 = .ok (.newarray .int, 2) := by decide +kernel
theorem dX2_init_48 : decode cX2_init 48 = .ok (.putfield 30, 3) := by decide +kernel
theorem dX2_init_51 : decode cX2_init 51 = .ok (.aload_n 0, 1) := by decide +kernel
theorem dX2_init_52 : decode cX2_init 52 = .ok (.iconst 3, 1) := by decide +kernel
theorem dX2_init_53 : decode cX2_init 53 = .ok (.newarray .int, 2) := by decide +kernel
theorem dX2_init_55 : decode cX2_init 55 = .ok (.putfield 34, 3) := by decide +kernel
theorem dX2_init_58 : decode cX2_init 58 = .ok (.aload_n 0, 1) := by decide +kernel
theorem dX2_init_59 : decode cX2_init 59 = .ok (.iconst 3, 1) := by decide +kernel
theorem dX2_init_60 : decode cX2_init 60 = .ok (.newarray .int, 2) := by decide +kernel
theorem dX2_init_62 : decode cX2_init 62 = .ok (.putfield 37, 3) := by decide +kernel
theorem dX2_init_65 : decode cX2_init 65 = .ok (.return_, 1) := by decide +kernel
set_option maxRecDepth 20000 in
theorem ggX2_make_X2_storeOf : GoodIn wsX2_make wsX2_storeOf := goodIn_ca (goodIn_r _ [10, 11, 12, 13, 14, 64, 65, 66, 67, 68, 69, 70, 71, 72] (by decide +kernel) (by decide +kernel)) (goodIn_sub (fun _ h => List.mem_cons_of_mem _ (List.mem_append_right _ h)) (by decide +kernel))
set_option maxRecDepth 20000 in
theorem gX2_make_X2_storeOf : GoodIn wsX2_make (wsV RX2 40 RX2 yX2_storeOf wsX2_storeOf) := goodIn_app (goodIn_of _ (by decide +kernel)) ggX2_make_X2_storeOf
set_option maxRecDepth 20000 in
theorem ggX2_make_X2_checkSlot : GoodIn wsX2_make wsX2_checkSlot := goodIn_ca (goodIn_r _ [17, 11, 12, 18, 19, 9, 20] (by decide +kernel) (by decide +kernel)) (goodIn_sub (fun _ h => List.mem_cons_of_mem _ (List.mem_append_right _ h)) (by decide +kernel))
set_option maxRecDepth 20000 in
theorem gX2_make_X2_checkSlot : GoodIn wsX2_make (va_wsS RX2 44 yX2_checkSlot wsX2_checkSlot) := goodIn_app (goodIn_of _ (by decide +kernel)) ggX2_make_X2_checkSlot
set_option maxRecDepth 20000 in
theorem ggX2_make_X2_checkHeldOrNone : GoodIn wsX2_make wsX2_checkHeldOrNone := goodIn_ca (goodIn_r _ [23, 11, 12, 24, 25, 9, 26, 27, 28, 29, 73, 74, 75] (by decide +kernel) (by decide +kernel)) (goodIn_sub (fun _ h => List.mem_cons_of_mem _ (List.mem_append_right _ h)) (by decide +kernel))
set_option maxRecDepth 20000 in
theorem gX2_make_X2_checkHeldOrNone : GoodIn wsX2_make (va_wsS RX2 48 yX2_checkHeldOrNone wsX2_checkHeldOrNone) := goodIn_app (goodIn_of _ (by decide +kernel)) ggX2_make_X2_checkHeldOrNone
set_option maxRecDepth 20000 in
theorem ggX2_make_X2_checkFile : GoodIn wsX2_make wsX2_checkFile := goodIn_ca (goodIn_r _ [32, 1, 2, 33, 34, 9, 35] (by decide +kernel) (by decide +kernel)) (goodIn_sub (fun _ h => List.mem_cons_of_mem _ (List.mem_append_left _ (List.mem_append_left _ (List.mem_append_right _ h)))) (by decide +kernel))
set_option maxRecDepth 20000 in
theorem gX2_make_X2_checkFile : GoodIn wsX2_make (va_wsS RX2 52 yX2_checkFile wsX2_checkFile) := goodIn_app (goodIn_of _ (by decide +kernel)) ggX2_make_X2_checkFile
set_option maxRecDepth 20000 in
theorem ggX2_make_X0_isFull : GoodIn wsX2_make wsX0_isFull := goodIn_r _ [40, 41, 76, 77, 78, 79, 80, 81] (by decide +kernel) (by decide +kernel)
set_option maxRecDepth 20000 in
theorem gX2_make_X0_isFull : GoodIn wsX2_make (wsV RX2 62 RX0 yX0_isFull wsX0_isFull) := goodIn_app (goodIn_of _ (by decide +kernel)) ggX2_make_X0_isFull
set_option maxRecDepth 20000 in
theorem ggX2_make_X0_append : GoodIn wsX2_make wsX0_append := goodIn_r _ [45, 41, 46, 47, 48, 49, 37, 38, 39, 40, 50, 51, 52, 53, 54, 55, 56, 57, 19, 9, 20, 76, 77, 78, 79, 80, 81] (by decide +kernel) (by decide +kernel)
set_option maxRecDepth 20000 in
theorem gX2_make_X0_append : GoodIn wsX2_make (wsV RX2 71 RX0 yX0_append wsX0_append) := goodIn_app (goodIn_of _ (by decide +kernel)) ggX2_make_X0_append
set_option maxRecDepth 20000 in
theorem ggX2_make_X2_setOf : GoodIn wsX2_make wsX2_setOf := goodIn_r _ [29] (by decide +kernel) (by decide +kernel)
set_option maxRecDepth 20000 in
theorem gX2_make_X2_setOf : GoodIn wsX2_make (va_wsS RX2 79 yX2_setOf wsX2_setOf) := goodIn_app (goodIn_of _ (by decide +kernel)) ggX2_make_X2_setOf
set_option maxRecDepth 20000 in
theorem ggX2_make_X1_addFile : GoodIn wsX2_make wsX1_addFile := goodIn_r _ [62, 63, 34, 9, 35, 73, 74, 75] (by decide +kernel) (by decide +kernel)
set_option maxRecDepth 20000 in
theorem gX2_make_X1_addFile : GoodIn wsX2_make (wsV RX2 83 RX1 yX1_addFile wsX1_addFile) := goodIn_app (goodIn_of _ (by decide +kernel)) ggX2_make_X1_addFile
theorem dX2_make_0 : decode cX2_make 0 = .ok (.aload_n 0, 1) := by decide +kernel
theorem dX2_make_1 : decode cX2_make 1 = .ok (.iload_n 1, 1) := by decide +kernel
theorem dX2_make_2 : decode cX2_make 2 = .ok (.invokevirtual 40, 3) := by decide +kernel
theorem dX2_make_5 : decode cX2_make 5 = .ok (.astore 6, 2) := by decide +kernel
theorem dX2_make_7 : decode cX2_make 7 = .ok (.iload 4, 2) := by decide +kernel
theorem dX2_make_9 : decode cX2_make 9 = .ok (.invokestatic 44, 3) := by decide +kernel
theorem dX2_make_12 : decode cX2_make 12 = .ok (.aload 6, 2) := by decide +kernel
theorem dX2_make_14 : decode cX2_make 14 = .ok (.iload_n 2, 1) := by decide +kernel
theorem dX2_make_15 : decode cX2_make 15 = .ok (.invokestatic 48, 3) := by decide +kernel
theorem dX2_make_18 : decode cX2_make 18 = .ok (.aload 6, 2) := by decide +kernel
theorem dX2_make_20 : decode cX2_make 20 = .ok (.iload_n 3, 1) := by decide +kernel
theorem dX2_make_21 : decode cX2_make 21 = .ok (.invokestatic 48, 3) := by decide +kernel
theorem dX2_make_24 : decode cX2_make 24 = .ok (.iload 5, 2) := by decide +kernel
theorem dX2_make_26 : decode cX2_make 26 = .ok (.iconst (-1), 1) := by decide +kernel
theorem dX2_make_27 : decode cX2_make 27 = .ok (.if_icmp .eq 8, 3) := by decide +kernel
theorem dX2_make_30 : decode cX2_make 30 = .ok (.iload 5, 2) := by decide +kernel
theorem dX2_make_32 : decode cX2_make 32 = .ok (.invokestatic 52, 3) := by decide +kernel
theorem dX2_make_35 : decode cX2_make 35 = .ok (.iload_n 3, 1) := by decide +kernel
theorem dX2_make_36 : decode cX2_make 36 = .ok (.iconst (-1), 1) := by decide +kernel
theorem dX2_make_37 : decode cX2_make 37 = .ok (.if_icmp .eq 23, 3) := by decide +kernel
theorem dX2_make_40 : decode cX2_make 40 = .ok (.iload_n 2, 1) := by decide +kernel
theorem dX2_make_41 : decode cX2_make 41 = .ok (.iconst (-1), 1) := by decide +kernel
theorem dX2_make_42 : decode cX2_make 42 = .ok (.if_icmp .eq 8, 3) := by decide +kernel
theorem dX2_make_45 : decode cX2_make 45 = .ok (.iload_n 2, 1) := by decide +kernel
theorem dX2_make_46 : decode cX2_make 46 = .ok (.iload_n 3, 1) := by decide +kernel
theorem dX2_make_47 : decode cX2_make 47 = .ok (.if_icmp .ne 13, 3) := by decide +kernel
theorem dX2_make_50 : decode cX2_make 50 = .ok (.new 55, 3) := by decide +kernel
theorem dX2_make_53 : decode cX2_make 53 = .ok (.dup, 1) := by decide +kernel
theorem dX2_make_54 : decode cX2_make 54 = .ok (.ldc 57, 2) := by decide +kernel
theorem dX2_make_56 : decode cX2_make 56 = .ok (.invokespecial 59, 3) := by decide +kernel
theorem dX2_make_59 : decode cX2_make 59 = .ok (.athrow, 1) := by decide +kernel
theorem dX2_make_60 : decode cX2_make 60 = .ok (.aload_n 0, 1) := by decide +kernel
theorem dX2_make_61 : decode cX2_make 61 = .ok (.getfield 10, 3) := by decide +kernel
theorem dX2_make_64 : decode cX2_make 64 = .ok (.invokevirtual 62, 3) := by decide +kernel
theorem dX2_make_67 : decode cX2_make 67 = .ok (.ifCond .eq 13, 3) := by decide +kernel
theorem dX2_make_70 : decode cX2_make 70 = .ok (.new 66, 3) := by decide +kernel
theorem dX2_make_73 : decode cX2_make 73 = .ok (.dup, 1) := by decide +kernel
theorem dX2_make_74 : decode cX2_make 74 = .ok (.ldc 68, 2) := by decide +kernel
theorem dX2_make_76 : decode cX2_make 76 = .ok (.invokespecial 70, 3) := by decide +kernel
theorem dX2_make_79 : decode cX2_make 79 = .ok (.athrow, 1) := by decide +kernel
theorem dX2_make_80 : decode cX2_make 80 = .ok (.aload_n 0, 1) := by decide +kernel
theorem dX2_make_81 : decode cX2_make 81 = .ok (.getfield 10, 3) := by decide +kernel
theorem dX2_make_84 : decode cX2_make 84 = .ok (.iload_n 2, 1) := by decide +kernel
theorem dX2_make_85 : decode cX2_make 85 = .ok (.iload_n 3, 1) := by decide +kernel
theorem dX2_make_86 : decode cX2_make 86 = .ok (.iload 4, 2) := by decide +kernel
theorem dX2_make_88 : decode cX2_make 88 = .ok (.iload 5, 2) := by decide +kernel
theorem dX2_make_90 : decode cX2_make 90 = .ok (.invokevirtual 71, 3) := by decide +kernel
theorem dX2_make_93 : decode cX2_make 93 = .ok (.istore 7, 2) := by decide +kernel
theorem dX2_make_95 : decode cX2_make 95 = .ok (.aload 6, 2) := by decide +kernel
theorem dX2_make_97 : decode cX2_make 97 = .ok (.dup, 1) := by decide +kernel
theorem dX2_make_98 : decode cX2_make 98 = .ok (.getfield 75, 3) := by decide +kernel
theorem dX2_make_101 : decode cX2_make 101 = .ok (.iload 7, 2) := by decide +kernel
theorem dX2_make_103 : decode cX2_make 103 = .ok (.invokestatic 79, 3) := by decide +kernel
theorem dX2_make_106 : decode cX2_make 106 = .ok (.lor, 1) := by decide +kernel
theorem dX2_make_107 : decode cX2_make 107 = .ok (.putfield 75, 3) := by decide +kernel
theorem dX2_make_110 : decode cX2_make 110 = .ok (.aload 6, 2) := by decide +kernel
theorem dX2_make_112 : decode cX2_make 112 = .ok (.iload 5, 2) := by decide +kernel
theorem dX2_make_114 : decode cX2_make 114 = .ok (.invokevirtual 83, 3) := by decide +kernel
theorem dX2_make_117 : decode cX2_make 117 = .ok (.iload 7, 2) := by decide +kernel
theorem dX2_make_119 : decode cX2_make 119 = .ok (.ireturn, 1) := by decide +kernel
set_option maxRecDepth 20000 in
theorem ggX2_setRef_X2_storeOf : GoodIn wsX2_setRef wsX2_storeOf := goodIn_ca (goodIn_r _ [5, 6, 7, 8, 9, 35, 36, 37, 38, 39, 40, 41, 42, 43] (by decide +kernel) (by decide +kernel)) (goodIn_sub (fun _ h => List.mem_cons_of_mem _ (List.mem_append_right _ h)) (by decide +kernel))
set_option maxRecDepth 20000 in
theorem gX2_setRef_X2_storeOf : GoodIn wsX2_setRef (wsV RX2 40 RX2 yX2_storeOf wsX2_storeOf) := goodIn_app (goodIn_of _ (by decide +kernel)) ggX2_setRef_X2_storeOf
set_option maxRecDepth 20000 in
theorem ggX2_setRef_X2_checkRef : GoodIn wsX2_setRef wsX2_checkRef := goodIn_ca (goodIn_r _ [12, 6, 7, 13, 14, 4, 15] (by decide +kernel) (by decide +kernel)) (goodIn_sub (fun _ h => List.mem_cons_of_mem _ (List.mem_append_right _ h)) (by decide +kernel))
set_option maxRecDepth 20000 in
theorem gX2_setRef_X2_checkRef : GoodIn wsX2_setRef (va_wsS RX2 86 yX2_checkRef wsX2_checkRef) := goodIn_app (goodIn_of _ (by decide +kernel)) ggX2_setRef_X2_checkRef
set_option maxRecDepth 20000 in
theorem ggX2_setRef_X2_checkHeldOrNone : GoodIn wsX2_setRef wsX2_checkHeldOrNone := goodIn_ca (goodIn_r _ [18, 6, 7, 19, 20, 4, 21, 22, 23, 24, 44, 45, 46] (by decide +kernel) (by decide +kernel)) (goodIn_sub (fun _ h => List.mem_cons_of_mem _ (List.mem_append_right _ h)) (by decide +kernel))
set_option maxRecDepth 20000 in
theorem gX2_setRef_X2_checkHeldOrNone : GoodIn wsX2_setRef (va_wsS RX2 48 yX2_checkHeldOrNone wsX2_checkHeldOrNone) := goodIn_app (goodIn_of _ (by decide +kernel)) ggX2_setRef_X2_checkHeldOrNone
set_option maxRecDepth 20000 in
theorem ggX2_setRef_X1_commitOfRef : GoodIn wsX2_setRef wsX1_commitOfRef := goodIn_r _ [29, 30, 14, 4, 15, 44, 45, 46] (by decide +kernel) (by decide +kernel)
set_option maxRecDepth 20000 in
theorem gX2_setRef_X1_commitOfRef : GoodIn wsX2_setRef (wsV RX2 89 RX1 yX1_commitOfRef wsX1_commitOfRef) := goodIn_app (goodIn_of _ (by decide +kernel)) ggX2_setRef_X1_commitOfRef
set_option maxRecDepth 20000 in
theorem ggX2_setRef_X1_pointRef : GoodIn wsX2_setRef wsX1_pointRef := goodIn_r _ [34, 30, 14, 4, 15, 44, 45, 46] (by decide +kernel) (by decide +kernel)
set_option maxRecDepth 20000 in
theorem gX2_setRef_X1_pointRef : GoodIn wsX2_setRef (wsV RX2 93 RX1 yX1_pointRef wsX1_pointRef) := goodIn_app (goodIn_of _ (by decide +kernel)) ggX2_setRef_X1_pointRef
theorem dX2_setRef_0 : decode cX2_setRef 0 = .ok (.aload_n 0, 1) := by decide +kernel
theorem dX2_setRef_1 : decode cX2_setRef 1 = .ok (.iload_n 1, 1) := by decide +kernel
theorem dX2_setRef_2 : decode cX2_setRef 2 = .ok (.invokevirtual 40, 3) := by decide +kernel
theorem dX2_setRef_5 : decode cX2_setRef 5 = .ok (.astore 4, 2) := by decide +kernel
theorem dX2_setRef_7 : decode cX2_setRef 7 = .ok (.iload_n 2, 1) := by decide +kernel
theorem dX2_setRef_8 : decode cX2_setRef 8 = .ok (.invokestatic 86, 3) := by decide +kernel
theorem dX2_setRef_11 : decode cX2_setRef 11 = .ok (.aload 4, 2) := by decide +kernel
theorem dX2_setRef_13 : decode cX2_setRef 13 = .ok (.iload_n 3, 1) := by decide +kernel
theorem dX2_setRef_14 : decode cX2_setRef 14 = .ok (.invokestatic 48, 3) := by decide +kernel
theorem dX2_setRef_17 : decode cX2_setRef 17 = .ok (.aload 4, 2) := by decide +kernel
theorem dX2_setRef_19 : decode cX2_setRef 19 = .ok (.iload_n 2, 1) := by decide +kernel
theorem dX2_setRef_20 : decode cX2_setRef 20 = .ok (.invokevirtual 89, 3) := by decide +kernel
theorem dX2_setRef_23 : decode cX2_setRef 23 = .ok (.istore 5, 2) := by decide +kernel
theorem dX2_setRef_25 : decode cX2_setRef 25 = .ok (.aload 4, 2) := by decide +kernel
theorem dX2_setRef_27 : decode cX2_setRef 27 = .ok (.iload_n 2, 1) := by decide +kernel
theorem dX2_setRef_28 : decode cX2_setRef 28 = .ok (.iload_n 3, 1) := by decide +kernel
theorem dX2_setRef_29 : decode cX2_setRef 29 = .ok (.invokevirtual 93, 3) := by decide +kernel
theorem dX2_setRef_32 : decode cX2_setRef 32 = .ok (.iload 5, 2) := by decide +kernel
theorem dX2_setRef_34 : decode cX2_setRef 34 = .ok (.ireturn, 1) := by decide +kernel
set_option maxRecDepth 20000 in
theorem ggX2_ref_X2_storeOf : GoodIn wsX2_ref wsX2_storeOf := goodIn_ca (goodIn_r _ [5, 6, 7, 8, 9, 22, 23, 24, 25, 26, 27, 28, 29, 30] (by decide +kernel) (by decide +kernel)) (goodIn_sub (fun _ h => List.mem_cons_of_mem _ (List.mem_append_right _ h)) (by decide +kernel))
set_option maxRecDepth 20000 in
theorem gX2_ref_X2_storeOf : GoodIn wsX2_ref (wsV RX2 40 RX2 yX2_storeOf wsX2_storeOf) := goodIn_app (goodIn_of _ (by decide +kernel)) ggX2_ref_X2_storeOf
set_option maxRecDepth 20000 in
theorem ggX2_ref_X2_checkRef : GoodIn wsX2_ref wsX2_checkRef := goodIn_ca (goodIn_r _ [12, 6, 7, 13, 14, 4, 15] (by decide +kernel) (by decide +kernel)) (goodIn_sub (fun _ h => List.mem_cons_of_mem _ (List.mem_append_right _ h)) (by decide +kernel))
set_option maxRecDepth 20000 in
theorem gX2_ref_X2_checkRef : GoodIn wsX2_ref (va_wsS RX2 86 yX2_checkRef wsX2_checkRef) := goodIn_app (goodIn_of _ (by decide +kernel)) ggX2_ref_X2_checkRef
set_option maxRecDepth 20000 in
theorem ggX2_ref_X1_commitOfRef : GoodIn wsX2_ref wsX1_commitOfRef := goodIn_r _ [20, 21, 14, 4, 15, 31, 32, 33] (by decide +kernel) (by decide +kernel)
set_option maxRecDepth 20000 in
theorem gX2_ref_X1_commitOfRef : GoodIn wsX2_ref (wsV RX2 89 RX1 yX1_commitOfRef wsX1_commitOfRef) := goodIn_app (goodIn_of _ (by decide +kernel)) ggX2_ref_X1_commitOfRef
theorem dX2_ref_0 : decode cX2_ref 0 = .ok (.aload_n 0, 1) := by decide +kernel
theorem dX2_ref_1 : decode cX2_ref 1 = .ok (.iload_n 1, 1) := by decide +kernel
theorem dX2_ref_2 : decode cX2_ref 2 = .ok (.invokevirtual 40, 3) := by decide +kernel
theorem dX2_ref_5 : decode cX2_ref 5 = .ok (.astore_n 3, 1) := by decide +kernel
theorem dX2_ref_6 : decode cX2_ref 6 = .ok (.iload_n 2, 1) := by decide +kernel
theorem dX2_ref_7 : decode cX2_ref 7 = .ok (.invokestatic 86, 3) := by decide +kernel
theorem dX2_ref_10 : decode cX2_ref 10 = .ok (.aload_n 3, 1) := by decide +kernel
theorem dX2_ref_11 : decode cX2_ref 11 = .ok (.iload_n 2, 1) := by decide +kernel
theorem dX2_ref_12 : decode cX2_ref 12 = .ok (.invokevirtual 89, 3) := by decide +kernel
theorem dX2_ref_15 : decode cX2_ref 15 = .ok (.ireturn, 1) := by decide +kernel
set_option maxRecDepth 20000 in
theorem ggX2_fileAt_X2_checkCommit : GoodIn wsX2_fileAt wsX2_checkCommit := goodIn_ca (goodIn_r _ [6, 7, 8, 1, 9, 10, 11, 12, 13, 14, 27, 28, 29, 30, 31, 32, 33, 34, 35, 36, 37, 38, 39, 40, 41] (by decide +kernel) (by decide +kernel)) (goodIn_sub (fun _ h => List.mem_cons_of_mem _ (List.mem_append_right _ h)) (by decide +kernel))
set_option maxRecDepth 20000 in
theorem gX2_fileAt_X2_checkCommit : GoodIn wsX2_fileAt (wsV RX2 97 RX2 yX2_checkCommit wsX2_checkCommit) := goodIn_app (goodIn_of _ (by decide +kernel)) ggX2_fileAt_X2_checkCommit
set_option maxRecDepth 20000 in
theorem ggX2_fileAt_X2_checkSlot : GoodIn wsX2_fileAt wsX2_checkSlot := goodIn_ca (goodIn_r _ [17, 7, 8, 18, 19, 5, 20] (by decide +kernel) (by decide +kernel)) (goodIn_sub (fun _ h => List.mem_cons_of_mem _ (List.mem_append_right _ h)) (by decide +kernel))
set_option maxRecDepth 20000 in
theorem gX2_fileAt_X2_checkSlot : GoodIn wsX2_fileAt (va_wsS RX2 44 yX2_checkSlot wsX2_checkSlot) := goodIn_app (goodIn_of _ (by decide +kernel)) ggX2_fileAt_X2_checkSlot
set_option maxRecDepth 20000 in
theorem ggX2_fileAt_X0_fileIn : GoodIn wsX2_fileAt wsX0_fileIn := goodIn_r _ [24, 25, 26, 10, 11, 12, 13, 14, 19, 5, 20, 36, 37, 38, 39, 40, 41] (by decide +kernel) (by decide +kernel)
set_option maxRecDepth 20000 in
theorem gX2_fileAt_X0_fileIn : GoodIn wsX2_fileAt (wsV RX2 100 RX0 yX0_fileIn wsX0_fileIn) := goodIn_app (goodIn_of _ (by decide +kernel)) ggX2_fileAt_X0_fileIn
theorem dX2_fileAt_0 : decode cX2_fileAt 0 = .ok (.aload_n 0, 1) := by decide +kernel
theorem dX2_fileAt_1 : decode cX2_fileAt 1 = .ok (.iload_n 1, 1) := by decide +kernel
theorem dX2_fileAt_2 : decode cX2_fileAt 2 = .ok (.invokevirtual 97, 3) := by decide +kernel
theorem dX2_fileAt_5 : decode cX2_fileAt 5 = .ok (.iload_n 2, 1) := by decide +kernel
theorem dX2_fileAt_6 : decode cX2_fileAt 6 = .ok (.invokestatic 44, 3) := by decide +kernel
theorem dX2_fileAt_9 : decode cX2_fileAt 9 = .ok (.aload_n 0, 1) := by decide +kernel
theorem dX2_fileAt_10 : decode cX2_fileAt 10 = .ok (.getfield 10, 3) := by decide +kernel
theorem dX2_fileAt_13 : decode cX2_fileAt 13 = .ok (.iload_n 1, 1) := by decide +kernel
theorem dX2_fileAt_14 : decode cX2_fileAt 14 = .ok (.iload_n 2, 1) := by decide +kernel
theorem dX2_fileAt_15 : decode cX2_fileAt 15 = .ok (.invokevirtual 100, 3) := by decide +kernel
theorem dX2_fileAt_18 : decode cX2_fileAt 18 = .ok (.ireturn, 1) := by decide +kernel
set_option maxRecDepth 20000 in
theorem ggX2_fetch_X2_commitToFetch : GoodIn wsX2_fetch wsX2_commitToFetch := goodIn_ca (goodIn_ca (goodIn_ca (goodIn_r _ [9, 10, 11, 12, 13, 4, 14, 15, 8, 16, 17, 18, 19, 20, 21, 22, 23, 24, 25, 26, 27, 114, 115, 116, 117, 118, 119, 120, 121, 122, 123, 124, 125] (by decide +kernel) (by decide +kernel)) (goodIn_sub (fun _ h => List.mem_cons_of_mem _ (List.mem_append_left _ (List.mem_append_left _ (List.mem_append_right _ h)))) (by decide +kernel))) (goodIn_sub (fun _ h => List.mem_cons_of_mem _ (List.mem_append_left _ (List.mem_append_right _ h))) (by decide +kernel))) (goodIn_sub (fun _ h => List.mem_cons_of_mem _ (List.mem_append_right _ h)) (by decide +kernel))
set_option maxRecDepth 20000 in
theorem gX2_fetch_X2_commitToFetch : GoodIn wsX2_fetch (wsV RX2 104 RX2 yX2_commitToFetch wsX2_commitToFetch) := goodIn_app (goodIn_of _ (by decide +kernel)) ggX2_fetch_X2_commitToFetch
set_option maxRecDepth 20000 in
theorem ggX2_fetch_X2_talk : GoodIn wsX2_fetch wsX2_talk := goodIn_r _ [31, 3, 1, 4, 2, 32, 33, 34, 8, 35, 36, 37, 38, 39, 40, 41, 42, 43, 44, 45, 46, 47, 48, 49, 50, 51, 52, 53, 54, 55, 56, 57, 58, 59, 60, 61, 62, 114, 115, 116, 117, 118, 119, 120, 121, 122, 123, 124, 125, 126, 127, 128, 129, 130, 131] (by decide +kernel) (by decide +kernel)
set_option maxRecDepth 20000 in
theorem gX2_fetch_X2_talk : GoodIn wsX2_fetch (wsV RX2 107 RX2 yX2_talk wsX2_talk) := goodIn_app (goodIn_of _ (by decide +kernel)) ggX2_fetch_X2_talk
set_option maxRecDepth 20000 in
theorem ggX2_fetch_X0_reachOf : GoodIn wsX2_fetch wsX0_reachOf := goodIn_r _ [66, 67, 57, 58, 59, 60, 61, 45, 62, 47, 68, 69, 70, 71, 40, 8, 41, 72, 73, 74, 75, 126, 127, 128, 129, 130, 131] (by decide +kernel) (by decide +kernel)
set_option maxRecDepth 20000 in
theorem gX2_fetch_X0_reachOf : GoodIn wsX2_fetch (wsV RX2 111 RX0 yX0_reachOf wsX0_reachOf) := goodIn_app (goodIn_of _ (by decide +kernel)) ggX2_fetch_X0_reachOf
set_option maxRecDepth 20000 in
theorem ggX2_fetch_X0_filesOf : GoodIn wsX2_fetch wsX0_filesOf := goodIn_r _ [79, 80, 47, 37, 8, 38, 39, 40, 41, 81, 82, 83, 45, 84, 85, 86, 87, 88, 89, 59, 60, 61, 62, 90, 91, 92, 93, 126, 127, 128, 129, 130, 131] (by decide +kernel) (by decide +kernel)
set_option maxRecDepth 20000 in
theorem gX2_fetch_X0_filesOf : GoodIn wsX2_fetch (wsV RX2 117 RX0 yX0_filesOf wsX0_filesOf) := goodIn_app (goodIn_of _ (by decide +kernel)) ggX2_fetch_X0_filesOf
set_option maxRecDepth 20000 in
theorem ggX2_fetch_X1_addFiles : GoodIn wsX2_fetch wsX1_addFiles := goodIn_r _ [97, 98, 99, 100, 101, 25, 102, 92, 8, 93, 123, 124, 125] (by decide +kernel) (by decide +kernel)
set_option maxRecDepth 20000 in
theorem gX2_fetch_X1_addFiles : GoodIn wsX2_fetch (wsV RX2 121 RX1 yX1_addFiles wsX1_addFiles) := goodIn_app (goodIn_of _ (by decide +kernel)) ggX2_fetch_X1_addFiles
set_option maxRecDepth 20000 in
theorem ggX2_fetch_X1_pointRef : GoodIn wsX2_fetch wsX1_pointRef := goodIn_r _ [106, 27, 20, 8, 21, 123, 124, 125] (by decide +kernel) (by decide +kernel)
set_option maxRecDepth 20000 in
theorem gX2_fetch_X1_pointRef : GoodIn wsX2_fetch (wsV RX2 93 RX1 yX1_pointRef wsX1_pointRef) := goodIn_app (goodIn_of _ (by decide +kernel)) ggX2_fetch_X1_pointRef
set_option maxRecDepth 20000 in
theorem ggX2_fetch_J13_bitCount_95d88 : GoodIn wsX2_fetch wsJ13_bitCount_95d88 := goodIn_r _ [110, 111, 112, 113] (by decide +kernel) (by decide +kernel)
set_option maxRecDepth 20000 in
theorem gX2_fetch_J13_bitCount_95d88 : GoodIn wsX2_fetch (va_wsS RX2 125 yJ13_bitCount_95d88 wsJ13_bitCount_95d88) := goodIn_app (goodIn_of _ (by decide +kernel)) ggX2_fetch_J13_bitCount_95d88
theorem dX2_fetch_0 : decode cX2_fetch 0 = .ok (.aload_n 0, 1) := by decide +kernel
theorem dX2_fetch_1 : decode cX2_fetch 1 = .ok (.iload_n 1, 1) := by decide +kernel
theorem dX2_fetch_2 : decode cX2_fetch 2 = .ok (.iload_n 2, 1) := by decide +kernel
theorem dX2_fetch_3 : decode cX2_fetch 3 = .ok (.invokevirtual 104, 3) := by decide +kernel
theorem dX2_fetch_6 : decode cX2_fetch 6 = .ok (.istore 4, 2) := by decide +kernel
theorem dX2_fetch_8 : decode cX2_fetch 8 = .ok (.aload_n 0, 1) := by decide +kernel
theorem dX2_fetch_9 : decode cX2_fetch 9 = .ok (.invokevirtual 107, 3) := by decide +kernel
theorem dX2_fetch_12 : decode cX2_fetch 12 = .ok (.lstore 5, 2) := by decide +kernel
theorem dX2_fetch_14 : decode cX2_fetch 14 = .ok (.aload_n 0, 1) := by decide +kernel
theorem dX2_fetch_15 : decode cX2_fetch 15 = .ok (.getfield 10, 3) := by decide +kernel
theorem dX2_fetch_18 : decode cX2_fetch 18 = .ok (.iload 4, 2) := by decide +kernel
theorem dX2_fetch_20 : decode cX2_fetch 20 = .ok (.iload_n 2, 1) := by decide +kernel
theorem dX2_fetch_21 : decode cX2_fetch 21 = .ok (.invokevirtual 111, 3) := by decide +kernel
theorem dX2_fetch_24 : decode cX2_fetch 24 = .ok (.lload 5, 2) := by decide +kernel
theorem dX2_fetch_26 : decode cX2_fetch 26 = .ok (.ldc2_w 115, 3) := by decide +kernel
theorem dX2_fetch_29 : decode cX2_fetch 29 = .ok (.lxor, 1) := by decide +kernel
theorem dX2_fetch_30 : decode cX2_fetch 30 = .ok (.land, 1) := by decide +kernel
theorem dX2_fetch_31 : decode cX2_fetch 31 = .ok (.lstore 7, 2) := by decide +kernel
theorem dX2_fetch_33 : decode cX2_fetch 33 = .ok (.aload_n 0, 1) := by decide +kernel
theorem dX2_fetch_34 : decode cX2_fetch 34 = .ok (.getfield 23, 3) := by decide +kernel
theorem dX2_fetch_37 : decode cX2_fetch 37 = .ok (.dup, 1) := by decide +kernel
theorem dX2_fetch_38 : decode cX2_fetch 38 = .ok (.getfield 75, 3) := by decide +kernel
theorem dX2_fetch_41 : decode cX2_fetch 41 = .ok (.lload 7, 2) := by decide +kernel
theorem dX2_fetch_43 : decode cX2_fetch 43 = .ok (.lor, 1) := by decide +kernel
theorem dX2_fetch_44 : decode cX2_fetch 44 = .ok (.putfield 75, 3) := by decide +kernel
theorem dX2_fetch_47 : decode cX2_fetch 47 = .ok (.iload_n 3, 1) := by decide +kernel
theorem dX2_fetch_48 : decode cX2_fetch 48 = .ok (.ifCond .eq 23, 3) := by decide +kernel
theorem dX2_fetch_51 : decode cX2_fetch 51 = .ok (.aload_n 0, 1) := by decide +kernel
theorem dX2_fetch_52 : decode cX2_fetch 52 = .ok (.getfield 23, 3) := by decide +kernel
theorem dX2_fetch_55 : decode cX2_fetch 55 = .ok (.aload_n 0, 1) := by decide +kernel
theorem dX2_fetch_56 : decode cX2_fetch 56 = .ok (.getfield 10, 3) := by decide +kernel
theorem dX2_fetch_59 : decode cX2_fetch 59 = .ok (.lload 7, 2) := by decide +kernel
theorem dX2_fetch_61 : decode cX2_fetch 61 = .ok (.invokevirtual 117, 3) := by decide +kernel
theorem dX2_fetch_64 : decode cX2_fetch 64 = .ok (.aload_n 0, 1) := by decide +kernel
theorem dX2_fetch_65 : decode cX2_fetch 65 = .ok (.getfield 19, 3) := by decide +kernel
theorem dX2_fetch_68 : decode cX2_fetch 68 = .ok (.invokevirtual 121, 3) := by decide +kernel
theorem dX2_fetch_71 : decode cX2_fetch 71 = .ok (.aload_n 0, 1) := by decide +kernel
theorem dX2_fetch_72 : decode cX2_fetch 72 = .ok (.getfield 23, 3) := by decide +kernel
theorem dX2_fetch_75 : decode cX2_fetch 75 = .ok (.iload_n 1, 1) := by decide +kernel
theorem dX2_fetch_76 : decode cX2_fetch 76 = .ok (.iload 4, 2) := by decide +kernel
theorem dX2_fetch_78 : decode cX2_fetch 78 = .ok (.invokevirtual 93, 3) := by decide +kernel
theorem dX2_fetch_81 : decode cX2_fetch 81 = .ok (.lload 7, 2) := by decide +kernel
theorem dX2_fetch_83 : decode cX2_fetch 83 = .ok (.invokestatic 125, 3) := by decide +kernel
theorem dX2_fetch_86 : decode cX2_fetch 86 = .ok (.ireturn, 1) := by decide +kernel
set_option maxRecDepth 20000 in
theorem ggX2_wouldFetch_X2_commitToFetch : GoodIn wsX2_wouldFetch wsX2_commitToFetch := goodIn_ca (goodIn_ca (goodIn_ca (goodIn_r _ [8, 9, 10, 11, 12, 13, 14, 15, 7, 16, 17, 18, 19, 20, 21, 22, 23, 24, 25, 26, 27, 58, 59, 60, 61, 62, 63, 64, 65, 66, 67, 68, 69] (by decide +kernel) (by decide +kernel)) (goodIn_sub (fun _ h => List.mem_cons_of_mem _ (List.mem_append_left _ (List.mem_append_left _ (List.mem_append_right _ h)))) (by decide +kernel))) (goodIn_sub (fun _ h => List.mem_cons_of_mem _ (List.mem_append_left _ (List.mem_append_right _ h))) (by decide +kernel))) (goodIn_sub (fun _ h => List.mem_cons_of_mem _ (List.mem_append_right _ h)) (by decide +kernel))
set_option maxRecDepth 20000 in
theorem gX2_wouldFetch_X2_commitToFetch : GoodIn wsX2_wouldFetch (wsV RX2 104 RX2 yX2_commitToFetch wsX2_commitToFetch) := goodIn_app (goodIn_of _ (by decide +kernel)) ggX2_wouldFetch_X2_commitToFetch
set_option maxRecDepth 20000 in
theorem ggX2_wouldFetch_X0_reachOf : GoodIn wsX2_wouldFetch wsX0_reachOf := goodIn_r _ [32, 33, 34, 35, 36, 37, 38, 31, 39, 40, 41, 42, 43, 44, 45, 7, 46, 47, 48, 49, 50, 70, 71, 72, 73, 74, 75] (by decide +kernel) (by decide +kernel)
set_option maxRecDepth 20000 in
theorem gX2_wouldFetch_X0_reachOf : GoodIn wsX2_wouldFetch (wsV RX2 111 RX0 yX0_reachOf wsX0_reachOf) := goodIn_app (goodIn_of _ (by decide +kernel)) ggX2_wouldFetch_X0_reachOf
set_option maxRecDepth 20000 in
theorem ggX2_wouldFetch_J13_bitCount_95d88 : GoodIn wsX2_wouldFetch wsJ13_bitCount_95d88 := goodIn_r _ [54, 55, 56, 57] (by decide +kernel) (by decide +kernel)
set_option maxRecDepth 20000 in
theorem gX2_wouldFetch_J13_bitCount_95d88 : GoodIn wsX2_wouldFetch (va_wsS RX2 125 yJ13_bitCount_95d88 wsJ13_bitCount_95d88) := goodIn_app (goodIn_of _ (by decide +kernel)) ggX2_wouldFetch_J13_bitCount_95d88
theorem dX2_wouldFetch_0 : decode cX2_wouldFetch 0 = .ok (.aload_n 0, 1) := by decide +kernel
theorem dX2_wouldFetch_1 : decode cX2_wouldFetch 1 = .ok (.iload_n 1, 1) := by decide +kernel
theorem dX2_wouldFetch_2 : decode cX2_wouldFetch 2 = .ok (.iload_n 2, 1) := by decide +kernel
theorem dX2_wouldFetch_3 : decode cX2_wouldFetch 3 = .ok (.invokevirtual 104, 3) := by decide +kernel
theorem dX2_wouldFetch_6 : decode cX2_wouldFetch 6 = .ok (.istore_n 3, 1) := by decide +kernel
theorem dX2_wouldFetch_7 : decode cX2_wouldFetch 7 = .ok (.aload_n 0, 1) := by decide +kernel
theorem dX2_wouldFetch_8 : decode cX2_wouldFetch 8 = .ok (.getfield 10, 3) := by decide +kernel
theorem dX2_wouldFetch_11 : decode cX2_wouldFetch 11 = .ok (.iload_n 3, 1) := by decide +kernel
theorem dX2_wouldFetch_12 : decode cX2_wouldFetch 12 = .ok (.iload_n 2, 1) := by decide +kernel
theorem dX2_wouldFetch_13 : decode cX2_wouldFetch 13 = .ok (.invokevirtual 111, 3) := by decide +kernel
theorem dX2_wouldFetch_16 : decode cX2_wouldFetch 16 = .ok (.aload_n 0, 1) := by decide +kernel
theorem dX2_wouldFetch_17 : decode cX2_wouldFetch 17 = .ok (.getfield 23, 3) := by decide +kernel
theorem dX2_wouldFetch_20 : decode cX2_wouldFetch 20 = .ok (.getfield 75, 3) := by decide +kernel
theorem dX2_wouldFetch_23 : decode cX2_wouldFetch 23 = .ok (.ldc2_w 115, 3) := by decide +kernel
theorem dX2_wouldFetch_26 : decode cX2_wouldFetch 26 = .ok (.lxor, 1) := by decide +kernel
theorem dX2_wouldFetch_27 : decode cX2_wouldFetch 27 = .ok (.land, 1) := by decide +kernel
theorem dX2_wouldFetch_28 : decode cX2_wouldFetch 28 = .ok (.invokestatic 125, 3) := by decide +kernel
theorem dX2_wouldFetch_31 : decode cX2_wouldFetch 31 = .ok (.ireturn, 1) := by decide +kernel
theorem dX2_rounds_0 : decode cX2_rounds 0 = .ok (.aload_n 0, 1) := by decide +kernel
theorem dX2_rounds_1 : decode cX2_rounds 1 = .ok (.getfield 131, 3) := by decide +kernel
theorem dX2_rounds_4 : decode cX2_rounds 4 = .ok (.ireturn, 1) := by decide +kernel
set_option maxRecDepth 20000 in
theorem ggX2_load_X2_checkFile : GoodIn wsX2_load wsX2_checkFile := goodIn_ca (goodIn_r _ [8, 9, 10, 11, 12, 7, 13] (by decide +kernel) (by decide +kernel)) (goodIn_sub (fun _ h => List.mem_cons_of_mem _ (List.mem_append_right _ h)) (by decide +kernel))
set_option maxRecDepth 20000 in
theorem gX2_load_X2_checkFile : GoodIn wsX2_load (va_wsS RX2 52 yX2_checkFile wsX2_checkFile) := goodIn_app (goodIn_of _ (by decide +kernel)) ggX2_load_X2_checkFile
set_option maxRecDepth 20000 in
theorem ggX2_load_X1_holdsFile : GoodIn wsX2_load wsX1_holdsFile := goodIn_r _ [18, 19, 12, 7, 13, 33, 34, 35] (by decide +kernel) (by decide +kernel)
set_option maxRecDepth 20000 in
theorem gX2_load_X1_holdsFile : GoodIn wsX2_load (wsV RX2 135 RX1 yX1_holdsFile wsX1_holdsFile) := goodIn_app (goodIn_of _ (by decide +kernel)) ggX2_load_X1_holdsFile
set_option maxRecDepth 20000 in
theorem ggX2_load_X1_addFile : GoodIn wsX2_load wsX1_addFile := goodIn_r _ [23, 19, 12, 7, 13, 33, 34, 35] (by decide +kernel) (by decide +kernel)
set_option maxRecDepth 20000 in
theorem gX2_load_X1_addFile : GoodIn wsX2_load (wsV RX2 83 RX1 yX1_addFile wsX1_addFile) := goodIn_app (goodIn_of _ (by decide +kernel)) ggX2_load_X1_addFile
theorem dX2_load_0 : decode cX2_load 0 = .ok (.iload_n 1, 1) := by decide +kernel
theorem dX2_load_1 : decode cX2_load 1 = .ok (.invokestatic 52, 3) := by decide +kernel
theorem dX2_load_4 : decode cX2_load 4 = .ok (.aload_n 0, 1) := by decide +kernel
theorem dX2_load_5 : decode cX2_load 5 = .ok (.getfield 19, 3) := by decide +kernel
theorem dX2_load_8 : decode cX2_load 8 = .ok (.iload_n 1, 1) := by decide +kernel
theorem dX2_load_9 : decode cX2_load 9 = .ok (.invokevirtual 135, 3) := by decide +kernel
theorem dX2_load_12 : decode cX2_load 12 = .ok (.ifCond .ne 13, 3) := by decide +kernel
theorem dX2_load_15 : decode cX2_load 15 = .ok (.new 66, 3) := by decide +kernel
theorem dX2_load_18 : decode cX2_load 18 = .ok (.dup, 1) := by decide +kernel
theorem dX2_load_19 : decode cX2_load 19 = .ok (.ldc 139, 2) := by decide +kernel
theorem dX2_load_21 : decode cX2_load 21 = .ok (.invokespecial 70, 3) := by decide +kernel
theorem dX2_load_24 : decode cX2_load 24 = .ok (.athrow, 1) := by decide +kernel
theorem dX2_load_25 : decode cX2_load 25 = .ok (.aload_n 0, 1) := by decide +kernel
theorem dX2_load_26 : decode cX2_load 26 = .ok (.getfield 23, 3) := by decide +kernel
theorem dX2_load_29 : decode cX2_load 29 = .ok (.iload_n 1, 1) := by decide +kernel
theorem dX2_load_30 : decode cX2_load 30 = .ok (.invokevirtual 135, 3) := by decide +kernel
theorem dX2_load_33 : decode cX2_load 33 = .ok (.ifCond .ne 7, 3) := by decide +kernel
theorem dX2_load_36 : decode cX2_load 36 = .ok (.iconst 1, 1) := by decide +kernel
theorem dX2_load_37 : decode cX2_load 37 = .ok (.goto 4, 3) := by decide +kernel
theorem dX2_load_40 : decode cX2_load 40 = .ok (.iconst 0, 1) := by decide +kernel
theorem dX2_load_41 : decode cX2_load 41 = .ok (.istore_n 2, 1) := by decide +kernel
theorem dX2_load_42 : decode cX2_load 42 = .ok (.aload_n 0, 1) := by decide +kernel
theorem dX2_load_43 : decode cX2_load 43 = .ok (.getfield 23, 3) := by decide +kernel
theorem dX2_load_46 : decode cX2_load 46 = .ok (.iload_n 1, 1) := by decide +kernel
theorem dX2_load_47 : decode cX2_load 47 = .ok (.invokevirtual 83, 3) := by decide +kernel
theorem dX2_load_50 : decode cX2_load 50 = .ok (.iload_n 2, 1) := by decide +kernel
theorem dX2_load_51 : decode cX2_load 51 = .ok (.ireturn, 1) := by decide +kernel
set_option maxRecDepth 20000 in
theorem ggX2_missing_X0_filesOf : GoodIn wsX2_missing wsX0_filesOf := goodIn_r _ [7, 8, 9, 10, 11, 12, 13, 14, 15, 16, 17, 18, 6, 19, 20, 21, 22, 23, 24, 25, 26, 27, 28, 29, 30, 31, 32, 51, 52, 53, 54, 55, 56] (by decide +kernel) (by decide +kernel)
set_option maxRecDepth 20000 in
theorem gX2_missing_X0_filesOf : GoodIn wsX2_missing (wsV RX2 117 RX0 yX0_filesOf wsX0_filesOf) := goodIn_app (goodIn_of _ (by decide +kernel)) ggX2_missing_X0_filesOf
set_option maxRecDepth 20000 in
theorem ggX2_missing_X1_countLacking : GoodIn wsX2_missing wsX1_countLacking := goodIn_r _ [37, 38, 48, 49, 50] (by decide +kernel) (by decide +kernel)
set_option maxRecDepth 20000 in
theorem gX2_missing_X1_countLacking : GoodIn wsX2_missing (wsV RX2 141 RX1 yX1_countLacking wsX1_countLacking) := goodIn_app (goodIn_of _ (by decide +kernel)) ggX2_missing_X1_countLacking
theorem dX2_missing_0 : decode cX2_missing 0 = .ok (.aload_n 0, 1) := by decide +kernel
theorem dX2_missing_1 : decode cX2_missing 1 = .ok (.getfield 23, 3) := by decide +kernel
theorem dX2_missing_4 : decode cX2_missing 4 = .ok (.aload_n 0, 1) := by decide +kernel
theorem dX2_missing_5 : decode cX2_missing 5 = .ok (.getfield 10, 3) := by decide +kernel
theorem dX2_missing_8 : decode cX2_missing 8 = .ok (.aload_n 0, 1) := by decide +kernel
theorem dX2_missing_9 : decode cX2_missing 9 = .ok (.getfield 23, 3) := by decide +kernel
theorem dX2_missing_12 : decode cX2_missing 12 = .ok (.getfield 75, 3) := by decide +kernel
theorem dX2_missing_15 : decode cX2_missing 15 = .ok (.invokevirtual 117, 3) := by decide +kernel
theorem dX2_missing_18 : decode cX2_missing 18 = .ok (.invokevirtual 141, 3) := by decide +kernel
theorem dX2_missing_21 : decode cX2_missing 21 = .ok (.ireturn, 1) := by decide +kernel
set_option maxRecDepth 20000 in
theorem ggX2_protect_X2_checkRef : GoodIn wsX2_protect wsX2_checkRef := goodIn_ca (goodIn_r _ [5, 6, 7, 8, 9, 4, 10] (by decide +kernel) (by decide +kernel)) (goodIn_sub (fun _ h => List.mem_cons_of_mem _ (List.mem_append_right _ h)) (by decide +kernel))
set_option maxRecDepth 20000 in
theorem gX2_protect_X2_checkRef : GoodIn wsX2_protect (va_wsS RX2 86 yX2_checkRef wsX2_checkRef) := goodIn_app (goodIn_of _ (by decide +kernel)) ggX2_protect_X2_checkRef
theorem dX2_protect_0 : decode cX2_protect 0 = .ok (.iload_n 1, 1) := by decide +kernel
theorem dX2_protect_1 : decode cX2_protect 1 = .ok (.invokestatic 86, 3) := by decide +kernel
theorem dX2_protect_4 : decode cX2_protect 4 = .ok (.aload_n 0, 1) := by decide +kernel
theorem dX2_protect_5 : decode cX2_protect 5 = .ok (.getfield 26, 3) := by decide +kernel
theorem dX2_protect_8 : decode cX2_protect 8 = .ok (.iload_n 1, 1) := by decide +kernel
theorem dX2_protect_9 : decode cX2_protect 9 = .ok (.baload, 1) := by decide +kernel
theorem dX2_protect_10 : decode cX2_protect 10 = .ok (.iload_n 2, 1) := by decide +kernel
theorem dX2_protect_11 : decode cX2_protect 11 = .ok (.if_icmp .eq 7, 3) := by decide +kernel
theorem dX2_protect_14 : decode cX2_protect 14 = .ok (.iconst 1, 1) := by decide +kernel
theorem dX2_protect_15 : decode cX2_protect 15 = .ok (.goto 4, 3) := by decide +kernel
theorem dX2_protect_18 : decode cX2_protect 18 = .ok (.iconst 0, 1) := by decide +kernel
theorem dX2_protect_19 : decode cX2_protect 19 = .ok (.istore_n 3, 1) := by decide +kernel
theorem dX2_protect_20 : decode cX2_protect 20 = .ok (.aload_n 0, 1) := by decide +kernel
theorem dX2_protect_21 : decode cX2_protect 21 = .ok (.getfield 26, 3) := by decide +kernel
theorem dX2_protect_24 : decode cX2_protect 24 = .ok (.iload_n 1, 1) := by decide +kernel
theorem dX2_protect_25 : decode cX2_protect 25 = .ok (.iload_n 2, 1) := by decide +kernel
theorem dX2_protect_26 : decode cX2_protect 26 = .ok (.bastore, 1) := by decide +kernel
theorem dX2_protect_27 : decode cX2_protect 27 = .ok (.iload_n 3, 1) := by decide +kernel
theorem dX2_protect_28 : decode cX2_protect 28 = .ok (.ireturn, 1) := by decide +kernel
set_option maxRecDepth 20000 in
theorem ggX2_move_X2_checkRef : GoodIn wsX2_move wsX2_checkRef := goodIn_ca (goodIn_r _ [10, 11, 12, 13, 14, 9, 15] (by decide +kernel) (by decide +kernel)) (goodIn_sub (fun _ h => List.mem_cons_of_mem _ (List.mem_append_right _ h)) (by decide +kernel))
set_option maxRecDepth 20000 in
theorem gX2_move_X2_checkRef : GoodIn wsX2_move (va_wsS RX2 86 yX2_checkRef wsX2_checkRef) := goodIn_app (goodIn_of _ (by decide +kernel)) ggX2_move_X2_checkRef
set_option maxRecDepth 20000 in
theorem ggX2_move_X2_checkCommitOrNone : GoodIn wsX2_move wsX2_checkCommitOrNone := goodIn_ca (goodIn_r _ [19, 20, 21, 22, 9, 23, 11, 12, 24, 25, 26, 27, 28, 29, 30, 31, 32, 33, 34, 35, 36, 37, 38, 39, 40, 41, 42, 43, 44, 45] (by decide +kernel) (by decide +kernel)) (goodIn_sub (fun _ h => List.mem_cons_of_mem _ (List.mem_append_right _ h)) (by decide +kernel))
set_option maxRecDepth 20000 in
theorem gX2_move_X2_checkCommitOrNone : GoodIn wsX2_move (wsV RX2 145 RX2 yX2_checkCommitOrNone wsX2_checkCommitOrNone) := goodIn_app (goodIn_of _ (by decide +kernel)) ggX2_move_X2_checkCommitOrNone
theorem dX2_move_0 : decode cX2_move 0 = .ok (.iload_n 1, 1) := by decide +kernel
theorem dX2_move_1 : decode cX2_move 1 = .ok (.invokestatic 86, 3) := by decide +kernel
theorem dX2_move_4 : decode cX2_move 4 = .ok (.aload_n 0, 1) := by decide +kernel
theorem dX2_move_5 : decode cX2_move 5 = .ok (.iload_n 2, 1) := by decide +kernel
theorem dX2_move_6 : decode cX2_move 6 = .ok (.invokevirtual 145, 3) := by decide +kernel
theorem dX2_move_9 : decode cX2_move 9 = .ok (.aload_n 0, 1) := by decide +kernel
theorem dX2_move_10 : decode cX2_move 10 = .ok (.iload_n 3, 1) := by decide +kernel
theorem dX2_move_11 : decode cX2_move 11 = .ok (.invokevirtual 145, 3) := by decide +kernel
theorem dX2_move_14 : decode cX2_move 14 = .ok (.aload_n 0, 1) := by decide +kernel
theorem dX2_move_15 : decode cX2_move 15 = .ok (.getfield 148, 3) := by decide +kernel
theorem dX2_move_18 : decode cX2_move 18 = .ok (.iconst 3, 1) := by decide +kernel
theorem dX2_move_19 : decode cX2_move 19 = .ok (.if_icmp .lt 13, 3) := by decide +kernel
theorem dX2_move_22 : decode cX2_move 22 = .ok (.new 66, 3) := by decide +kernel
theorem dX2_move_25 : decode cX2_move 25 = .ok (.dup, 1) := by decide +kernel
theorem dX2_move_26 : decode cX2_move 26 = .ok (.ldc 151, 2) := by decide +kernel
theorem dX2_move_28 : decode cX2_move 28 = .ok (.invokespecial 70, 3) := by decide +kernel
theorem dX2_move_31 : decode cX2_move 31 = .ok (.athrow, 1) := by decide +kernel
theorem dX2_move_32 : decode cX2_move 32 = .ok (.aload_n 0, 1) := by decide +kernel
theorem dX2_move_33 : decode cX2_move 33 = .ok (.getfield 30, 3) := by decide +kernel
theorem dX2_move_36 : decode cX2_move 36 = .ok (.aload_n 0, 1) := by decide +kernel
theorem dX2_move_37 : decode cX2_move 37 = .ok (.getfield 148, 3) := by decide +kernel
theorem dX2_move_40 : decode cX2_move 40 = .ok (.iload_n 1, 1) := by decide +kernel
theorem dX2_move_41 : decode cX2_move 41 = .ok (.iastore, 1) := by decide +kernel
theorem dX2_move_42 : decode cX2_move 42 = .ok (.aload_n 0, 1) := by decide +kernel
theorem dX2_move_43 : decode cX2_move 43 = .ok (.getfield 34, 3) := by decide +kernel
theorem dX2_move_46 : decode cX2_move 46 = .ok (.aload_n 0, 1) := by decide +kernel
theorem dX2_move_47 : decode cX2_move 47 = .ok (.getfield 148, 3) := by decide +kernel
theorem dX2_move_50 : decode cX2_move 50 = .ok (.iload_n 2, 1) := by decide +kernel
theorem dX2_move_51 : decode cX2_move 51 = .ok (.iastore, 1) := by decide +kernel
theorem dX2_move_52 : decode cX2_move 52 = .ok (.aload_n 0, 1) := by decide +kernel
theorem dX2_move_53 : decode cX2_move 53 = .ok (.getfield 37, 3) := by decide +kernel
theorem dX2_move_56 : decode cX2_move 56 = .ok (.aload_n 0, 1) := by decide +kernel
theorem dX2_move_57 : decode cX2_move 57 = .ok (.getfield 148, 3) := by decide +kernel
theorem dX2_move_60 : decode cX2_move 60 = .ok (.iload_n 3, 1) := by decide +kernel
theorem dX2_move_61 : decode cX2_move 61 = .ok (.iastore, 1) := by decide +kernel
theorem dX2_move_62 : decode cX2_move 62 = .ok (.aload_n 0, 1) := by decide +kernel
theorem dX2_move_63 : decode cX2_move 63 = .ok (.dup, 1) := by decide +kernel
theorem dX2_move_64 : decode cX2_move 64 = .ok (.getfield 148, 3) := by decide +kernel
theorem dX2_move_67 : decode cX2_move 67 = .ok (.iconst 1, 1) := by decide +kernel
theorem dX2_move_68 : decode cX2_move 68 = .ok (.iadd, 1) := by decide +kernel
theorem dX2_move_69 : decode cX2_move 69 = .ok (.putfield 148, 3) := by decide +kernel
theorem dX2_move_72 : decode cX2_move 72 = .ok (.aload_n 0, 1) := by decide +kernel
theorem dX2_move_73 : decode cX2_move 73 = .ok (.getfield 148, 3) := by decide +kernel
theorem dX2_move_76 : decode cX2_move 76 = .ok (.ireturn, 1) := by decide +kernel
set_option maxRecDepth 20000 in
theorem ggX2_push_X2_firstRefusal : GoodIn wsX2_push wsX2_firstRefusal := goodIn_r _ [6, 1, 7, 8, 9, 10, 11, 12, 5, 13, 14, 15, 16, 17, 18, 19, 20, 21, 22, 23, 24, 25, 26, 27, 28, 29, 30, 31, 32, 33, 34, 35, 36, 37, 38, 39, 40, 41, 42, 43, 44, 45, 46, 47, 48, 49, 50, 51, 52, 53, 54, 55, 56, 57, 58, 59, 60, 61, 62, 63, 106, 107, 108, 109, 110, 111, 112, 113, 114, 115, 116, 117, 118, 119, 120, 121, 122, 123] (by decide +kernel) (by decide +kernel)
set_option maxRecDepth 20000 in
theorem gX2_push_X2_firstRefusal : GoodIn wsX2_push (wsV RX2 153 RX2 yX2_firstRefusal wsX2_firstRefusal) := goodIn_app (goodIn_of _ (by decide +kernel)) ggX2_push_X2_firstRefusal
set_option maxRecDepth 20000 in
theorem ggX2_push_X2_doMoves : GoodIn wsX2_push wsX2_doMoves := goodIn_r _ [67, 1, 14, 7, 9, 15, 16, 62, 68, 69, 70, 20, 71, 22, 23, 5, 24, 25, 26, 27, 28, 29, 30, 31, 32, 33, 34, 35, 36, 37, 38, 39, 40, 41, 42, 43, 44, 45, 46, 47, 48, 49, 50, 72, 73, 74, 75, 76, 77, 78, 79, 80, 81, 82, 83, 84, 85, 86, 87, 88, 89, 90, 91, 92, 93, 94, 95, 96, 97, 98, 99, 100, 101, 102, 103, 104, 105, 106, 107, 108, 109, 110, 111, 112, 113, 114, 115, 116, 117, 118, 119, 120, 121, 122, 123] (by decide +kernel) (by decide +kernel)
set_option maxRecDepth 20000 in
theorem gX2_push_X2_doMoves : GoodIn wsX2_push (wsV RX2 157 RX2 yX2_doMoves wsX2_doMoves) := goodIn_app (goodIn_of _ (by decide +kernel)) ggX2_push_X2_doMoves
theorem dX2_push_0 : decode cX2_push 0 = .ok (.aload_n 0, 1) := by decide +kernel
theorem dX2_push_1 : decode cX2_push 1 = .ok (.invokevirtual 153, 3) := by decide +kernel
theorem dX2_push_4 : decode cX2_push 4 = .ok (.istore_n 1, 1) := by decide +kernel
theorem dX2_push_5 : decode cX2_push 5 = .ok (.iload_n 1, 1) := by decide +kernel
theorem dX2_push_6 : decode cX2_push 6 = .ok (.ifCond .ne 10, 3) := by decide +kernel
theorem dX2_push_9 : decode cX2_push 9 = .ok (.aload_n 0, 1) := by decide +kernel
theorem dX2_push_10 : decode cX2_push 10 = .ok (.invokevirtual 157, 3) := by decide +kernel
theorem dX2_push_13 : decode cX2_push 13 = .ok (.goto 4, 3) := by decide +kernel
theorem dX2_push_16 : decode cX2_push 16 = .ok (.iload_n 1, 1) := by decide +kernel
theorem dX2_push_17 : decode cX2_push 17 = .ok (.istore_n 2, 1) := by decide +kernel
theorem dX2_push_18 : decode cX2_push 18 = .ok (.aload_n 0, 1) := by decide +kernel
theorem dX2_push_19 : decode cX2_push 19 = .ok (.iconst 0, 1) := by decide +kernel
theorem dX2_push_20 : decode cX2_push 20 = .ok (.putfield 148, 3) := by decide +kernel
theorem dX2_push_23 : decode cX2_push 23 = .ok (.iload_n 2, 1) := by decide +kernel
theorem dX2_push_24 : decode cX2_push 24 = .ok (.ireturn, 1) := by decide +kernel
set_option maxRecDepth 20000 in
theorem ggX2_collect_X2_storeOf : GoodIn wsX2_collect wsX2_storeOf := goodIn_ca (goodIn_r _ [7, 8, 9, 10, 11, 74, 75, 76, 77, 78, 79, 80, 81, 82] (by decide +kernel) (by decide +kernel)) (goodIn_sub (fun _ h => List.mem_cons_of_mem _ (List.mem_append_right _ h)) (by decide +kernel))
set_option maxRecDepth 20000 in
theorem gX2_collect_X2_storeOf : GoodIn wsX2_collect (wsV RX2 40 RX2 yX2_storeOf wsX2_storeOf) := goodIn_app (goodIn_of _ (by decide +kernel)) ggX2_collect_X2_storeOf
set_option maxRecDepth 20000 in
theorem ggX2_collect_X1_commitsOfRefs : GoodIn wsX2_collect wsX1_commitsOfRefs := goodIn_r _ [16, 17, 18, 6, 19, 83, 84, 85] (by decide +kernel) (by decide +kernel)
set_option maxRecDepth 20000 in
theorem gX2_collect_X1_commitsOfRefs : GoodIn wsX2_collect (wsV RX2 160 RX1 yX1_commitsOfRefs wsX1_commitsOfRefs) := goodIn_app (goodIn_of _ (by decide +kernel)) ggX2_collect_X1_commitsOfRefs
