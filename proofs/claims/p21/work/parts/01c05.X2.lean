theorem dX2_storeOf_1 : decode cX2_storeOf 1 = .ok (.ifCond .eq 18, 3) := by decide +kernel
theorem dX2_storeOf_4 : decode cX2_storeOf 4 = .ok (.iload_n 1, 1) := by decide +kernel
theorem dX2_storeOf_5 : decode cX2_storeOf 5 = .ok (.iconst 1, 1) := by decide +kernel
theorem dX2_storeOf_6 : decode cX2_storeOf 6 = .ok (.if_icmp .eq 13, 3) := by decide +kernel
theorem dX2_storeOf_9 : decode cX2_storeOf 9 = .ok (.new 201, 3) := by decide +kernel
theorem dX2_storeOf_12 : decode cX2_storeOf 12 = .ok (.dup, 1) := by decide +kernel
theorem dX2_storeOf_13 : decode cX2_storeOf 13 = .ok (.ldc 203, 2) := by decide +kernel
theorem dX2_storeOf_15 : decode cX2_storeOf 15 = .ok (.invokespecial 205, 3) := by decide +kernel
theorem dX2_storeOf_18 : decode cX2_storeOf 18 = .ok (.athrow, 1) := by decide +kernel
theorem dX2_storeOf_19 : decode cX2_storeOf 19 = .ok (.iload_n 1, 1) := by decide +kernel
theorem dX2_storeOf_20 : decode cX2_storeOf 20 = .ok (.ifCond .ne 10, 3) := by decide +kernel
theorem dX2_storeOf_23 : decode cX2_storeOf 23 = .ok (.aload_n 0, 1) := by decide +kernel
theorem dX2_storeOf_24 : decode cX2_storeOf 24 = .ok (.getfield 19, 3) := by decide +kernel
theorem dX2_storeOf_27 : decode cX2_storeOf 27 = .ok (.goto 7, 3) := by decide +kernel
theorem dX2_storeOf_30 : decode cX2_storeOf 30 = .ok (.aload_n 0, 1) := by decide +kernel
theorem dX2_storeOf_31 : decode cX2_storeOf 31 = .ok (.getfield 23, 3) := by decide +kernel
theorem dX2_storeOf_34 : decode cX2_storeOf 34 = .ok (.areturn, 1) := by decide +kernel
set_option maxRecDepth 20000 in
theorem ggX2_checkCommit_X0_isCommit : GoodIn wsX2_checkCommit wsX0_isCommit := goodIn_r _ [8, 9, 19, 20, 21, 22, 23, 24] (by decide +kernel) (by decide +kernel)
set_option maxRecDepth 20000 in
theorem gX2_checkCommit_X0_isCommit : GoodIn wsX2_checkCommit (wsV RX2 206 RX0 yX0_isCommit wsX0_isCommit) := goodIn_app (goodIn_of _ (by decide +kernel)) ggX2_checkCommit_X0_isCommit
theorem dX2_checkCommit_0 : decode cX2_checkCommit 0 = .ok (.aload_n 0, 1) := by decide +kernel
theorem dX2_checkCommit_1 : decode cX2_checkCommit 1 = .ok (.getfield 10, 3) := by decide +kernel
theorem dX2_checkCommit_4 : decode cX2_checkCommit 4 = .ok (.iload_n 1, 1) := by decide +kernel
theorem dX2_checkCommit_5 : decode cX2_checkCommit 5 = .ok (.invokevirtual 206, 3) := by decide +kernel
theorem dX2_checkCommit_8 : decode cX2_checkCommit 8 = .ok (.ifCond .ne 13, 3) := by decide +kernel
theorem dX2_checkCommit_11 : decode cX2_checkCommit 11 = .ok (.new 201, 3) := by decide +kernel
theorem dX2_checkCommit_14 : decode cX2_checkCommit 14 = .ok (.dup, 1) := by decide +kernel
theorem dX2_checkCommit_15 : decode cX2_checkCommit 15 = .ok (.ldc 209, 2) := by decide +kernel
theorem dX2_checkCommit_17 : decode cX2_checkCommit 17 = .ok (.invokespecial 205, 3) := by decide +kernel
theorem dX2_checkCommit_20 : decode cX2_checkCommit 20 = .ok (.athrow, 1) := by decide +kernel
theorem dX2_checkCommit_21 : decode cX2_checkCommit 21 = .ok (.return_, 1) := by decide +kernel
set_option maxRecDepth 20000 in
theorem ggX2_checkCommitOrNone_X2_checkCommit : GoodIn wsX2_checkCommitOrNone wsX2_checkCommit := goodIn_ca (goodIn_r _ [5, 6, 7, 8, 9, 10, 11, 12, 13, 14, 15, 16, 17, 18, 19, 20, 21, 22, 23, 24, 25, 26, 27, 28, 29] (by decide +kernel) (by decide +kernel)) (goodIn_sub (fun _ h => List.mem_cons_of_mem _ (List.mem_append_right _ h)) (by decide +kernel))
set_option maxRecDepth 20000 in
theorem gX2_checkCommitOrNone_X2_checkCommit : GoodIn wsX2_checkCommitOrNone (wsV RX2 97 RX2 yX2_checkCommit wsX2_checkCommit) := goodIn_app (goodIn_of _ (by decide +kernel)) ggX2_checkCommitOrNone_X2_checkCommit
theorem dX2_checkCommitOrNone_0 : decode cX2_checkCommitOrNone 0 = .ok (.iload_n 1, 1) := by decide +kernel
theorem dX2_checkCommitOrNone_1 : decode cX2_checkCommitOrNone 1 = .ok (.iconst (-1), 1) := by decide +kernel
theorem dX2_checkCommitOrNone_2 : decode cX2_checkCommitOrNone 2 = .ok (.if_icmp .eq 8, 3) := by decide +kernel
theorem dX2_checkCommitOrNone_5 : decode cX2_checkCommitOrNone 5 = .ok (.aload_n 0, 1) := by decide +kernel
theorem dX2_checkCommitOrNone_6 : decode cX2_checkCommitOrNone 6 = .ok (.iload_n 1, 1) := by decide +kernel
theorem dX2_checkCommitOrNone_7 : decode cX2_checkCommitOrNone 7 = .ok (.invokevirtual 97, 3) := by decide +kernel
theorem dX2_checkCommitOrNone_10 : decode cX2_checkCommitOrNone 10 = .ok (.return_, 1) := by decide +kernel
set_option maxRecDepth 20000 in
theorem ggX2_checkHeldOrNone_X2_contains : GoodIn wsX2_checkHeldOrNone wsX2_contains := goodIn_r _ [6, 7, 8, 5, 9] (by decide +kernel) (by decide +kernel)
set_option maxRecDepth 20000 in
theorem gX2_checkHeldOrNone_X2_contains : GoodIn wsX2_checkHeldOrNone (va_wsS RX2 174 yX2_contains wsX2_contains) := goodIn_app (goodIn_of _ (by decide +kernel)) ggX2_checkHeldOrNone_X2_contains
theorem dX2_checkHeldOrNone_0 : decode cX2_checkHeldOrNone 0 = .ok (.iload_n 1, 1) := by decide +kernel
theorem dX2_checkHeldOrNone_1 : decode cX2_checkHeldOrNone 1 = .ok (.iconst (-1), 1) := by decide +kernel
theorem dX2_checkHeldOrNone_2 : decode cX2_checkHeldOrNone 2 = .ok (.if_icmp .eq 24, 3) := by decide +kernel
theorem dX2_checkHeldOrNone_5 : decode cX2_checkHeldOrNone 5 = .ok (.aload_n 0, 1) := by decide +kernel
theorem dX2_checkHeldOrNone_6 : decode cX2_checkHeldOrNone 6 = .ok (.getfield 75, 3) := by decide +kernel
theorem dX2_checkHeldOrNone_9 : decode cX2_checkHeldOrNone 9 = .ok (.iload_n 1, 1) := by decide +kernel
theorem dX2_checkHeldOrNone_10 : decode cX2_checkHeldOrNone 10 = .ok (.invokestatic 174, 3) := by decide +kernel
theorem dX2_checkHeldOrNone_13 : decode cX2_checkHeldOrNone 13 = .ok (.ifCond .ne 13, 3) := by decide +kernel
theorem dX2_checkHeldOrNone_16 : decode cX2_checkHeldOrNone 16 = .ok (.new 201, 3) := by decide +kernel
theorem dX2_checkHeldOrNone_19 : decode cX2_checkHeldOrNone 19 = .ok (.dup, 1) := by decide +kernel
theorem dX2_checkHeldOrNone_20 : decode cX2_checkHeldOrNone 20 = .ok (.ldc 211, 2) := by decide +kernel
theorem dX2_checkHeldOrNone_22 : decode cX2_checkHeldOrNone 22 = .ok (.invokespecial 205, 3) := by decide +kernel
theorem dX2_checkHeldOrNone_25 : decode cX2_checkHeldOrNone 25 = .ok (.athrow, 1) := by decide +kernel
theorem dX2_checkHeldOrNone_26 : decode cX2_checkHeldOrNone 26 = .ok (.return_, 1) := by decide +kernel
set_option maxRecDepth 20000 in
theorem ggX2_checkSlot_X2_isSlot : GoodIn wsX2_checkSlot wsX2_isSlot := goodIn_r _ [6] (by decide +kernel) (by decide +kernel)
set_option maxRecDepth 20000 in
theorem gX2_checkSlot_X2_isSlot : GoodIn wsX2_checkSlot (va_wsS RX2 213 yX2_isSlot wsX2_isSlot) := goodIn_app (goodIn_of _ (by decide +kernel)) ggX2_checkSlot_X2_isSlot
theorem dX2_checkSlot_0 : decode cX2_checkSlot 0 = .ok (.iload_n 0, 1) := by decide +kernel
theorem dX2_checkSlot_1 : decode cX2_checkSlot 1 = .ok (.invokestatic 213, 3) := by decide +kernel
theorem dX2_checkSlot_4 : decode cX2_checkSlot 4 = .ok (.ifCond .ne 13, 3) := by decide +kernel
theorem dX2_checkSlot_7 : decode cX2_checkSlot 7 = .ok (.new 201, 3) := by decide +kernel
theorem dX2_checkSlot_10 : decode cX2_checkSlot 10 = .ok (.dup, 1) := by decide +kernel
theorem dX2_checkSlot_11 : decode cX2_checkSlot 11 = .ok (.ldc 216, 2) := by decide +kernel
theorem dX2_checkSlot_13 : decode cX2_checkSlot 13 = .ok (.invokespecial 205, 3) := by decide +kernel
theorem dX2_checkSlot_16 : decode cX2_checkSlot 16 = .ok (.athrow, 1) := by decide +kernel
theorem dX2_checkSlot_17 : decode cX2_checkSlot 17 = .ok (.return_, 1) := by decide +kernel
set_option maxRecDepth 20000 in
theorem ggX2_checkRef_X2_isRef : GoodIn wsX2_checkRef wsX2_isRef := goodIn_r _ [6] (by decide +kernel) (by decide +kernel)
set_option maxRecDepth 20000 in
theorem gX2_checkRef_X2_isRef : GoodIn wsX2_checkRef (va_wsS RX2 218 yX2_isRef wsX2_isRef) := goodIn_app (goodIn_of _ (by decide +kernel)) ggX2_checkRef_X2_isRef
theorem dX2_checkRef_0 : decode cX2_checkRef 0 = .ok (.iload_n 0, 1) := by decide +kernel
theorem dX2_checkRef_1 : decode cX2_checkRef 1 = .ok (.invokestatic 218, 3) := by decide +kernel
theorem dX2_checkRef_4 : decode cX2_checkRef 4 = .ok (.ifCond .ne 13, 3) := by decide +kernel
theorem dX2_checkRef_7 : decode cX2_checkRef 7 = .ok (.new 201, 3) := by decide +kernel
theorem dX2_checkRef_10 : decode cX2_checkRef 10 = .ok (.dup, 1) := by decide +kernel
theorem dX2_checkRef_11 : decode cX2_checkRef 11 = .ok (.ldc 221, 2) := by decide +kernel
theorem dX2_checkRef_13 : decode cX2_checkRef 13 = .ok (.invokespecial 205, 3) := by decide +kernel
theorem dX2_checkRef_16 : decode cX2_checkRef 16 = .ok (.athrow, 1) := by decide +kernel
theorem dX2_checkRef_17 : decode cX2_checkRef 17 = .ok (.return_, 1) := by decide +kernel
set_option maxRecDepth 20000 in
theorem ggX2_checkFile_X2_isFile : GoodIn wsX2_checkFile wsX2_isFile := goodIn_r _ [6] (by decide +kernel) (by decide +kernel)
set_option maxRecDepth 20000 in
theorem gX2_checkFile_X2_isFile : GoodIn wsX2_checkFile (va_wsS RX2 223 yX2_isFile wsX2_isFile) := goodIn_app (goodIn_of _ (by decide +kernel)) ggX2_checkFile_X2_isFile
theorem dX2_checkFile_0 : decode cX2_checkFile 0 = .ok (.iload_n 0, 1) := by decide +kernel
theorem dX2_checkFile_1 : decode cX2_checkFile 1 = .ok (.invokestatic 223, 3) := by decide +kernel
theorem dX2_checkFile_4 : decode cX2_checkFile 4 = .ok (.ifCond .ne 13, 3) := by decide +kernel
theorem dX2_checkFile_7 : decode cX2_checkFile 7 = .ok (.new 55, 3) := by decide +kernel
theorem dX2_checkFile_10 : decode cX2_checkFile 10 = .ok (.dup, 1) := by decide +kernel
theorem dX2_checkFile_11 : decode cX2_checkFile 11 = .ok (.ldc 226, 2) := by decide +kernel
theorem dX2_checkFile_13 : decode cX2_checkFile 13 = .ok (.invokespecial 59, 3) := by decide +kernel
theorem dX2_checkFile_16 : decode cX2_checkFile 16 = .ok (.athrow, 1) := by decide +kernel
theorem dX2_checkFile_17 : decode cX2_checkFile 17 = .ok (.return_, 1) := by decide +kernel
theorem dX2_isSlot_0 : decode cX2_isSlot 0 = .ok (.iload_n 0, 1) := by decide +kernel
theorem dX2_isSlot_1 : decode cX2_isSlot 1 = .ok (.ifCond .lt 12, 3) := by decide +kernel
theorem dX2_isSlot_4 : decode cX2_isSlot 4 = .ok (.iload_n 0, 1) := by decide +kernel
theorem dX2_isSlot_5 : decode cX2_isSlot 5 = .ok (.iconst 4, 1) := by decide +kernel
theorem dX2_isSlot_6 : decode cX2_isSlot 6 = .ok (.if_icmp .ge 7, 3) := by decide +kernel
theorem dX2_isSlot_9 : decode cX2_isSlot 9 = .ok (.iconst 1, 1) := by decide +kernel
theorem dX2_isSlot_10 : decode cX2_isSlot 10 = .ok (.goto 4, 3) := by decide +kernel
theorem dX2_isSlot_13 : decode cX2_isSlot 13 = .ok (.iconst 0, 1) := by decide +kernel
theorem dX2_isSlot_14 : decode cX2_isSlot 14 = .ok (.ireturn, 1) := by decide +kernel
theorem dX2_isRef_0 : decode cX2_isRef 0 = .ok (.iload_n 0, 1) := by decide +kernel
theorem dX2_isRef_1 : decode cX2_isRef 1 = .ok (.ifCond .lt 12, 3) := by decide +kernel
theorem dX2_isRef_4 : decode cX2_isRef 4 = .ok (.iload_n 0, 1) := by decide +kernel
theorem dX2_isRef_5 : decode cX2_isRef 5 = .ok (.iconst 4, 1) := by decide +kernel
theorem dX2_isRef_6 : decode cX2_isRef 6 = .ok (.if_icmp .ge 7, 3) := by decide +kernel
theorem dX2_isRef_9 : decode cX2_isRef 9 = .ok (.iconst 1, 1) := by decide +kernel
theorem dX2_isRef_10 : decode cX2_isRef 10 = .ok (.goto 4, 3) := by decide +kernel
theorem dX2_isRef_13 : decode cX2_isRef 13 = .ok (.iconst 0, 1) := by decide +kernel
theorem dX2_isRef_14 : decode cX2_isRef 14 = .ok (.ireturn, 1) := by decide +kernel
theorem dX2_isFile_0 : decode cX2_isFile 0 = .ok (.iload_n 0, 1) := by decide +kernel
theorem dX2_isFile_1 : decode cX2_isFile 1 = .ok (.ifCond .lt 13, 3) := by decide +kernel
theorem dX2_isFile_4 : decode cX2_isFile 4 = .ok (.iload_n 0, 1) := by decide +kernel
theorem dX2_isFile_5 : decode cX2_isFile 5 = .ok (.bipush 100, 2) := by decide +kernel
theorem dX2_isFile_7 : decode cX2_isFile 7 = .ok (.if_icmp .ge 7, 3) := by decide +kernel
theorem dX2_isFile_10 : decode cX2_isFile 10 = .ok (.iconst 1, 1) := by decide +kernel
theorem dX2_isFile_11 : decode cX2_isFile 11 = .ok (.goto 4, 3) := by decide +kernel
theorem dX2_isFile_14 : decode cX2_isFile 14 = .ok (.iconst 0, 1) := by decide +kernel
theorem dX2_isFile_15 : decode cX2_isFile 15 = .ok (.ireturn, 1) := by decide +kernel
set_option maxRecDepth 20000 in
theorem ggX2_isProtectedRef_X2_isRef : GoodIn wsX2_isProtectedRef wsX2_isRef := goodIn_r _ [5] (by decide +kernel) (by decide +kernel)
set_option maxRecDepth 20000 in
theorem gX2_isProtectedRef_X2_isRef : GoodIn wsX2_isProtectedRef (va_wsS RX2 218 yX2_isRef wsX2_isRef) := goodIn_app (goodIn_of _ (by decide +kernel)) ggX2_isProtectedRef_X2_isRef
theorem dX2_isProtectedRef_0 : decode cX2_isProtectedRef 0 = .ok (.iload_n 1, 1) := by decide +kernel
theorem dX2_isProtectedRef_1 : decode cX2_isProtectedRef 1 = .ok (.invokestatic 218, 3) := by decide +kernel
theorem dX2_isProtectedRef_4 : decode cX2_isProtectedRef 4 = .ok (.ifCond .eq 16, 3) := by decide +kernel
theorem dX2_isProtectedRef_7 : decode cX2_isProtectedRef 7 = .ok (.aload_n 0, 1) := by decide +kernel
theorem dX2_isProtectedRef_8 : decode cX2_isProtectedRef 8 = .ok (.getfield 26, 3) := by decide +kernel
theorem dX2_isProtectedRef_11 : decode cX2_isProtectedRef 11 = .ok (.iload_n 1, 1) := by decide +kernel
theorem dX2_isProtectedRef_12 : decode cX2_isProtectedRef 12 = .ok (.baload, 1) := by decide +kernel
theorem dX2_isProtectedRef_13 : decode cX2_isProtectedRef 13 = .ok (.ifCond .eq 7, 3) := by decide +kernel
theorem dX2_isProtectedRef_16 : decode cX2_isProtectedRef 16 = .ok (.iconst 1, 1) := by decide +kernel
theorem dX2_isProtectedRef_17 : decode cX2_isProtectedRef 17 = .ok (.goto 4, 3) := by decide +kernel
theorem dX2_isProtectedRef_20 : decode cX2_isProtectedRef 20 = .ok (.iconst 0, 1) := by decide +kernel
theorem dX2_isProtectedRef_21 : decode cX2_isProtectedRef 21 = .ok (.ireturn, 1) := by decide +kernel
theorem dX2_setOf_0 : decode cX2_setOf 0 = .ok (.iload_n 0, 1) := by decide +kernel
theorem dX2_setOf_1 : decode cX2_setOf 1 = .ok (.ifCond .lt 15, 3) := by decide +kernel
theorem dX2_setOf_4 : decode cX2_setOf 4 = .ok (.iload_n 0, 1) := by decide +kernel
theorem dX2_setOf_5 : decode cX2_setOf 5 = .ok (.bipush 60, 2) := by decide +kernel
theorem dX2_setOf_7 : decode cX2_setOf 7 = .ok (.if_icmp .ge 9, 3) := by decide +kernel
theorem dX2_setOf_10 : decode cX2_setOf 10 = .ok (.lconst 1, 1) := by decide +kernel
theorem dX2_setOf_11 : decode cX2_setOf 11 = .ok (.iload_n 0, 1) := by decide +kernel
theorem dX2_setOf_12 : decode cX2_setOf 12 = .ok (.lshl, 1) := by decide +kernel
theorem dX2_setOf_13 : decode cX2_setOf 13 = .ok (.goto 4, 3) := by decide +kernel
theorem dX2_setOf_16 : decode cX2_setOf 16 = .ok (.lconst 0, 1) := by decide +kernel
theorem dX2_setOf_17 : decode cX2_setOf 17 = .ok (.lreturn, 1) := by decide +kernel
set_option maxRecDepth 20000 in
theorem ggX2_contains_X2_setOf : GoodIn wsX2_contains wsX2_setOf := goodIn_r _ [4] (by decide +kernel) (by decide +kernel)
set_option maxRecDepth 20000 in
theorem gX2_contains_X2_setOf : GoodIn wsX2_contains (va_wsS RX2 79 yX2_setOf wsX2_setOf) := goodIn_app (goodIn_of _ (by decide +kernel)) ggX2_contains_X2_setOf
theorem dX2_contains_0 : decode cX2_contains 0 = .ok (.lload_n 0, 1) := by decide +kernel
theorem dX2_contains_1 : decode cX2_contains 1 = .ok (.iload_n 2, 1) := by decide +kernel
theorem dX2_contains_2 : decode cX2_contains 2 = .ok (.invokestatic 79, 3) := by decide +kernel
theorem dX2_contains_5 : decode cX2_contains 5 = .ok (.land, 1) := by decide +kernel
theorem dX2_contains_6 : decode cX2_contains 6 = .ok (.lconst 0, 1) := by decide +kernel
theorem dX2_contains_7 : decode cX2_contains 7 = .ok (.lcmp, 1) := by decide +kernel
theorem dX2_contains_8 : decode cX2_contains 8 = .ok (.ifCond .eq 7, 3) := by decide +kernel
theorem dX2_contains_11 : decode cX2_contains 11 = .ok (.iconst 1, 1) := by decide +kernel
theorem dX2_contains_12 : decode cX2_contains 12 = .ok (.goto 4, 3) := by decide +kernel
theorem dX2_contains_15 : decode cX2_contains 15 = .ok (.iconst 0, 1) := by decide +kernel
theorem dX2_contains_16 : decode cX2_contains 16 = .ok (.ireturn, 1) := by decide +kernel
set_option maxRecDepth 20000 in
theorem ggX2_highestOf_X2_contains : GoodIn wsX2_highestOf wsX2_contains := goodIn_r _ [4, 5, 6, 3, 7] (by decide +kernel) (by decide +kernel)
set_option maxRecDepth 20000 in
theorem gX2_highestOf_X2_contains : GoodIn wsX2_highestOf (va_wsS RX2 174 yX2_contains wsX2_contains) := goodIn_app (goodIn_of _ (by decide +kernel)) ggX2_highestOf_X2_contains
set_option maxRecDepth 20000 in
theorem ggX2_highestOf_X2_setOf : GoodIn wsX2_highestOf wsX2_setOf := goodIn_r _ [7] (by decide +kernel) (by decide +kernel)
set_option maxRecDepth 20000 in
theorem gX2_highestOf_X2_setOf : GoodIn wsX2_highestOf (va_wsS RX2 79 yX2_setOf wsX2_setOf) := goodIn_app (goodIn_of _ (by decide +kernel)) ggX2_highestOf_X2_setOf
theorem dX2_highestOf_0 : decode cX2_highestOf 0 = .ok (.lconst 0, 1) := by decide +kernel
theorem dX2_highestOf_1 : decode cX2_highestOf 1 = .ok (.lstore_n 3, 1) := by decide +kernel
theorem dX2_highestOf_2 : decode cX2_highestOf 2 = .ok (.iload_n 2, 1) := by decide +kernel
theorem dX2_highestOf_3 : decode cX2_highestOf 3 = .ok (.istore 5, 2) := by decide +kernel
theorem dX2_highestOf_5 : decode cX2_highestOf 5 = .ok (.bipush 59, 2) := by decide +kernel
theorem dX2_highestOf_7 : decode cX2_highestOf 7 = .ok (.istore 6, 2) := by decide +kernel
theorem dX2_highestOf_9 : decode cX2_highestOf 9 = .ok (.iload 6, 2) := by decide +kernel
theorem dX2_highestOf_11 : decode cX2_highestOf 11 = .ok (.ifCond .lt 34, 3) := by decide +kernel
theorem dX2_highestOf_14 : decode cX2_highestOf 14 = .ok (.iload 5, 2) := by decide +kernel
theorem dX2_highestOf_16 : decode cX2_highestOf 16 = .ok (.ifCond .le 29, 3) := by decide +kernel
theorem dX2_highestOf_19 : decode cX2_highestOf 19 = .ok (.lload_n 0, 1) := by decide +kernel
theorem dX2_highestOf_20 : decode cX2_highestOf 20 = .ok (.iload 6, 2) := by decide +kernel
theorem dX2_highestOf_22 : decode cX2_highestOf 22 = .ok (.invokestatic 174, 3) := by decide +kernel
theorem dX2_highestOf_25 : decode cX2_highestOf 25 = .ok (.ifCond .eq 14, 3) := by decide +kernel
theorem dX2_highestOf_28 : decode cX2_highestOf 28 = .ok (.lload_n 3, 1) := by decide +kernel
theorem dX2_highestOf_29 : decode cX2_highestOf 29 = .ok (.iload 6, 2) := by decide +kernel
theorem dX2_highestOf_31 : decode cX2_highestOf 31 = .ok (.invokestatic 79, 3) := by decide +kernel
theorem dX2_highestOf_34 : decode cX2_highestOf 34 = .ok (.lor, 1) := by decide +kernel
theorem dX2_highestOf_35 : decode cX2_highestOf 35 = .ok (.lstore_n 3, 1) := by decide +kernel
theorem dX2_highestOf_36 : decode cX2_highestOf 36 = .ok (.iinc 5 (-1), 3) := by decide +kernel
theorem dX2_highestOf_39 : decode cX2_highestOf 39 = .ok (.iinc 6 (-1), 3) := by decide +kernel
theorem dX2_highestOf_42 : decode cX2_highestOf 42 = .ok (.goto (-33), 3) := by decide +kernel
theorem dX2_highestOf_45 : decode cX2_highestOf 45 = .ok (.lload_n 3, 1) := by decide +kernel
theorem dX2_highestOf_46 : decode cX2_highestOf 46 = .ok (.lreturn, 1) := by decide +kernel
