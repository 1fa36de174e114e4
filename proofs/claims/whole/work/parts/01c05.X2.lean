theorem dX2_isRef_5 : decode cX2_isRef 5 = .ok (.iconst 4, 1) := by decide +kernel
theorem dX2_isRef_6 : decode cX2_isRef 6 = .ok (.if_icmp .ge 7, 3) := by decide +kernel
theorem dX2_isRef_9 : decode cX2_isRef 9 = .ok (.iconst 1, 1) := by decide +kernel
theorem dX2_isRef_10 : decode cX2_isRef 10 = .ok (.goto 4, 3) := by decide +kernel
theorem dX2_isRef_13 : decode cX2_isRef 13 = .ok (.iconst 0, 1) := by decide +kernel
theorem dX2_isRef_14 : decode cX2_isRef 14 = .ok (.ireturn, 1) := by decide +kernel
theorem dX2_isFile_0 : decode cX2_isFile 0 = .ok (.iload_n 0, 1) := by decide +kernel
theorem dX2_isFile_1 : decode cX2_isFile 1 = .ok (.ifCond .lt 13, 3) := by decide +kernel
theorem dX2_isFile_4 : decode cX2_isFile 4 = .ok (.iload_n 0, 1) := by decide +kernel
theorem dX2_isFile_5 : decode cX2_isFile 5 = .ok (.bipush 100, 2) := by decide +kernel
theorem dX2_isFile_7 : decode cX2_isFile 7 = .ok (.if_icmp .ge 7, 3) := by decide +kernel
theorem dX2_isFile_10 : decode cX2_isFile 10 = .ok (.iconst 1, 1) := by decide +kernel
theorem dX2_isFile_11 : decode cX2_isFile 11 = .ok (.goto 4, 3) := by decide +kernel
theorem dX2_isFile_14 : decode cX2_isFile 14 = .ok (.iconst 0, 1) := by decide +kernel
theorem dX2_isFile_15 : decode cX2_isFile 15 = .ok (.ireturn, 1) := by decide +kernel
set_option maxRecDepth 20000 in
theorem ggX2_isProtectedRef_X2_isRef : GoodIn wsX2_isProtectedRef wsX2_isRef := goodIn_r _ [5] (by decide +kernel) (by decide +kernel)
set_option maxRecDepth 20000 in
theorem gX2_isProtectedRef_X2_isRef : GoodIn wsX2_isProtectedRef (va_wsS RX2 218 yX2_isRef wsX2_isRef) := goodIn_app (goodIn_of _ (by decide +kernel)) ggX2_isProtectedRef_X2_isRef
theorem dX2_isProtectedRef_0 : decode cX2_isProtectedRef 0 = .ok (.iload_n 1, 1) := by decide +kernel
theorem dX2_isProtectedRef_1 : decode cX2_isProtectedRef 1 = .ok (.invokestatic 218, 3) := by decide +kernel
theorem dX2_isProtectedRef_4 : decode cX2_isProtectedRef 4 = .ok (.ifCond .eq 16, 3) := by decide +kernel
theorem dX2_isProtectedRef_7 : decode cX2_isProtectedRef 7 = .ok (.aload_n 0, 1) := by decide +kernel
theorem dX2_isProtectedRef_8 : decode cX2_isProtectedRef 8 = .ok (.getfield 26, 3) := by decide +kernel
theorem dX2_isProtectedRef_11 : decode cX2_isProtectedRef 11 = .ok (.iload_n 1, 1) := by decide +kernel
theorem dX2_isProtectedRef_12 : decode cX2_isProtectedRef 12 = .ok (.baload, 1) := by decide +kernel
theorem dX2_isProtectedRef_13 : decode cX2_isProtectedRef 13 = .ok (.ifCond .eq 7, 3) := by decide +kernel
theorem dX2_isProtectedRef_16 : decode cX2_isProtectedRef 16 = .ok (.iconst 1, 1) := by decide +kernel
theorem dX2_isProtectedRef_17 : decode cX2_isProtectedRef 17 = .ok (.goto 4, 3) := by decide +kernel
theorem dX2_isProtectedRef_20 : decode cX2_isProtectedRef 20 = .ok (.iconst 0, 1) := by decide +kernel
theorem dX2_isProtectedRef_21 : decode cX2_isProtectedRef 21 = .ok (.ireturn, 1) := by decide +kernel
theorem dX2_setOf_0 : decode cX2_setOf 0 = .ok (.iload_n 0, 1) := by decide +kernel
theorem dX2_setOf_1 : decode cX2_setOf 1 = .ok (.ifCond .lt 15, 3) := by decide +kernel
theorem dX2_setOf_4 : decode cX2_setOf 4 = .ok (.iload_n 0, 1) := by decide +kernel
theorem dX2_setOf_5 : decode cX2_setOf 5 = .ok (.bipush 60, 2) := by decide +kernel
theorem dX2_setOf_7 : decode cX2_setOf 7 = .ok (.if_icmp .ge 9, 3) := by decide +kernel
theorem dX2_setOf_10 : decode cX2_setOf 10 = .ok (.lconst 1, 1) := by decide +kernel
theorem dX2_setOf_11 : decode cX2_setOf 11 = .ok (.iload_n 0, 1) := by decide +kernel
theorem dX2_setOf_12 : decode cX2_setOf 12 = .ok (.lshl, 1) := by decide +kernel
theorem dX2_setOf_13 : decode cX2_setOf 13 = .ok (.goto 4, 3) := by decide +kernel
theorem dX2_setOf_16 : decode cX2_setOf 16 = .ok (.lconst 0, 1) := by decide +kernel
theorem dX2_setOf_17 : decode cX2_setOf 17 = .ok (.lreturn, 1) := by decide +kernel
set_option maxRecDepth 20000 in
theorem ggX2_contains_X2_setOf : GoodIn wsX2_contains wsX2_setOf := goodIn_r _ [4] (by decide +kernel) (by decide +kernel)
set_option maxRecDepth 20000 in
theorem gX2_contains_X2_setOf : GoodIn wsX2_contains (va_wsS RX2 79 yX2_setOf wsX2_setOf) := goodIn_app (goodIn_of _ (by decide +kernel)) ggX2_contains_X2_setOf
theorem dX2_contains_0 : decode cX2_contains 0 = .ok (.lload_n 0, 1) := by decide +kernel
theorem dX2_contains_1 : decode cX2_contains 1 = .ok (.iload_n 2, 1) := by decide +kernel
theorem dX2_contains_2 : decode cX2_contains 2 = .ok (.invokestatic 79, 3) := by decide +kernel
theorem dX2_contains_5 : decode cX2_contains 5 = .ok (.land, 1) := by decide +kernel
theorem dX2_contains_6 : decode cX2_contains 6 = .ok (.lconst 0, 1) := by decide +kernel
theorem dX2_contains_7 : decode cX2_contains 7 = .ok (.lcmp, 1) := by decide +kernel
theorem dX2_contains_8 : decode cX2_contains 8 = .ok (.ifCond .eq 7, 3) := by decide +kernel
theorem dX2_contains_11 : decode cX2_contains 11 = .ok (.iconst 1, 1) := by decide +kernel
theorem dX2_contains_12 : decode cX2_contains 12 = .ok (.goto 4, 3) := by decide +kernel
theorem dX2_contains_15 : decode cX2_contains 15 = .ok (.iconst 0, 1) := by decide +kernel
theorem dX2_contains_16 : decode cX2_contains 16 = .ok (.ireturn, 1) := by decide +kernel
set_option maxRecDepth 20000 in
theorem ggX2_highestOf_X2_contains : GoodIn wsX2_highestOf wsX2_contains := goodIn_r _ [4, 5, 6, 3, 7] (by decide +kernel) (by decide +kernel)
set_option maxRecDepth 20000 in
theorem gX2_highestOf_X2_contains : GoodIn wsX2_highestOf (va_wsS RX2 174 yX2_contains wsX2_contains) := goodIn_app (goodIn_of _ (by decide +kernel)) ggX2_highestOf_X2_contains
set_option maxRecDepth 20000 in
theorem ggX2_highestOf_X2_setOf : GoodIn wsX2_highestOf wsX2_setOf := goodIn_r _ [7] (by decide +kernel) (by decide +kernel)
set_option maxRecDepth 20000 in
theorem gX2_highestOf_X2_setOf : GoodIn wsX2_highestOf (va_wsS RX2 79 yX2_setOf wsX2_setOf) := goodIn_app (goodIn_of _ (by decide +kernel)) ggX2_highestOf_X2_setOf
theorem dX2_highestOf_0 : decode cX2_highestOf 0 = .ok (.lconst 0, 1) := by decide +kernel
theorem dX2_highestOf_1 : decode cX2_highestOf 1 = .ok (.lstore_n 3, 1) := by decide +kernel
theorem dX2_highestOf_2 : decode cX2_highestOf 2 = .ok (.iload_n 2, 1) := by decide +kernel
theorem dX2_highestOf_3 : decode cX2_highestOf 3 = .ok (.istore 5, 2) := by decide +kernel
theorem dX2_highestOf_5 : decode cX2_highestOf 5 = .ok (.bipush 59, 2) := by decide +kernel
theorem dX2_highestOf_7 : decode cX2_highestOf 7 = .ok (.istore 6, 2) := by decide +kernel
theorem dX2_highestOf_9 : decode cX2_highestOf 9 = .ok (.iload 6, 2) := by decide +kernel
theorem dX2_highestOf_11 : decode cX2_highestOf 11 = .ok (.ifCond .lt 34, 3) := by decide +kernel
theorem dX2_highestOf_14 : decode cX2_highestOf 14 = .ok (.iload 5, 2) := by decide +kernel
theorem dX2_highestOf_16 : decode cX2_highestOf 16 = .ok (.ifCond .le 29, 3) := by decide +kernel
theorem dX2_highestOf_19 : decode cX2_highestOf 19 = .ok (.lload_n 0, 1) := by decide +kernel
theorem dX2_highestOf_20 : decode cX2_highestOf 20 = .ok (.iload 6, 2) := by decide +kernel
theorem dX2_highestOf_22 : decode cX2_highestOf 22 = .ok (.invokestatic 174, 3) := by decide +kernel
theorem dX2_highestOf_25 : decode cX2_highestOf 25 = .ok (.ifCond .eq 14, 3) := by decide +kernel
theorem dX2_highestOf_28 : decode cX2_highestOf 28 = .ok (.lload_n 3, 1) := by decide +kernel
theorem dX2_highestOf_29 : decode cX2_highestOf 29 = .ok (.iload 6, 2) := by decide +kernel
theorem dX2_highestOf_31 : decode cX2_highestOf 31 = .ok (.invokestatic 79, 3) := by decide +kernel
theorem dX2_highestOf_34 : decode cX2_highestOf 34 = .ok (.lor, 1) := by decide +kernel
theorem dX2_highestOf_35 : decode cX2_highestOf 35 = .ok (.lstore_n 3, 1) := by decide +kernel
theorem dX2_highestOf_36 : decode cX2_highestOf 36 = .ok (.iinc 5 (-1), 3) := by decide +kernel
theorem dX2_highestOf_39 : decode cX2_highestOf 39 = .ok (.iinc 6 (-1), 3) := by decide +kernel
theorem dX2_highestOf_42 : decode cX2_highestOf 42 = .ok (.goto (-33), 3) := by decide +kernel
theorem dX2_highestOf_45 : decode cX2_highestOf 45 = .ok (.lload_n 3, 1) := by decide +kernel
theorem dX2_highestOf_46 : decode cX2_highestOf 46 = .ok (.lreturn, 1) := by decide +kernel
