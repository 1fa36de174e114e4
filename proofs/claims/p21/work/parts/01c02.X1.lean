set_option maxRecDepth 20000 in
theorem ggX1_init_J7_fill_53178 : GoodIn wsX1_init wsJ7_fill_53178 := goodIn_r _ [11] (by decide +kernel) (by decide +kernel)
set_option maxRecDepth 20000 in
theorem gX1_init_J7_fill_53178 : GoodIn wsX1_init (va_wsS RX1 19 yJ7_fill_53178 wsJ7_fill_53178) := goodIn_app (goodIn_of _ (by decide +kernel)) ggX1_init_J7_fill_53178
theorem dX1_init_0 : decode cX1_init 0 = .ok (.aload_n 0, 1) := by decide +kernel
theorem dX1_init_1 : decode cX1_init 1 = .ok (.invokespecial 3, 3) := by decide +kernel
theorem dX1_init_4 : decode cX1_init 4 = .ok (.aload_n 0, 1) := by decide +kernel
theorem dX1_init_5 : decode cX1_init 5 = .ok (.bipush 100, 2) := by decide +kernel
theorem dX1_init_7 : decode cX1_init 7 = .ok (.newarray .boolean, 2) := by decide +kernel
theorem dX1_init_9 : decode cX1_init 9 = .ok (.putfield 9, 3) := by decide +kernel
theorem dX1_init_12 : decode cX1_init 12 = .ok (.aload_n 0, 1) := by decide +kernel
theorem dX1_init_13 : decode cX1_init 13 = .ok (.iconst 4, 1) := by decide +kernel
theorem dX1_init_14 : decode cX1_init 14 = .ok (.newarray .int, 2) := by decide +kernel
theorem dX1_init_16 : decode cX1_init 16 = .ok (.putfield 15, 3) := by decide +kernel
theorem dX1_init_19 : decode cX1_init 19 = .ok (.aload_n 0, 1) := by decide +kernel
theorem dX1_init_20 : decode cX1_init 20 = .ok (.getfield 15, 3) := by decide +kernel
theorem dX1_init_23 : decode cX1_init 23 = .ok (.iconst (-1), 1) := by decide +kernel
theorem dX1_init_24 : decode cX1_init 24 = .ok (.invokestatic 19, 3) := by decide +kernel
theorem dX1_init_27 : decode cX1_init 27 = .ok (.return_, 1) := by decide +kernel
set_option maxRecDepth 20000 in
theorem ggX1_commitOfRef_X2_isRef : GoodIn wsX1_commitOfRef wsX2_isRef := goodIn_r _ [4] (by decide +kernel) (by decide +kernel)
set_option maxRecDepth 20000 in
theorem gX1_commitOfRef_X2_isRef_n25 : GoodIn wsX1_commitOfRef (wsX2_isRef) := ggX1_commitOfRef_X2_isRef
theorem dX1_commitOfRef_0 : decode cX1_commitOfRef 0 = .ok (.iload_n 1, 1) := by decide +kernel
theorem dX1_commitOfRef_1 : decode cX1_commitOfRef 1 = .ok (.invokestatic 25, 3) := by decide +kernel
theorem dX1_commitOfRef_4 : decode cX1_commitOfRef 4 = .ok (.ifCond .eq 12, 3) := by decide +kernel
theorem dX1_commitOfRef_7 : decode cX1_commitOfRef 7 = .ok (.aload_n 0, 1) := by decide +kernel
theorem dX1_commitOfRef_8 : decode cX1_commitOfRef 8 = .ok (.getfield 15, 3) := by decide +kernel
theorem dX1_commitOfRef_11 : decode cX1_commitOfRef 11 = .ok (.iload_n 1, 1) := by decide +kernel
theorem dX1_commitOfRef_12 : decode cX1_commitOfRef 12 = .ok (.iaload, 1) := by decide +kernel
theorem dX1_commitOfRef_13 : decode cX1_commitOfRef 13 = .ok (.goto 4, 3) := by decide +kernel
theorem dX1_commitOfRef_16 : decode cX1_commitOfRef 16 = .ok (.iconst (-1), 1) := by decide +kernel
theorem dX1_commitOfRef_17 : decode cX1_commitOfRef 17 = .ok (.ireturn, 1) := by decide +kernel
set_option maxRecDepth 20000 in
theorem ggX1_pointRef_X2_isRef : GoodIn wsX1_pointRef wsX2_isRef := goodIn_r _ [4] (by decide +kernel) (by decide +kernel)
set_option maxRecDepth 20000 in
theorem gX1_pointRef_X2_isRef_n25 : GoodIn wsX1_pointRef (wsX2_isRef) := ggX1_pointRef_X2_isRef
theorem dX1_pointRef_0 : decode cX1_pointRef 0 = .ok (.iload_n 1, 1) := by decide +kernel
theorem dX1_pointRef_1 : decode cX1_pointRef 1 = .ok (.invokestatic 25, 3) := by decide +kernel
theorem dX1_pointRef_4 : decode cX1_pointRef 4 = .ok (.ifCond .eq 10, 3) := by decide +kernel
theorem dX1_pointRef_7 : decode cX1_pointRef 7 = .ok (.aload_n 0, 1) := by decide +kernel
theorem dX1_pointRef_8 : decode cX1_pointRef 8 = .ok (.getfield 15, 3) := by decide +kernel
theorem dX1_pointRef_11 : decode cX1_pointRef 11 = .ok (.iload_n 1, 1) := by decide +kernel
theorem dX1_pointRef_12 : decode cX1_pointRef 12 = .ok (.iload_n 2, 1) := by decide +kernel
theorem dX1_pointRef_13 : decode cX1_pointRef 13 = .ok (.iastore, 1) := by decide +kernel
theorem dX1_pointRef_14 : decode cX1_pointRef 14 = .ok (.return_, 1) := by decide +kernel
set_option maxRecDepth 20000 in
theorem ggX1_commitsOfRefs_X2_setOf : GoodIn wsX1_commitsOfRefs wsX2_setOf := goodIn_r _ [4] (by decide +kernel) (by decide +kernel)
set_option maxRecDepth 20000 in
theorem gX1_commitsOfRefs_X2_setOf_n29 : GoodIn wsX1_commitsOfRefs (wsX2_setOf) := ggX1_commitsOfRefs_X2_setOf
theorem dX1_commitsOfRefs_0 : decode cX1_commitsOfRefs 0 = .ok (.lconst 0, 1) := by decide +kernel
theorem dX1_commitsOfRefs_1 : decode cX1_commitsOfRefs 1 = .ok (.lstore_n 1, 1) := by decide +kernel
theorem dX1_commitsOfRefs_2 : decode cX1_commitsOfRefs 2 = .ok (.iconst 0, 1) := by decide +kernel
theorem dX1_commitsOfRefs_3 : decode cX1_commitsOfRefs 3 = .ok (.istore_n 3, 1) := by decide +kernel
theorem dX1_commitsOfRefs_4 : decode cX1_commitsOfRefs 4 = .ok (.iload_n 3, 1) := by decide +kernel
theorem dX1_commitsOfRefs_5 : decode cX1_commitsOfRefs 5 = .ok (.iconst 4, 1) := by decide +kernel
theorem dX1_commitsOfRefs_6 : decode cX1_commitsOfRefs 6 = .ok (.if_icmp .ge 21, 3) := by decide +kernel
theorem dX1_commitsOfRefs_9 : decode cX1_commitsOfRefs 9 = .ok (.lload_n 1, 1) := by decide +kernel
theorem dX1_commitsOfRefs_10 : decode cX1_commitsOfRefs 10 = .ok (.aload_n 0, 1) := by decide +kernel
theorem dX1_commitsOfRefs_11 : decode cX1_commitsOfRefs 11 = .ok (.getfield 15, 3) := by decide +kernel
theorem dX1_commitsOfRefs_14 : decode cX1_commitsOfRefs 14 = .ok (.iload_n 3, 1) := by decide +kernel
theorem dX1_commitsOfRefs_15 : decode cX1_commitsOfRefs 15 = .ok (.iaload, 1) := by decide +kernel
theorem dX1_commitsOfRefs_16 : decode cX1_commitsOfRefs 16 = .ok (.invokestatic 29, 3) := by decide +kernel
theorem dX1_commitsOfRefs_19 : decode cX1_commitsOfRefs 19 = .ok (.lor, 1) := by decide +kernel
theorem dX1_commitsOfRefs_20 : decode cX1_commitsOfRefs 20 = .ok (.lstore_n 1, 1) := by decide +kernel
theorem dX1_commitsOfRefs_21 : decode cX1_commitsOfRefs 21 = .ok (.iinc 3 1, 3) := by decide +kernel
theorem dX1_commitsOfRefs_24 : decode cX1_commitsOfRefs 24 = .ok (.goto (-20), 3) := by decide +kernel
theorem dX1_commitsOfRefs_27 : decode cX1_commitsOfRefs 27 = .ok (.lload_n 1, 1) := by decide +kernel
theorem dX1_commitsOfRefs_28 : decode cX1_commitsOfRefs 28 = .ok (.lreturn, 1) := by decide +kernel
set_option maxRecDepth 20000 in
theorem ggX1_holdsFile_X2_isFile : GoodIn wsX1_holdsFile wsX2_isFile := goodIn_r _ [4] (by decide +kernel) (by decide +kernel)
set_option maxRecDepth 20000 in
theorem gX1_holdsFile_X2_isFile_n33 : GoodIn wsX1_holdsFile (wsX2_isFile) := ggX1_holdsFile_X2_isFile
theorem dX1_holdsFile_0 : decode cX1_holdsFile 0 = .ok (.iload_n 1, 1) := by decide +kernel
theorem dX1_holdsFile_1 : decode cX1_holdsFile 1 = .ok (.invokestatic 33, 3) := by decide +kernel
theorem dX1_holdsFile_4 : decode cX1_holdsFile 4 = .ok (.ifCond .eq 16, 3) := by decide +kernel
theorem dX1_holdsFile_7 : decode cX1_holdsFile 7 = .ok (.aload_n 0, 1) := by decide +kernel
theorem dX1_holdsFile_8 : decode cX1_holdsFile 8 = .ok (.getfield 9, 3) := by decide +kernel
theorem dX1_holdsFile_11 : decode cX1_holdsFile 11 = .ok (.iload_n 1, 1) := by decide +kernel
theorem dX1_holdsFile_12 : decode cX1_holdsFile 12 = .ok (.baload, 1) := by decide +kernel
theorem dX1_holdsFile_13 : decode cX1_holdsFile 13 = .ok (.ifCond .eq 7, 3) := by decide +kernel
theorem dX1_holdsFile_16 : decode cX1_holdsFile 16 = .ok (.iconst 1, 1) := by decide +kernel
theorem dX1_holdsFile_17 : decode cX1_holdsFile 17 = .ok (.goto 4, 3) := by decide +kernel
theorem dX1_holdsFile_20 : decode cX1_holdsFile 20 = .ok (.iconst 0, 1) := by decide +kernel
theorem dX1_holdsFile_21 : decode cX1_holdsFile 21 = .ok (.ireturn, 1) := by decide +kernel
set_option maxRecDepth 20000 in
theorem ggX1_addFile_X2_isFile : GoodIn wsX1_addFile wsX2_isFile := goodIn_r _ [4] (by decide +kernel) (by decide +kernel)
set_option maxRecDepth 20000 in
theorem gX1_addFile_X2_isFile_n33 : GoodIn wsX1_addFile (wsX2_isFile) := ggX1_addFile_X2_isFile
theorem dX1_addFile_0 : decode cX1_addFile 0 = .ok (.iload_n 1, 1) := by decide +kernel
theorem dX1_addFile_1 : decode cX1_addFile 1 = .ok (.invokestatic 33, 3) := by decide +kernel
theorem dX1_addFile_4 : decode cX1_addFile 4 = .ok (.ifCond .eq 10, 3) := by decide +kernel
theorem dX1_addFile_7 : decode cX1_addFile 7 = .ok (.aload_n 0, 1) := by decide +kernel
theorem dX1_addFile_8 : decode cX1_addFile 8 = .ok (.getfield 9, 3) := by decide +kernel
theorem dX1_addFile_11 : decode cX1_addFile 11 = .ok (.iload_n 1, 1) := by decide +kernel
theorem dX1_addFile_12 : decode cX1_addFile 12 = .ok (.iconst 1, 1) := by decide +kernel
theorem dX1_addFile_13 : decode cX1_addFile 13 = .ok (.bastore, 1) := by decide +kernel
theorem dX1_addFile_14 : decode cX1_addFile 14 = .ok (.return_, 1) := by decide +kernel
set_option maxRecDepth 20000 in
theorem ggX1_addFiles_X1_holdsFile : GoodIn wsX1_addFiles wsX1_holdsFile := goodIn_r _ [6, 1, 7, 8, 9, 10, 11, 12] (by decide +kernel) (by decide +kernel)
set_option maxRecDepth 20000 in
theorem gX1_addFiles_X1_holdsFile : GoodIn wsX1_addFiles (wsV RX1 36 RX1 yX1_holdsFile wsX1_holdsFile) := goodIn_app (goodIn_of _ (by decide +kernel)) ggX1_addFiles_X1_holdsFile
theorem dX1_addFiles_0 : decode cX1_addFiles 0 = .ok (.iconst 0, 1) := by decide +kernel
theorem dX1_addFiles_1 : decode cX1_addFiles 1 = .ok (.istore_n 3, 1) := by decide +kernel
theorem dX1_addFiles_2 : decode cX1_addFiles 2 = .ok (.iload_n 3, 1) := by decide +kernel
theorem dX1_addFiles_3 : decode cX1_addFiles 3 = .ok (.bipush 100, 2) := by decide +kernel
theorem dX1_addFiles_5 : decode cX1_addFiles 5 = .ok (.if_icmp .ge 36, 3) := by decide +kernel
theorem dX1_addFiles_8 : decode cX1_addFiles 8 = .ok (.iload_n 3, 1) := by decide +kernel
theorem dX1_addFiles_9 : decode cX1_addFiles 9 = .ok (.aload_n 1, 1) := by decide +kernel
theorem dX1_addFiles_10 : decode cX1_addFiles 10 = .ok (.arraylength, 1) := by decide +kernel
theorem dX1_addFiles_11 : decode cX1_addFiles 11 = .ok (.if_icmp .ge 30, 3) := by decide +kernel
theorem dX1_addFiles_14 : decode cX1_addFiles 14 = .ok (.aload_n 1, 1) := by decide +kernel
theorem dX1_addFiles_15 : decode cX1_addFiles 15 = .ok (.iload_n 3, 1) := by decide +kernel
theorem dX1_addFiles_16 : decode cX1_addFiles 16 = .ok (.baload, 1) := by decide +kernel
theorem dX1_addFiles_17 : decode cX1_addFiles 17 = .ok (.ifCond .eq 18, 3) := by decide +kernel
theorem dX1_addFiles_20 : decode cX1_addFiles 20 = .ok (.aload_n 2, 1) := by decide +kernel
theorem dX1_addFiles_21 : decode cX1_addFiles 21 = .ok (.iload_n 3, 1) := by decide +kernel
theorem dX1_addFiles_22 : decode cX1_addFiles 22 = .ok (.invokevirtual 36, 3) := by decide +kernel
theorem dX1_addFiles_25 : decode cX1_addFiles 25 = .ok (.ifCond .eq 10, 3) := by decide +kernel
theorem dX1_addFiles_28 : decode cX1_addFiles 28 = .ok (.aload_n 0, 1) := by decide +kernel
theorem dX1_addFiles_29 : decode cX1_addFiles 29 = .ok (.getfield 9, 3) := by decide +kernel
theorem dX1_addFiles_32 : decode cX1_addFiles 32 = .ok (.iload_n 3, 1) := by decide +kernel
theorem dX1_addFiles_33 : decode cX1_addFiles 33 = .ok (.iconst 1, 1) := by decide +kernel
theorem dX1_addFiles_34 : decode cX1_addFiles 34 = .ok (.bastore, 1) := by decide +kernel
theorem dX1_addFiles_35 : decode cX1_addFiles 35 = .ok (.iinc 3 1, 3) := by decide +kernel
theorem dX1_addFiles_38 : decode cX1_addFiles 38 = .ok (.goto (-36), 3) := by decide +kernel
theorem dX1_addFiles_41 : decode cX1_addFiles 41 = .ok (.return_, 1) := by decide +kernel
theorem dX1_keepOnlyFiles_0 : decode cX1_keepOnlyFiles 0 = .ok (.iconst 0, 1) := by decide +kernel
theorem dX1_keepOnlyFiles_1 : decode cX1_keepOnlyFiles 1 = .ok (.istore_n 2, 1) := by decide +kernel
theorem dX1_keepOnlyFiles_2 : decode cX1_keepOnlyFiles 2 = .ok (.iload_n 2, 1) := by decide +kernel
theorem dX1_keepOnlyFiles_3 : decode cX1_keepOnlyFiles 3 = .ok (.bipush 100, 2) := by decide +kernel
theorem dX1_keepOnlyFiles_5 : decode cX1_keepOnlyFiles 5 = .ok (.if_icmp .ge 41, 3) := by decide +kernel
theorem dX1_keepOnlyFiles_8 : decode cX1_keepOnlyFiles 8 = .ok (.iload_n 2, 1) := by decide +kernel
theorem dX1_keepOnlyFiles_9 : decode cX1_keepOnlyFiles 9 = .ok (.aload_n 1, 1) := by decide +kernel
theorem dX1_keepOnlyFiles_10 : decode cX1_keepOnlyFiles 10 = .ok (.arraylength, 1) := by decide +kernel
theorem dX1_keepOnlyFiles_11 : decode cX1_keepOnlyFiles 11 = .ok (.if_icmp .ge 35, 3) := by decide +kernel
theorem dX1_keepOnlyFiles_14 : decode cX1_keepOnlyFiles 14 = .ok (.aload_n 0, 1) := by decide +kernel
theorem dX1_keepOnlyFiles_15 : decode cX1_keepOnlyFiles 15 = .ok (.getfield 9, 3) := by decide +kernel
theorem dX1_keepOnlyFiles_18 : decode cX1_keepOnlyFiles 18 = .ok (.iload_n 2, 1) := by decide +kernel
theorem dX1_keepOnlyFiles_19 : decode cX1_keepOnlyFiles 19 = .ok (.aload_n 0, 1) := by decide +kernel
theorem dX1_keepOnlyFiles_20 : decode cX1_keepOnlyFiles 20 = .ok (.getfield 9, 3) := by decide +kernel
theorem dX1_keepOnlyFiles_23 : decode cX1_keepOnlyFiles 23 = .ok (.iload_n 2, 1) := by decide +kernel
theorem dX1_keepOnlyFiles_24 : decode cX1_keepOnlyFiles 24 = .ok (.baload, 1) := by decide +kernel
theorem dX1_keepOnlyFiles_25 : decode cX1_keepOnlyFiles 25 = .ok (.ifCond .eq 13, 3) := by decide +kernel
theorem dX1_keepOnlyFiles_28 : decode cX1_keepOnlyFiles 28 = .ok (.aload_n 1, 1) := by decide +kernel
theorem dX1_keepOnlyFiles_29 : decode cX1_keepOnlyFiles 29 = .ok (.iload_n 2, 1) := by decide +kernel
theorem dX1_keepOnlyFiles_30 : decode cX1_keepOnlyFiles 30 = .ok (.baload, 1) := by decide +kernel
theorem dX1_keepOnlyFiles_31 : decode cX1_keepOnlyFiles 31 = .ok (.ifCond .eq 7, 3) := by decide +kernel
theorem dX1_keepOnlyFiles_34 : decode cX1_keepOnlyFiles 34 = .ok (.iconst 1, 1) := by decide +kernel
theorem dX1_keepOnlyFiles_35 : decode cX1_keepOnlyFiles 35 = .ok (.goto 4, 3) := by decide +kernel
theorem dX1_keepOnlyFiles_38 : decode cX1_keepOnlyFiles 38 = .ok (.iconst 0, 1) := by decide +kernel
theorem dX1_keepOnlyFiles_39 : decode cX1_keepOnlyFiles 39 = .ok (.bastore, 1) := by decide +kernel
theorem dX1_keepOnlyFiles_40 : decode cX1_keepOnlyFiles 40 = .ok (.iinc 2 1, 3) := by decide +kernel
theorem dX1_keepOnlyFiles_43 : decode cX1_keepOnlyFiles 43 = .ok (.goto (-41), 3) := by decide +kernel
theorem dX1_keepOnlyFiles_46 : decode cX1_keepOnlyFiles 46 = .ok (.return_, 1) := by decide +kernel
theorem dX1_countLacking_0 : decode cX1_countLacking 0 = .ok (.iconst 0, 1) := by decide +kernel
theorem dX1_countLacking_1 : decode cX1_countLacking 1 = .ok (.istore_n 2, 1) := by decide +kernel
theorem dX1_countLacking_2 : decode cX1_countLacking 2 = .ok (.iconst 0, 1) := by decide +kernel
theorem dX1_countLacking_3 : decode cX1_countLacking 3 = .ok (.istore_n 3, 1) := by decide +kernel
theorem dX1_countLacking_4 : decode cX1_countLacking 4 = .ok (.iload_n 3, 1) := by decide +kernel
theorem dX1_countLacking_5 : decode cX1_countLacking 5 = .ok (.bipush 100, 2) := by decide +kernel
theorem dX1_countLacking_7 : decode cX1_countLacking 7 = .ok (.if_icmp .ge 33, 3) := by decide +kernel
theorem dX1_countLacking_10 : decode cX1_countLacking 10 = .ok (.iload_n 3, 1) := by decide +kernel
theorem dX1_countLacking_11 : decode cX1_countLacking 11 = .ok (.aload_n 1, 1) := by decide +kernel
theorem dX1_countLacking_12 : decode cX1_countLacking 12 = .ok (.arraylength, 1) := by decide +kernel
theorem dX1_countLacking_13 : decode cX1_countLacking 13 = .ok (.if_icmp .ge 27, 3) := by decide +kernel
theorem dX1_countLacking_16 : decode cX1_countLacking 16 = .ok (.aload_n 1, 1) := by decide +kernel
theorem dX1_countLacking_17 : decode cX1_countLacking 17 = .ok (.iload_n 3, 1) := by decide +kernel
theorem dX1_countLacking_18 : decode cX1_countLacking 18 = .ok (.baload, 1) := by decide +kernel
theorem dX1_countLacking_19 : decode cX1_countLacking 19 = .ok (.ifCond .eq 15, 3) := by decide +kernel
theorem dX1_countLacking_22 : decode cX1_countLacking 22 = .ok (.aload_n 0, 1) := by decide +kernel
theorem dX1_countLacking_23 : decode cX1_countLacking 23 = .ok (.getfield 9, 3) := by decide +kernel
theorem dX1_countLacking_26 : decode cX1_countLacking 26 = .ok (.iload_n 3, 1) := by decide +kernel
theorem dX1_countLacking_27 : decode cX1_countLacking 27 = .ok (.baload, 1) := by decide +kernel
theorem dX1_countLacking_28 : decode cX1_countLacking 28 = .ok (.ifCond .ne 6, 3) := by decide +kernel
theorem dX1_countLacking_31 : decode cX1_countLacking 31 = .ok (.iinc 2 1, 3) := by decide +kernel
theorem dX1_countLacking_34 : decode cX1_countLacking 34 = .ok (.iinc 3 1, 3) := by decide +kernel
theorem dX1_countLacking_37 : decode cX1_countLacking 37 = .ok (.goto (-33), 3) := by decide +kernel
theorem dX1_countLacking_40 : decode cX1_countLacking 40 = .ok (.iload_n 2, 1) := by decide +kernel
theorem dX1_countLacking_41 : decode cX1_countLacking 41 = .ok (.ireturn, 1) := by decide +kernel
