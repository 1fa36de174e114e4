theorem dX0_init_0 : decode cX0_init 0 = .ok (.aload_n 0, 1) := by decide +kernel
theorem dX0_init_1 : decode cX0_init 1 = .ok (.invokespecial 3, 3) := by decide +kernel
theorem dX0_init_4 : decode cX0_init 4 = .ok (.aload_n 0, 1) := by decide +kernel
theorem dX0_init_5 : decode cX0_init 5 = .ok (.bipush 60, 2) := by decide +kernel
theorem dX0_init_7 : decode cX0_init 7 = .ok (.newarray .int, 2) := by decide +kernel
theorem dX0_init_9 : decode cX0_init 9 = .ok (.putfield 9, 3) := by decide +kernel
theorem dX0_init_12 : decode cX0_init 12 = .ok (.aload_n 0, 1) := by decide +kernel
theorem dX0_init_13 : decode cX0_init 13 = .ok (.bipush 60, 2) := by decide +kernel
theorem dX0_init_15 : decode cX0_init 15 = .ok (.newarray .int, 2) := by decide +kernel
theorem dX0_init_17 : decode cX0_init 17 = .ok (.putfield 15, 3) := by decide +kernel
theorem dX0_init_20 : decode cX0_init 20 = .ok (.aload_n 0, 1) := by decide +kernel
theorem dX0_init_21 : decode cX0_init 21 = .ok (.sipush 240, 3) := by decide +kernel
theorem dX0_init_24 : decode cX0_init 24 = .ok (.newarray .int, 2) := by decide +kernel
theorem dX0_init_26 : decode cX0_init 26 = .ok (.putfield 18, 3) := by decide +kernel
theorem dX0_init_29 : decode cX0_init 29 = .ok (.aload_n 0, 1) := by decide +kernel
theorem dX0_init_30 : decode cX0_init 30 = .ok (.bipush 60, 2) := by decide +kernel
theorem dX0_init_32 : decode cX0_init 32 = .ok (.newarray .int, 2) := by decide +kernel
theorem dX0_init_34 : decode cX0_init 34 = .ok (.putfield 21, 3) := by decide +kernel
theorem dX0_init_37 : decode cX0_init 37 = .ok (.aload_n 0, 1) := by decide +kernel
theorem dX0_init_38 : decode cX0_init 38 = .ok (.bipush 100, 2) := by decide +kernel
theorem dX0_init_40 : decode cX0_init 40 = .ok (.newarray .boolean, 2) := by decide +kernel
theorem dX0_init_42 : decode cX0_init 42 = .ok (.putfield 24, 3) := by decide +kernel
theorem dX0_init_45 : decode cX0_init 45 = .ok (.return_, 1) := by decide +kernel
theorem dX0_size_0 : decode cX0_size 0 = .ok (.aload_n 0, 1) := by decide +kernel
theorem dX0_size_1 : decode cX0_size 1 = .ok (.getfield 28, 3) := by decide +kernel
theorem dX0_size_4 : decode cX0_size 4 = .ok (.ireturn, 1) := by decide +kernel
theorem dX0_isFull_0 : decode cX0_isFull 0 = .ok (.aload_n 0, 1) := by decide +kernel
theorem dX0_isFull_1 : decode cX0_isFull 1 = .ok (.getfield 28, 3) := by decide +kernel
theorem dX0_isFull_4 : decode cX0_isFull 4 = .ok (.bipush 60, 2) := by decide +kernel
theorem dX0_isFull_6 : decode cX0_isFull 6 = .ok (.if_icmp .lt 7, 3) := by decide +kernel
theorem dX0_isFull_9 : decode cX0_isFull 9 = .ok (.iconst 1, 1) := by decide +kernel
theorem dX0_isFull_10 : decode cX0_isFull 10 = .ok (.goto 4, 3) := by decide +kernel
theorem dX0_isFull_13 : decode cX0_isFull 13 = .ok (.iconst 0, 1) := by decide +kernel
theorem dX0_isFull_14 : decode cX0_isFull 14 = .ok (.ireturn, 1) := by decide +kernel
theorem dX0_isCommit_0 : decode cX0_isCommit 0 = .ok (.iload_n 1, 1) := by decide +kernel
theorem dX0_isCommit_1 : decode cX0_isCommit 1 = .ok (.ifCond .lt 15, 3) := by decide +kernel
theorem dX0_isCommit_4 : decode cX0_isCommit 4 = .ok (.iload_n 1, 1) := by decide +kernel
theorem dX0_isCommit_5 : decode cX0_isCommit 5 = .ok (.aload_n 0, 1) := by decide +kernel
theorem dX0_isCommit_6 : decode cX0_isCommit 6 = .ok (.getfield 28, 3) := by decide +kernel
theorem dX0_isCommit_9 : decode cX0_isCommit 9 = .ok (.if_icmp .ge 7, 3) := by decide +kernel
theorem dX0_isCommit_12 : decode cX0_isCommit 12 = .ok (.iconst 1, 1) := by decide +kernel
theorem dX0_isCommit_13 : decode cX0_isCommit 13 = .ok (.goto 4, 3) := by decide +kernel
theorem dX0_isCommit_16 : decode cX0_isCommit 16 = .ok (.iconst 0, 1) := by decide +kernel
theorem dX0_isCommit_17 : decode cX0_isCommit 17 = .ok (.ireturn, 1) := by decide +kernel
set_option maxRecDepth 20000 in
theorem ggX0_append_X0_isFull : GoodIn wsX0_append wsX0_isFull := goodIn_r _ [9, 1, 21, 22, 23, 24, 25, 26] (by decide +kernel) (by decide +kernel)
set_option maxRecDepth 20000 in
theorem gX0_append_X0_isFull : GoodIn wsX0_append (wsV RX0 32 RX0 yX0_isFull wsX0_isFull) := goodIn_app (goodIn_of _ (by decide +kernel)) ggX0_append_X0_isFull
set_option maxRecDepth 20000 in
theorem ggX0_append_X0_fileIn : GoodIn wsX0_append wsX0_fileIn := goodIn_r _ [13, 4, 14, 15, 16, 8, 17, 1, 18, 19, 20, 21, 22, 23, 24, 25, 26] (by decide +kernel) (by decide +kernel)
set_option maxRecDepth 20000 in
theorem gX0_append_X0_fileIn : GoodIn wsX0_append (wsV RX0 36 RX0 yX0_fileIn wsX0_fileIn) := goodIn_app (goodIn_of _ (by decide +kernel)) ggX0_append_X0_fileIn
theorem dX0_append_0 : decode cX0_append 0 = .ok (.aload_n 0, 1) := by decide +kernel
theorem dX0_append_1 : decode cX0_append 1 = .ok (.invokevirtual 32, 3) := by decide +kernel
theorem dX0_append_4 : decode cX0_append 4 = .ok (.ifCond .eq 5, 3) := by decide +kernel
theorem dX0_append_7 : decode cX0_append 7 = .ok (.iconst (-1), 1) := by decide +kernel
theorem dX0_append_8 : decode cX0_append 8 = .ok (.ireturn, 1) := by decide +kernel
theorem dX0_append_9 : decode cX0_append 9 = .ok (.aload_n 0, 1) := by decide +kernel
theorem dX0_append_10 : decode cX0_append 10 = .ok (.getfield 28, 3) := by decide +kernel
theorem dX0_append_13 : decode cX0_append 13 = .ok (.istore 5, 2) := by decide +kernel
theorem dX0_append_15 : decode cX0_append 15 = .ok (.aload_n 0, 1) := by decide +kernel
theorem dX0_append_16 : decode cX0_append 16 = .ok (.getfield 9, 3) := by decide +kernel
theorem dX0_append_19 : decode cX0_append 19 = .ok (.iload 5, 2) := by decide +kernel
theorem dX0_append_21 : decode cX0_append 21 = .ok (.iload_n 1, 1) := by decide +kernel
theorem dX0_append_22 : decode cX0_append 22 = .ok (.iastore, 1) := by decide +kernel
theorem dX0_append_23 : decode cX0_append 23 = .ok (.aload_n 0, 1) := by decide +kernel
theorem dX0_append_24 : decode cX0_append 24 = .ok (.getfield 15, 3) := by decide +kernel
theorem dX0_append_27 : decode cX0_append 27 = .ok (.iload 5, 2) := by decide +kernel
theorem dX0_append_29 : decode cX0_append 29 = .ok (.iload_n 2, 1) := by decide +kernel
theorem dX0_append_30 : decode cX0_append 30 = .ok (.iastore, 1) := by decide +kernel
theorem dX0_append_31 : decode cX0_append 31 = .ok (.iconst 0, 1) := by decide +kernel
theorem dX0_append_32 : decode cX0_append 32 = .ok (.istore 6, 2) := by decide +kernel
theorem dX0_append_34 : decode cX0_append 34 = .ok (.iload 6, 2) := by decide +kernel
theorem dX0_append_36 : decode cX0_append 36 = .ok (.iconst 4, 1) := by decide +kernel
theorem dX0_append_37 : decode cX0_append 37 = .ok (.if_icmp .ge 39, 3) := by decide +kernel
theorem dX0_append_40 : decode cX0_append 40 = .ok (.aload_n 0, 1) := by decide +kernel
theorem dX0_append_41 : decode cX0_append 41 = .ok (.getfield 18, 3) := by decide +kernel
theorem dX0_append_44 : decode cX0_append 44 = .ok (.iload 5, 2) := by decide +kernel
theorem dX0_append_46 : decode cX0_append 46 = .ok (.iconst 4, 1) := by decide +kernel
theorem dX0_append_47 : decode cX0_append 47 = .ok (.imul, 1) := by decide +kernel
theorem dX0_append_48 : decode cX0_append 48 = .ok (.iload 6, 2) := by decide +kernel
theorem dX0_append_50 : decode cX0_append 50 = .ok (.iadd, 1) := by decide +kernel
theorem dX0_append_51 : decode cX0_append 51 = .ok (.iload 6, 2) := by decide +kernel
theorem dX0_append_53 : decode cX0_append 53 = .ok (.iload_n 3, 1) := by decide +kernel
theorem dX0_append_54 : decode cX0_append 54 = .ok (.if_icmp .ne 8, 3) := by decide +kernel
theorem dX0_append_57 : decode cX0_append 57 = .ok (.iload 4, 2) := by decide +kernel
theorem dX0_append_59 : decode cX0_append 59 = .ok (.goto 10, 3) := by decide +kernel
theorem dX0_append_62 : decode cX0_append 62 = .ok (.aload_n 0, 1) := by decide +kernel
theorem dX0_append_63 : decode cX0_append 63 = .ok (.iload_n 1, 1) := by decide +kernel
theorem dX0_append_64 : decode cX0_append 64 = .ok (.iload 6, 2) := by decide +kernel
theorem dX0_append_66 : decode cX0_append 66 = .ok (.invokevirtual 36, 3) := by decide +kernel
theorem dX0_append_69 : decode cX0_append 69 = .ok (.iastore, 1) := by decide +kernel
theorem dX0_append_70 : decode cX0_append 70 = .ok (.iinc 6 1, 3) := by decide +kernel
theorem dX0_append_73 : decode cX0_append 73 = .ok (.goto (-39), 3) := by decide +kernel
theorem dX0_append_76 : decode cX0_append 76 = .ok (.aload_n 0, 1) := by decide +kernel
theorem dX0_append_77 : decode cX0_append 77 = .ok (.dup, 1) := by decide +kernel
theorem dX0_append_78 : decode cX0_append 78 = .ok (.getfield 28, 3) := by decide +kernel
theorem dX0_append_81 : decode cX0_append 81 = .ok (.iconst 1, 1) := by decide +kernel
theorem dX0_append_82 : decode cX0_append 82 = .ok (.iadd, 1) := by decide +kernel
theorem dX0_append_83 : decode cX0_append 83 = .ok (.putfield 28, 3) := by decide +kernel
theorem dX0_append_86 : decode cX0_append 86 = .ok (.iload 5, 2) := by decide +kernel
theorem dX0_append_88 : decode cX0_append 88 = .ok (.ireturn, 1) := by decide +kernel
set_option maxRecDepth 20000 in
theorem ggX0_fileIn_X0_isCommit : GoodIn wsX0_fileIn wsX0_isCommit := goodIn_r _ [6, 7, 11, 12, 13, 14, 15, 16] (by decide +kernel) (by decide +kernel)
set_option maxRecDepth 20000 in
theorem gX0_fileIn_X0_isCommit : GoodIn wsX0_fileIn (wsV RX0 40 RX0 yX0_isCommit wsX0_isCommit) := goodIn_app (goodIn_of _ (by decide +kernel)) ggX0_fileIn_X0_isCommit
set_option maxRecDepth 20000 in
theorem ggX0_fileIn_X2_isSlot : GoodIn wsX0_fileIn wsX2_isSlot := goodIn_r _ [10] (by decide +kernel) (by decide +kernel)
set_option maxRecDepth 20000 in
theorem gX0_fileIn_X2_isSlot_n44 : GoodIn wsX0_fileIn (wsX2_isSlot) := ggX0_fileIn_X2_isSlot
theorem dX0_fileIn_0 : decode cX0_fileIn 0 = .ok (.aload_n 0, 1) := by decide +kernel
theorem dX0_fileIn_1 : decode cX0_fileIn 1 = .ok (.iload_n 1, 1) := by decide +kernel
theorem dX0_fileIn_2 : decode cX0_fileIn 2 = .ok (.invokevirtual 40, 3) := by decide +kernel
theorem dX0_fileIn_5 : decode cX0_fileIn 5 = .ok (.ifCond .eq 23, 3) := by decide +kernel
theorem dX0_fileIn_8 : decode cX0_fileIn 8 = .ok (.iload_n 2, 1) := by decide +kernel
theorem dX0_fileIn_9 : decode cX0_fileIn 9 = .ok (.invokestatic 44, 3) := by decide +kernel
theorem dX0_fileIn_12 : decode cX0_fileIn 12 = .ok (.ifCond .eq 16, 3) := by decide +kernel
theorem dX0_fileIn_15 : decode cX0_fileIn 15 = .ok (.aload_n 0, 1) := by decide +kernel
theorem dX0_fileIn_16 : decode cX0_fileIn 16 = .ok (.getfield 18, 3) := by decide +kernel
theorem dX0_fileIn_19 : decode cX0_fileIn 19 = .ok (.iload_n 1, 1) := by decide +kernel
theorem dX0_fileIn_20 : decode cX0_fileIn 20 = .ok (.iconst 4, 1) := by decide +kernel
theorem dX0_fileIn_21 : decode cX0_fileIn 21 = .ok (.imul, 1) := by decide +kernel
theorem dX0_fileIn_22 : decode cX0_fileIn 22 = .ok (.iload_n 2, 1) := by decide +kernel
theorem dX0_fileIn_23 : decode cX0_fileIn 23 = .ok (.iadd, 1) := by decide +kernel
theorem dX0_fileIn_24 : decode cX0_fileIn 24 = .ok (.iaload, 1) := by decide +kernel
theorem dX0_fileIn_25 : decode cX0_fileIn 25 = .ok (.goto 4, 3) := by decide +kernel
theorem dX0_fileIn_28 : decode cX0_fileIn 28 = .ok (.iconst (-1), 1) := by decide +kernel
theorem dX0_fileIn_29 : decode cX0_fileIn 29 = .ok (.ireturn, 1) := by decide +kernel
set_option maxRecDepth 20000 in
theorem ggX0_filesOf_X2_contains : GoodIn wsX0_filesOf wsX2_contains := goodIn_r _ [5, 6, 7, 4, 8] (by decide +kernel) (by decide +kernel)
set_option maxRecDepth 20000 in
theorem gX0_filesOf_X2_contains_n47 : GoodIn wsX0_filesOf (wsX2_contains) := ggX0_filesOf_X2_contains
set_option maxRecDepth 20000 in
theorem ggX0_filesOf_X0_findFilesOf : GoodIn wsX0_filesOf wsX0_findFilesOf := goodIn_r _ [13, 1, 14, 15, 16, 12, 17, 18, 19, 20, 21, 22, 2, 23, 4, 24, 25, 26, 27, 28, 29, 30, 31, 32] (by decide +kernel) (by decide +kernel)
set_option maxRecDepth 20000 in
theorem gX0_filesOf_X0_findFilesOf : GoodIn wsX0_filesOf (wsV RX0 51 RX0 yX0_findFilesOf wsX0_findFilesOf) := goodIn_app (goodIn_of _ (by decide +kernel)) ggX0_filesOf_X0_findFilesOf
theorem dX0_filesOf_0 : decode cX0_filesOf 0 = .ok (.iconst 0, 1) := by decide +kernel
theorem dX0_filesOf_1 : decode cX0_filesOf 1 = .ok (.istore_n 3, 1) := by decide +kernel
theorem dX0_filesOf_2 : decode cX0_filesOf 2 = .ok (.iload_n 3, 1) := by decide +kernel
theorem dX0_filesOf_3 : decode cX0_filesOf 3 = .ok (.bipush 100, 2) := by decide +kernel
theorem dX0_filesOf_5 : decode cX0_filesOf 5 = .ok (.if_icmp .ge 16, 3) := by decide +kernel
theorem dX0_filesOf_8 : decode cX0_filesOf 8 = .ok (.aload_n 0, 1) := by decide +kernel
theorem dX0_filesOf_9 : decode cX0_filesOf 9 = .ok (.getfield 24, 3) := by decide +kernel
theorem dX0_filesOf_12 : decode cX0_filesOf 12 = .ok (.iload_n 3, 1) := by decide +kernel
theorem dX0_filesOf_13 : decode cX0_filesOf 13 = .ok (.iconst 0, 1) := by decide +kernel
theorem dX0_filesOf_14 : decode cX0_filesOf 14 = .ok (.bastore, 1) := by decide +kernel
theorem dX0_filesOf_15 : decode cX0_filesOf 15 = .ok (.iinc 3 1, 3) := by decide +kernel
theorem dX0_filesOf_18 : decode cX0_filesOf 18 = .ok (.goto (-16), 3) := by decide +kernel
theorem dX0_filesOf_21 : decode cX0_filesOf 21 = .ok (.iconst 0, 1) := by decide +kernel
theorem dX0_filesOf_22 : decode cX0_filesOf 22 = .ok (.istore_n 3, 1) := by decide +kernel
theorem dX0_filesOf_23 : decode cX0_filesOf 23 = .ok (.iload_n 3, 1) := by decide +kernel
theorem dX0_filesOf_24 : decode cX0_filesOf 24 = .ok (.aload_n 0, 1) := by decide +kernel
theorem dX0_filesOf_25 : decode cX0_filesOf 25 = .ok (.getfield 28, 3) := by decide +kernel
theorem dX0_filesOf_28 : decode cX0_filesOf 28 = .ok (.if_icmp .ge 22, 3) := by decide +kernel
theorem dX0_filesOf_31 : decode cX0_filesOf 31 = .ok (.lload_n 1, 1) := by decide +kernel
theorem dX0_filesOf_32 : decode cX0_filesOf 32 = .ok (.iload_n 3, 1) := by decide +kernel
theorem dX0_filesOf_33 : decode cX0_filesOf 33 = .ok (.invokestatic 47, 3) := by decide +kernel
theorem dX0_filesOf_36 : decode cX0_filesOf 36 = .ok (.ifCond .eq 8, 3) := by decide +kernel
theorem dX0_filesOf_39 : decode cX0_filesOf 39 = .ok (.aload_n 0, 1) := by decide +kernel
theorem dX0_filesOf_40 : decode cX0_filesOf 40 = .ok (.iload_n 3, 1) := by decide +kernel
theorem dX0_filesOf_41 : decode cX0_filesOf 41 = .ok (.invokevirtual 51, 3) := by decide +kernel
theorem dX0_filesOf_44 : decode cX0_filesOf 44 = .ok (.iinc 3 1, 3) := by decide +kernel
theorem dX0_filesOf_47 : decode cX0_filesOf 47 = .ok (.goto (-24), 3) := by decide +kernel
theorem dX0_filesOf_50 : decode cX0_filesOf 50 = .ok (.aload_n 0, 1) := by decide +kernel
theorem dX0_filesOf_51 : decode cX0_filesOf 51 = .ok (.getfield 24, 3) := by decide +kernel
theorem dX0_filesOf_54 : decode cX0_filesOf 54 = .ok (.areturn, 1) := by decide +kernel
set_option maxRecDepth 20000 in
theorem ggX0_findFilesOf_X0_fileIn : GoodIn wsX0_findFilesOf wsX0_fileIn := goodIn_r _ [6, 7, 8, 9, 10, 5, 11, 12, 13, 14, 15, 18, 19, 20, 21, 22, 23] (by decide +kernel) (by decide +kernel)
set_option maxRecDepth 20000 in
theorem gX0_findFilesOf_X0_fileIn : GoodIn wsX0_findFilesOf (wsV RX0 36 RX0 yX0_fileIn wsX0_fileIn) := goodIn_app (goodIn_of _ (by decide +kernel)) ggX0_findFilesOf_X0_fileIn
set_option maxRecDepth 20000 in
theorem ggX0_findFilesOf_X2_isFile : GoodIn wsX0_findFilesOf wsX2_isFile := goodIn_r _ [17] (by decide +kernel) (by decide +kernel)
set_option maxRecDepth 20000 in
theorem gX0_findFilesOf_X2_isFile_n55 : GoodIn wsX0_findFilesOf (wsX2_isFile) := ggX0_findFilesOf_X2_isFile
theorem dX0_findFilesOf_0 : decode cX0_findFilesOf 0 = .ok (.iconst 0, 1) := by decide +kernel
theorem dX0_findFilesOf_1 : decode cX0_findFilesOf 1 = .ok (.istore_n 2, 1) := by decide +kernel
theorem dX0_findFilesOf_2 : decode cX0_findFilesOf 2 = .ok (.iload_n 2, 1) := by decide +kernel
theorem dX0_findFilesOf_3 : decode cX0_findFilesOf 3 = .ok (.iconst 4, 1) := by decide +kernel
theorem dX0_findFilesOf_4 : decode cX0_findFilesOf 4 = .ok (.if_icmp .ge 30, 3) := by decide +kernel
theorem dX0_findFilesOf_7 : decode cX0_findFilesOf 7 = .ok (.aload_n 0, 1) := by decide +kernel
theorem dX0_findFilesOf_8 : decode cX0_findFilesOf 8 = .ok (.iload_n 1, 1) := by decide +kernel
theorem dX0_findFilesOf_9 : decode cX0_findFilesOf 9 = .ok (.iload_n 2, 1) := by decide +kernel
theorem dX0_findFilesOf_10 : decode cX0_findFilesOf 10 = .ok (.invokevirtual 36, 3) := by decide +kernel
theorem dX0_findFilesOf_13 : decode cX0_findFilesOf 13 = .ok (.istore_n 3, 1) := by decide +kernel
theorem dX0_findFilesOf_14 : decode cX0_findFilesOf 14 = .ok (.iload_n 3, 1) := by decide +kernel
theorem dX0_findFilesOf_15 : decode cX0_findFilesOf 15 = .ok (.invokestatic 55, 3) := by decide +kernel
theorem dX0_findFilesOf_18 : decode cX0_findFilesOf 18 = .ok (.ifCond .eq 10, 3) := by decide +kernel
theorem dX0_findFilesOf_21 : decode cX0_findFilesOf 21 = .ok (.aload_n 0, 1) := by decide +kernel
theorem dX0_findFilesOf_22 : decode cX0_findFilesOf 22 = .ok (.getfield 24, 3) := by decide +kernel
theorem dX0_findFilesOf_25 : decode cX0_findFilesOf 25 = .ok (.iload_n 3, 1) := by decide +kernel
theorem dX0_findFilesOf_26 : decode cX0_findFilesOf 26 = .ok (.iconst 1, 1) := by decide +kernel
theorem dX0_findFilesOf_27 : decode cX0_findFilesOf 27 = .ok (.bastore, 1) := by decide +kernel
theorem dX0_findFilesOf_28 : decode cX0_findFilesOf 28 = .ok (.iinc 2 1, 3) := by decide +kernel
theorem dX0_findFilesOf_31 : decode cX0_findFilesOf 31 = .ok (.goto (-29), 3) := by decide +kernel
theorem dX0_findFilesOf_34 : decode cX0_findFilesOf 34 = .ok (.return_, 1) := by decide +kernel
set_option maxRecDepth 20000 in
theorem ggX0_parentsOf_X0_isCommit : GoodIn wsX0_parentsOf wsX0_isCommit := goodIn_r _ [7, 8, 12, 13, 14, 15, 16, 17] (by decide +kernel) (by decide +kernel)
set_option maxRecDepth 20000 in
theorem gX0_parentsOf_X0_isCommit : GoodIn wsX0_parentsOf (wsV RX0 40 RX0 yX0_isCommit wsX0_isCommit) := goodIn_app (goodIn_of _ (by decide +kernel)) ggX0_parentsOf_X0_isCommit
set_option maxRecDepth 20000 in
theorem ggX0_parentsOf_X2_setOf : GoodIn wsX0_parentsOf wsX2_setOf := goodIn_r _ [11] (by decide +kernel) (by decide +kernel)
set_option maxRecDepth 20000 in
theorem gX0_parentsOf_X2_setOf_n58 : GoodIn wsX0_parentsOf (wsX2_setOf) := ggX0_parentsOf_X2_setOf
theorem dX0_parentsOf_0 : decode cX0_parentsOf 0 = .ok (.aload_n 0, 1) := by decide +kernel
theorem dX0_parentsOf_1 : decode cX0_parentsOf 1 = .ok (.iload_n 1, 1) := by decide +kernel
theorem dX0_parentsOf_2 : decode cX0_parentsOf 2 = .ok (.invokevirtual 40, 3) := by decide +kernel
theorem dX0_parentsOf_5 : decode cX0_parentsOf 5 = .ok (.ifCond .eq 25, 3) := by decide +kernel
theorem dX0_parentsOf_8 : decode cX0_parentsOf 8 = .ok (.aload_n 0, 1) := by decide +kernel
theorem dX0_parentsOf_9 : decode cX0_parentsOf 9 = .ok (.getfield 9, 3) := by decide +kernel
theorem dX0_parentsOf_12 : decode cX0_parentsOf 12 = .ok (.iload_n 1, 1) := by decide +kernel
theorem dX0_parentsOf_13 : decode cX0_parentsOf 13 = .ok (.iaload, 1) := by decide +kernel
theorem dX0_parentsOf_14 : decode cX0_parentsOf 14 = .ok (.invokestatic 58, 3) := by decide +kernel
theorem dX0_parentsOf_17 : decode cX0_parentsOf 17 = .ok (.aload_n 0, 1) := by decide +kernel
theorem dX0_parentsOf_18 : decode cX0_parentsOf 18 = .ok (.getfield 15, 3) := by decide +kernel
theorem dX0_parentsOf_21 : decode cX0_parentsOf 21 = .ok (.iload_n 1, 1) := by decide +kernel
theorem dX0_parentsOf_22 : decode cX0_parentsOf 22 = .ok (.iaload, 1) := by decide +kernel
theorem dX0_parentsOf_23 : decode cX0_parentsOf 23 = .ok (.invokestatic 58, 3) := by decide +kernel
theorem dX0_parentsOf_26 : decode cX0_parentsOf 26 = .ok (.lor, 1) := by decide +kernel
theorem dX0_parentsOf_27 : decode cX0_parentsOf 27 = .ok (.goto 4, 3) := by decide +kernel
theorem dX0_parentsOf_30 : decode cX0_parentsOf 30 = .ok (.lconst 0, 1) := by decide +kernel
theorem dX0_parentsOf_31 : decode cX0_parentsOf 31 = .ok (.lreturn, 1) := by decide +kernel
set_option maxRecDepth 20000 in
theorem ggX0_shallowOf_X2_contains : GoodIn wsX0_shallowOf wsX2_contains := goodIn_r _ [5, 6, 7, 4, 8] (by decide +kernel) (by decide +kernel)
set_option maxRecDepth 20000 in
theorem gX0_shallowOf_X2_contains_n47 : GoodIn wsX0_shallowOf (wsX2_contains) := ggX0_shallowOf_X2_contains
set_option maxRecDepth 20000 in
theorem ggX0_shallowOf_X0_parentsOf : GoodIn wsX0_shallowOf wsX0_parentsOf := goodIn_r _ [13, 14, 15, 16, 17, 18, 12, 19, 1, 7, 4, 8, 20, 21, 22, 23, 24, 25] (by decide +kernel) (by decide +kernel)
set_option maxRecDepth 20000 in
theorem gX0_shallowOf_X0_parentsOf : GoodIn wsX0_shallowOf (wsV RX0 62 RX0 yX0_parentsOf wsX0_parentsOf) := goodIn_app (goodIn_of _ (by decide +kernel)) ggX0_shallowOf_X0_parentsOf
set_option maxRecDepth 20000 in
theorem ggX0_shallowOf_X2_setOf : GoodIn wsX0_shallowOf wsX2_setOf := goodIn_r _ [8] (by decide +kernel) (by decide +kernel)
set_option maxRecDepth 20000 in
theorem gX0_shallowOf_X2_setOf_n58 : GoodIn wsX0_shallowOf (wsX2_setOf) := ggX0_shallowOf_X2_setOf
theorem dX0_shallowOf_0 : decode cX0_shallowOf 0 = .ok (.lconst 0, 1) := by decide +kernel
theorem dX0_shallowOf_1 : decode cX0_shallowOf 1 = .ok (.lstore_n 3, 1) := by decide +kernel
theorem dX0_shallowOf_2 : decode cX0_shallowOf 2 = .ok (.iconst 0, 1) := by decide +kernel
theorem dX0_shallowOf_3 : decode cX0_shallowOf 3 = .ok (.istore 5, 2) := by decide +kernel
theorem dX0_shallowOf_5 : decode cX0_shallowOf 5 = .ok (.iload 5, 2) := by decide +kernel
theorem dX0_shallowOf_7 : decode cX0_shallowOf 7 = .ok (.aload_n 0, 1) := by decide +kernel
theorem dX0_shallowOf_8 : decode cX0_shallowOf 8 = .ok (.getfield 28, 3) := by decide +kernel
theorem dX0_shallowOf_11 : decode cX0_shallowOf 11 = .ok (.if_icmp .ge 43, 3) := by decide +kernel
theorem dX0_shallowOf_14 : decode cX0_shallowOf 14 = .ok (.lload_n 1, 1) := by decide +kernel
theorem dX0_shallowOf_15 : decode cX0_shallowOf 15 = .ok (.iload 5, 2) := by decide +kernel
theorem dX0_shallowOf_17 : decode cX0_shallowOf 17 = .ok (.invokestatic 47, 3) := by decide +kernel
theorem dX0_shallowOf_20 : decode cX0_shallowOf 20 = .ok (.ifCond .eq 28, 3) := by decide +kernel
theorem dX0_shallowOf_23 : decode cX0_shallowOf 23 = .ok (.aload_n 0, 1) := by decide +kernel
theorem dX0_shallowOf_24 : decode cX0_shallowOf 24 = .ok (.iload 5, 2) := by decide +kernel
theorem dX0_shallowOf_26 : decode cX0_shallowOf 26 = .ok (.invokevirtual 62, 3) := by decide +kernel
theorem dX0_shallowOf_29 : decode cX0_shallowOf 29 = .ok (.lload_n 1, 1) := by decide +kernel
theorem dX0_shallowOf_30 : decode cX0_shallowOf 30 = .ok (.ldc2_w 65, 3) := by decide +kernel
theorem dX0_shallowOf_33 : decode cX0_shallowOf 33 = .ok (.lxor, 1) := by decide +kernel
theorem dX0_shallowOf_34 : decode cX0_shallowOf 34 = .ok (.land, 1) := by decide +kernel
theorem dX0_shallowOf_35 : decode cX0_shallowOf 35 = .ok (.lconst 0, 1) := by decide +kernel
theorem dX0_shallowOf_36 : decode cX0_shallowOf 36 = .ok (.lcmp, 1) := by decide +kernel
theorem dX0_shallowOf_37 : decode cX0_shallowOf 37 = .ok (.ifCond .eq 11, 3) := by decide +kernel
theorem dX0_shallowOf_40 : decode cX0_shallowOf 40 = .ok (.lload_n 3, 1) := by decide +kernel
theorem dX0_shallowOf_41 : decode cX0_shallowOf 41 = .ok (.iload 5, 2) := by decide +kernel
theorem dX0_shallowOf_43 : decode cX0_shallowOf 43 = .ok (.invokestatic 58, 3) := by decide +kernel
theorem dX0_shallowOf_46 : decode cX0_shallowOf 46 = .ok (.lor, 1) := by decide +kernel
theorem dX0_shallowOf_47 : decode cX0_shallowOf 47 = .ok (.lstore_n 3, 1) := by decide +kernel
theorem dX0_shallowOf_48 : decode cX0_shallowOf 48 = .ok (.iinc 5 1, 3) := by decide +kernel
theorem dX0_shallowOf_51 : decode cX0_shallowOf 51 = .ok (.goto (-46), 3) := by decide +kernel
theorem dX0_shallowOf_54 : decode cX0_shallowOf 54 = .ok (.lload_n 3, 1) := by decide +kernel
theorem dX0_shallowOf_55 : decode cX0_shallowOf 55 = .ok (.lreturn, 1) := by decide +kernel
set_option maxRecDepth 20000 in
theorem ggX0_ancestorsOf_X0_shallowOf : GoodIn wsX0_ancestorsOf wsX0_shallowOf := goodIn_r _ [7, 1, 2, 8, 9, 10, 11, 12, 13, 14, 15, 16, 6, 17, 18, 19, 20, 21, 22, 23, 24, 25, 26, 27, 28, 29] (by decide +kernel) (by decide +kernel)
set_option maxRecDepth 20000 in
theorem gX0_ancestorsOf_X0_shallowOf : GoodIn wsX0_ancestorsOf (wsV RX0 67 RX0 yX0_shallowOf wsX0_shallowOf) := goodIn_app (goodIn_of _ (by decide +kernel)) ggX0_ancestorsOf_X0_shallowOf
set_option maxRecDepth 20000 in
theorem ggX0_ancestorsOf_X2_contains : GoodIn wsX0_ancestorsOf wsX2_contains := goodIn_r _ [10, 11, 12, 9, 13] (by decide +kernel) (by decide +kernel)
set_option maxRecDepth 20000 in
theorem gX0_ancestorsOf_X2_contains_n47 : GoodIn wsX0_ancestorsOf (wsX2_contains) := ggX0_ancestorsOf_X2_contains
set_option maxRecDepth 20000 in
theorem ggX0_ancestorsOf_X0_parentsOf : GoodIn wsX0_ancestorsOf wsX0_parentsOf := goodIn_r _ [17, 18, 19, 20, 21, 22, 6, 23, 1, 12, 9, 13, 24, 25, 26, 27, 28, 29] (by decide +kernel) (by decide +kernel)
set_option maxRecDepth 20000 in
theorem gX0_ancestorsOf_X0_parentsOf : GoodIn wsX0_ancestorsOf (wsV RX0 62 RX0 yX0_parentsOf wsX0_parentsOf) := goodIn_app (goodIn_of _ (by decide +kernel)) ggX0_ancestorsOf_X0_parentsOf
theorem dX0_ancestorsOf_0 : decode cX0_ancestorsOf 0 = .ok (.aload_n 0, 1) := by decide +kernel
theorem dX0_ancestorsOf_1 : decode cX0_ancestorsOf 1 = .ok (.lload_n 3, 1) := by decide +kernel
theorem dX0_ancestorsOf_2 : decode cX0_ancestorsOf 2 = .ok (.invokevirtual 67, 3) := by decide +kernel
theorem dX0_ancestorsOf_5 : decode cX0_ancestorsOf 5 = .ok (.lstore 5, 2) := by decide +kernel
theorem dX0_ancestorsOf_7 : decode cX0_ancestorsOf 7 = .ok (.lload_n 1, 1) := by decide +kernel
theorem dX0_ancestorsOf_8 : decode cX0_ancestorsOf 8 = .ok (.lload_n 3, 1) := by decide +kernel
theorem dX0_ancestorsOf_9 : decode cX0_ancestorsOf 9 = .ok (.land, 1) := by decide +kernel
theorem dX0_ancestorsOf_10 : decode cX0_ancestorsOf 10 = .ok (.lstore 7, 2) := by decide +kernel
theorem dX0_ancestorsOf_12 : decode cX0_ancestorsOf 12 = .ok (.aload_n 0, 1) := by decide +kernel
theorem dX0_ancestorsOf_13 : decode cX0_ancestorsOf 13 = .ok (.getfield 28, 3) := by decide +kernel
theorem dX0_ancestorsOf_16 : decode cX0_ancestorsOf 16 = .ok (.iconst 1, 1) := by decide +kernel
theorem dX0_ancestorsOf_17 : decode cX0_ancestorsOf 17 = .ok (.isub, 1) := by decide +kernel
theorem dX0_ancestorsOf_18 : decode cX0_ancestorsOf 18 = .ok (.istore 9, 2) := by decide +kernel
theorem dX0_ancestorsOf_20 : decode cX0_ancestorsOf 20 = .ok (.iload 9, 2) := by decide +kernel
theorem dX0_ancestorsOf_22 : decode cX0_ancestorsOf 22 = .ok (.ifCond .lt 37, 3) := by decide +kernel
theorem dX0_ancestorsOf_25 : decode cX0_ancestorsOf 25 = .ok (.lload 7, 2) := by decide +kernel
theorem dX0_ancestorsOf_27 : decode cX0_ancestorsOf 27 = .ok (.lload 5, 2) := by decide +kernel
theorem dX0_ancestorsOf_29 : decode cX0_ancestorsOf 29 = .ok (.ldc2_w 65, 3) := by decide +kernel
theorem dX0_ancestorsOf_32 : decode cX0_ancestorsOf 32 = .ok (.lxor, 1) := by decide +kernel
theorem dX0_ancestorsOf_33 : decode cX0_ancestorsOf 33 = .ok (.land, 1) := by decide +kernel
theorem dX0_ancestorsOf_34 : decode cX0_ancestorsOf 34 = .ok (.iload 9, 2) := by decide +kernel
theorem dX0_ancestorsOf_36 : decode cX0_ancestorsOf 36 = .ok (.invokestatic 47, 3) := by decide +kernel
theorem dX0_ancestorsOf_39 : decode cX0_ancestorsOf 39 = .ok (.ifCond .eq 14, 3) := by decide +kernel
theorem dX0_ancestorsOf_42 : decode cX0_ancestorsOf 42 = .ok (.lload 7, 2) := by decide +kernel
theorem dX0_ancestorsOf_44 : decode cX0_ancestorsOf 44 = .ok (.aload_n 0, 1) := by decide +kernel
theorem dX0_ancestorsOf_45 : decode cX0_ancestorsOf 45 = .ok (.iload 9, 2) := by decide +kernel
theorem dX0_ancestorsOf_47 : decode cX0_ancestorsOf 47 = .ok (.invokevirtual 62, 3) := by decide +kernel
theorem dX0_ancestorsOf_50 : decode cX0_ancestorsOf 50 = .ok (.lor, 1) := by decide +kernel
theorem dX0_ancestorsOf_51 : decode cX0_ancestorsOf 51 = .ok (.lstore 7, 2) := by decide +kernel
theorem dX0_ancestorsOf_53 : decode cX0_ancestorsOf 53 = .ok (.iinc 9 (-1), 3) := by decide +kernel
theorem dX0_ancestorsOf_56 : decode cX0_ancestorsOf 56 = .ok (.goto (-36), 3) := by decide +kernel
theorem dX0_ancestorsOf_59 : decode cX0_ancestorsOf 59 = .ok (.lload 7, 2) := by decide +kernel
theorem dX0_ancestorsOf_61 : decode cX0_ancestorsOf 61 = .ok (.lreturn, 1) := by decide +kernel
set_option maxRecDepth 20000 in
theorem ggX0_reachOf_X0_isCommit : GoodIn wsX0_reachOf wsX0_isCommit := goodIn_r _ [8, 9, 21, 22, 23, 24, 25, 26] (by decide +kernel) (by decide +kernel)
set_option maxRecDepth 20000 in
theorem gX0_reachOf_X0_isCommit : GoodIn wsX0_reachOf (wsV RX0 40 RX0 yX0_isCommit wsX0_isCommit) := goodIn_app (goodIn_of _ (by decide +kernel)) ggX0_reachOf_X0_isCommit
set_option maxRecDepth 20000 in
theorem ggX0_reachOf_J7_fill_53178 : GoodIn wsX0_reachOf wsJ7_fill_53178 := goodIn_r _ [13] (by decide +kernel) (by decide +kernel)
set_option maxRecDepth 20000 in
theorem gX0_reachOf_J7_fill_53178 : GoodIn wsX0_reachOf (va_wsS RX0 71 yJ7_fill_53178 wsJ7_fill_53178) := goodIn_app (goodIn_of _ (by decide +kernel)) ggX0_reachOf_J7_fill_53178
set_option maxRecDepth 20000 in
theorem ggX0_reachOf_X2_setOf : GoodIn wsX0_reachOf wsX2_setOf := goodIn_r _ [16] (by decide +kernel) (by decide +kernel)
set_option maxRecDepth 20000 in
theorem gX0_reachOf_X2_setOf_n58 : GoodIn wsX0_reachOf (wsX2_setOf) := ggX0_reachOf_X2_setOf
set_option maxRecDepth 20000 in
theorem ggX0_reachOf_X0_comeTo : GoodIn wsX0_reachOf wsX0_comeTo := goodIn_r _ [20, 1, 4, 5, 6, 7, 8, 9, 21, 22, 23, 24, 25, 26] (by decide +kernel) (by decide +kernel)
set_option maxRecDepth 20000 in
theorem gX0_reachOf_X0_comeTo : GoodIn wsX0_reachOf (wsV RX0 77 RX0 yX0_comeTo wsX0_comeTo) := goodIn_app (goodIn_of _ (by decide +kernel)) ggX0_reachOf_X0_comeTo
theorem dX0_reachOf_0 : decode cX0_reachOf 0 = .ok (.aload_n 0, 1) := by decide +kernel
theorem dX0_reachOf_1 : decode cX0_reachOf 1 = .ok (.iload_n 1, 1) := by decide +kernel
theorem dX0_reachOf_2 : decode cX0_reachOf 2 = .ok (.invokevirtual 40, 3) := by decide +kernel
theorem dX0_reachOf_5 : decode cX0_reachOf 5 = .ok (.ifCond .ne 5, 3) := by decide +kernel
theorem dX0_reachOf_8 : decode cX0_reachOf 8 = .ok (.lconst 0, 1) := by decide +kernel
theorem dX0_reachOf_9 : decode cX0_reachOf 9 = .ok (.lreturn, 1) := by decide +kernel
theorem dX0_reachOf_10 : decode cX0_reachOf 10 = .ok (.iload_n 2, 1) := by decide +kernel
theorem dX0_reachOf_11 : decode cX0_reachOf 11 = .ok (.ifCond .ne 8, 3) := by decide +kernel
theorem dX0_reachOf_14 : decode cX0_reachOf 14 = .ok (.bipush 60, 2) := by decide +kernel
theorem dX0_reachOf_16 : decode cX0_reachOf 16 = .ok (.goto 4, 3) := by decide +kernel
theorem dX0_reachOf_19 : decode cX0_reachOf 19 = .ok (.iload_n 2, 1) := by decide +kernel
theorem dX0_reachOf_20 : decode cX0_reachOf 20 = .ok (.istore_n 3, 1) := by decide +kernel
theorem dX0_reachOf_21 : decode cX0_reachOf 21 = .ok (.aload_n 0, 1) := by decide +kernel
theorem dX0_reachOf_22 : decode cX0_reachOf 22 = .ok (.getfield 21, 3) := by decide +kernel
theorem dX0_reachOf_25 : decode cX0_reachOf 25 = .ok (.iload_n 3, 1) := by decide +kernel
theorem dX0_reachOf_26 : decode cX0_reachOf 26 = .ok (.invokestatic 71, 3) := by decide +kernel
theorem dX0_reachOf_29 : decode cX0_reachOf 29 = .ok (.aload_n 0, 1) := by decide +kernel
theorem dX0_reachOf_30 : decode cX0_reachOf 30 = .ok (.getfield 21, 3) := by decide +kernel
theorem dX0_reachOf_33 : decode cX0_reachOf 33 = .ok (.iload_n 1, 1) := by decide +kernel
theorem dX0_reachOf_34 : decode cX0_reachOf 34 = .ok (.iconst 0, 1) := by decide +kernel
theorem dX0_reachOf_35 : decode cX0_reachOf 35 = .ok (.iastore, 1) := by decide +kernel
theorem dX0_reachOf_36 : decode cX0_reachOf 36 = .ok (.lconst 0, 1) := by decide +kernel
theorem dX0_reachOf_37 : decode cX0_reachOf 37 = .ok (.lstore 4, 2) := by decide +kernel
theorem dX0_reachOf_39 : decode cX0_reachOf 39 = .ok (.iload_n 1, 1) := by decide +kernel
theorem dX0_reachOf_40 : decode cX0_reachOf 40 = .ok (.istore 6, 2) := by decide +kernel
theorem dX0_reachOf_42 : decode cX0_reachOf 42 = .ok (.iload 6, 2) := by decide +kernel
theorem dX0_reachOf_44 : decode cX0_reachOf 44 = .ok (.ifCond .lt 64, 3) := by decide +kernel
theorem dX0_reachOf_47 : decode cX0_reachOf 47 = .ok (.aload_n 0, 1) := by decide +kernel
theorem dX0_reachOf_48 : decode cX0_reachOf 48 = .ok (.getfield 21, 3) := by decide +kernel
theorem dX0_reachOf_51 : decode cX0_reachOf 51 = .ok (.iload 6, 2) := by decide +kernel
theorem dX0_reachOf_53 : decode cX0_reachOf 53 = .ok (.iaload, 1) := by decide +kernel
theorem dX0_reachOf_54 : decode cX0_reachOf 54 = .ok (.istore 7, 2) := by decide +kernel
theorem dX0_reachOf_56 : decode cX0_reachOf 56 = .ok (.iload 7, 2) := by decide +kernel
theorem dX0_reachOf_58 : decode cX0_reachOf 58 = .ok (.iload_n 3, 1) := by decide +kernel
theorem dX0_reachOf_59 : decode cX0_reachOf 59 = .ok (.if_icmp .ge 43, 3) := by decide +kernel
theorem dX0_reachOf_62 : decode cX0_reachOf 62 = .ok (.lload 4, 2) := by decide +kernel
theorem dX0_reachOf_64 : decode cX0_reachOf 64 = .ok (.iload 6, 2) := by decide +kernel
theorem dX0_reachOf_66 : decode cX0_reachOf 66 = .ok (.invokestatic 58, 3) := by decide +kernel
theorem dX0_reachOf_69 : decode cX0_reachOf 69 = .ok (.lor, 1) := by decide +kernel
theorem dX0_reachOf_70 : decode cX0_reachOf 70 = .ok (.lstore 4, 2) := by decide +kernel
theorem dX0_reachOf_72 : decode cX0_reachOf 72 = .ok (.aload_n 0, 1) := by decide +kernel
theorem dX0_reachOf_73 : decode cX0_reachOf 73 = .ok (.aload_n 0, 1) := by decide +kernel
theorem dX0_reachOf_74 : decode cX0_reachOf 74 = .ok (.getfield 9, 3) := by decide +kernel
theorem dX0_reachOf_77 : decode cX0_reachOf 77 = .ok (.iload 6, 2) := by decide +kernel
theorem dX0_reachOf_79 : decode cX0_reachOf 79 = .ok (.iaload, 1) := by decide +kernel
theorem dX0_reachOf_80 : decode cX0_reachOf 80 = .ok (.iload 7, 2) := by decide +kernel
theorem dX0_reachOf_82 : decode cX0_reachOf 82 = .ok (.iconst 1, 1) := by decide +kernel
theorem dX0_reachOf_83 : decode cX0_reachOf 83 = .ok (.iadd, 1) := by decide +kernel
theorem dX0_reachOf_84 : decode cX0_reachOf 84 = .ok (.invokevirtual 77, 3) := by decide +kernel
theorem dX0_reachOf_87 : decode cX0_reachOf 87 = .ok (.aload_n 0, 1) := by decide +kernel
theorem dX0_reachOf_88 : decode cX0_reachOf 88 = .ok (.aload_n 0, 1) := by decide +kernel
theorem dX0_reachOf_89 : decode cX0_reachOf 89 = .ok (.getfield 15, 3) := by decide +kernel
theorem dX0_reachOf_92 : decode cX0_reachOf 92 = .ok (.iload 6, 2) := by decide +kernel
theorem dX0_reachOf_94 : decode cX0_reachOf 94 = .ok (.iaload, 1) := by decide +kernel
theorem dX0_reachOf_95 : decode cX0_reachOf 95 = .ok (.iload 7, 2) := by decide +kernel
theorem dX0_reachOf_97 : decode cX0_reachOf 97 = .ok (.iconst 1, 1) := by decide +kernel
theorem dX0_reachOf_98 : decode cX0_reachOf 98 = .ok (.iadd, 1) := by decide +kernel
theorem dX0_reachOf_99 : decode cX0_reachOf 99 = .ok (.invokevirtual 77, 3) := by decide +kernel
theorem dX0_reachOf_102 : decode cX0_reachOf 102 = .ok (.iinc 6 (-1), 3) := by decide +kernel
theorem dX0_reachOf_105 : decode cX0_reachOf 105 = .ok (.goto (-63), 3) := by decide +kernel
theorem dX0_reachOf_108 : decode cX0_reachOf 108 = .ok (.lload 4, 2) := by decide +kernel
theorem dX0_reachOf_110 : decode cX0_reachOf 110 = .ok (.lreturn, 1) := by decide +kernel
set_option maxRecDepth 20000 in
theorem ggX0_comeTo_X0_isCommit : GoodIn wsX0_comeTo wsX0_isCommit := goodIn_r _ [6, 7, 8, 9, 10, 11, 12, 13] (by decide +kernel) (by decide +kernel)
set_option maxRecDepth 20000 in
theorem gX0_comeTo_X0_isCommit : GoodIn wsX0_comeTo (wsV RX0 40 RX0 yX0_isCommit wsX0_isCommit) := goodIn_app (goodIn_of _ (by decide +kernel)) ggX0_comeTo_X0_isCommit
theorem dX0_comeTo_0 : decode cX0_comeTo 0 = .ok (.aload_n 0, 1) := by decide +kernel
theorem dX0_comeTo_1 : decode cX0_comeTo 1 = .ok (.iload_n 1, 1) := by decide +kernel
theorem dX0_comeTo_2 : decode cX0_comeTo 2 = .ok (.invokevirtual 40, 3) := by decide +kernel
theorem dX0_comeTo_5 : decode cX0_comeTo 5 = .ok (.ifCond .eq 20, 3) := by decide +kernel
theorem dX0_comeTo_8 : decode cX0_comeTo 8 = .ok (.iload_n 2, 1) := by decide +kernel
theorem dX0_comeTo_9 : decode cX0_comeTo 9 = .ok (.aload_n 0, 1) := by decide +kernel
theorem dX0_comeTo_10 : decode cX0_comeTo 10 = .ok (.getfield 21, 3) := by decide +kernel
theorem dX0_comeTo_13 : decode cX0_comeTo 13 = .ok (.iload_n 1, 1) := by decide +kernel
theorem dX0_comeTo_14 : decode cX0_comeTo 14 = .ok (.iaload, 1) := by decide +kernel
theorem dX0_comeTo_15 : decode cX0_comeTo 15 = .ok (.if_icmp .ge 10, 3) := by decide +kernel
theorem dX0_comeTo_18 : decode cX0_comeTo 18 = .ok (.aload_n 0, 1) := by decide +kernel
theorem dX0_comeTo_19 : decode cX0_comeTo 19 = .ok (.getfield 21, 3) := by decide +kernel
theorem dX0_comeTo_22 : decode cX0_comeTo 22 = .ok (.iload_n 1, 1) := by decide +kernel
theorem dX0_comeTo_23 : decode cX0_comeTo 23 = .ok (.iload_n 2, 1) := by decide +kernel
theorem dX0_comeTo_24 : decode cX0_comeTo 24 = .ok (.iastore, 1) := by decide +kernel
theorem dX0_comeTo_25 : decode cX0_comeTo 25 = .ok (.return_, 1) := by decide +kernel
