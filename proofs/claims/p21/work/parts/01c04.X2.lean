set_option maxRecDepth 20000 in
theorem ggX2_collect_X0_ancestorsOf : GoodIn wsX2_collect wsX0_ancestorsOf := goodIn_r _ [24, 25, 26, 27, 28, 29, 23, 30, 31, 6, 32, 33, 18, 19, 34, 35, 36, 37, 38, 39, 40, 41, 42, 43, 86, 87, 88, 89, 90, 91] (by decide +kernel) (by decide +kernel)
set_option maxRecDepth 20000 in
theorem gX2_collect_X0_ancestorsOf : GoodIn wsX2_collect (wsV RX2 163 RX0 yX0_ancestorsOf wsX0_ancestorsOf) := goodIn_app (goodIn_of _ (by decide +kernel)) ggX2_collect_X0_ancestorsOf
set_option maxRecDepth 20000 in
theorem ggX2_collect_J13_bitCount_95d88 : GoodIn wsX2_collect wsJ13_bitCount_95d88 := goodIn_r _ [47, 48, 49, 50] (by decide +kernel) (by decide +kernel)
set_option maxRecDepth 20000 in
theorem gX2_collect_J13_bitCount_95d88 : GoodIn wsX2_collect (va_wsS RX2 125 yJ13_bitCount_95d88 wsJ13_bitCount_95d88) := goodIn_app (goodIn_of _ (by decide +kernel)) ggX2_collect_J13_bitCount_95d88
set_option maxRecDepth 20000 in
theorem ggX2_collect_X0_filesOf : GoodIn wsX2_collect wsX0_filesOf := goodIn_r _ [54, 55, 25, 31, 6, 32, 33, 18, 19, 56, 57, 58, 23, 59, 60, 61, 62, 63, 64, 40, 41, 42, 43, 65, 66, 67, 68, 86, 87, 88, 89, 90, 91] (by decide +kernel) (by decide +kernel)
set_option maxRecDepth 20000 in
theorem gX2_collect_X0_filesOf : GoodIn wsX2_collect (wsV RX2 117 RX0 yX0_filesOf wsX0_filesOf) := goodIn_app (goodIn_of _ (by decide +kernel)) ggX2_collect_X0_filesOf
set_option maxRecDepth 20000 in
theorem ggX2_collect_X1_keepOnlyFiles : GoodIn wsX2_collect wsX1_keepOnlyFiles := goodIn_r _ [72, 73, 83, 84, 85] (by decide +kernel) (by decide +kernel)
set_option maxRecDepth 20000 in
theorem gX2_collect_X1_keepOnlyFiles : GoodIn wsX2_collect (wsV RX2 167 RX1 yX1_keepOnlyFiles wsX1_keepOnlyFiles) := goodIn_app (goodIn_of _ (by decide +kernel)) ggX2_collect_X1_keepOnlyFiles
theorem dX2_collect_0 : decode cX2_collect 0 = .ok (.aload_n 0, 1) := by decide +kernel
theorem dX2_collect_1 : decode cX2_collect 1 = .ok (.iload_n 1, 1) := by decide +kernel
theorem dX2_collect_2 : decode cX2_collect 2 = .ok (.invokevirtual 40, 3) := by decide +kernel
theorem dX2_collect_5 : decode cX2_collect 5 = .ok (.astore_n 2, 1) := by decide +kernel
theorem dX2_collect_6 : decode cX2_collect 6 = .ok (.aload_n 0, 1) := by decide +kernel
theorem dX2_collect_7 : decode cX2_collect 7 = .ok (.getfield 10, 3) := by decide +kernel
theorem dX2_collect_10 : decode cX2_collect 10 = .ok (.aload_n 2, 1) := by decide +kernel
theorem dX2_collect_11 : decode cX2_collect 11 = .ok (.invokevirtual 160, 3) := by decide +kernel
theorem dX2_collect_14 : decode cX2_collect 14 = .ok (.aload_n 2, 1) := by decide +kernel
theorem dX2_collect_15 : decode cX2_collect 15 = .ok (.getfield 75, 3) := by decide +kernel
theorem dX2_collect_18 : decode cX2_collect 18 = .ok (.invokevirtual 163, 3) := by decide +kernel
theorem dX2_collect_21 : decode cX2_collect 21 = .ok (.lstore_n 3, 1) := by decide +kernel
theorem dX2_collect_22 : decode cX2_collect 22 = .ok (.aload_n 2, 1) := by decide +kernel
theorem dX2_collect_23 : decode cX2_collect 23 = .ok (.getfield 75, 3) := by decide +kernel
theorem dX2_collect_26 : decode cX2_collect 26 = .ok (.lload_n 3, 1) := by decide +kernel
theorem dX2_collect_27 : decode cX2_collect 27 = .ok (.ldc2_w 115, 3) := by decide +kernel
theorem dX2_collect_30 : decode cX2_collect 30 = .ok (.lxor, 1) := by decide +kernel
theorem dX2_collect_31 : decode cX2_collect 31 = .ok (.land, 1) := by decide +kernel
theorem dX2_collect_32 : decode cX2_collect 32 = .ok (.invokestatic 125, 3) := by decide +kernel
theorem dX2_collect_35 : decode cX2_collect 35 = .ok (.istore 5, 2) := by decide +kernel
theorem dX2_collect_37 : decode cX2_collect 37 = .ok (.aload_n 2, 1) := by decide +kernel
theorem dX2_collect_38 : decode cX2_collect 38 = .ok (.lload_n 3, 1) := by decide +kernel
theorem dX2_collect_39 : decode cX2_collect 39 = .ok (.putfield 75, 3) := by decide +kernel
theorem dX2_collect_42 : decode cX2_collect 42 = .ok (.aload_n 2, 1) := by decide +kernel
theorem dX2_collect_43 : decode cX2_collect 43 = .ok (.aload_n 0, 1) := by decide +kernel
theorem dX2_collect_44 : decode cX2_collect 44 = .ok (.getfield 10, 3) := by decide +kernel
theorem dX2_collect_47 : decode cX2_collect 47 = .ok (.lload_n 3, 1) := by decide +kernel
theorem dX2_collect_48 : decode cX2_collect 48 = .ok (.invokevirtual 117, 3) := by decide +kernel
theorem dX2_collect_51 : decode cX2_collect 51 = .ok (.invokevirtual 167, 3) := by decide +kernel
theorem dX2_collect_54 : decode cX2_collect 54 = .ok (.iload 5, 2) := by decide +kernel
theorem dX2_collect_56 : decode cX2_collect 56 = .ok (.ireturn, 1) := by decide +kernel
set_option maxRecDepth 20000 in
theorem ggX2_commits_X0_size : GoodIn wsX2_commits wsX0_size := goodIn_r _ [6, 7, 17, 18, 19, 20, 21, 22] (by decide +kernel) (by decide +kernel)
set_option maxRecDepth 20000 in
theorem gX2_commits_X0_size : GoodIn wsX2_commits (wsV RX2 171 RX0 yX0_size wsX0_size) := goodIn_app (goodIn_of _ (by decide +kernel)) ggX2_commits_X0_size
theorem dX2_commits_0 : decode cX2_commits 0 = .ok (.aload_n 0, 1) := by decide +kernel
theorem dX2_commits_1 : decode cX2_commits 1 = .ok (.getfield 10, 3) := by decide +kernel
theorem dX2_commits_4 : decode cX2_commits 4 = .ok (.invokevirtual 171, 3) := by decide +kernel
theorem dX2_commits_7 : decode cX2_commits 7 = .ok (.ireturn, 1) := by decide +kernel
set_option maxRecDepth 20000 in
theorem ggX2_has_X2_storeOf : GoodIn wsX2_has wsX2_storeOf := goodIn_ca (goodIn_r _ [5, 6, 7, 8, 9, 30, 31, 32, 33, 34, 35, 36, 37, 38] (by decide +kernel) (by decide +kernel)) (goodIn_sub (fun _ h => List.mem_cons_of_mem _ (List.mem_append_right _ h)) (by decide +kernel))
set_option maxRecDepth 20000 in
theorem gX2_has_X2_storeOf : GoodIn wsX2_has (wsV RX2 40 RX2 yX2_storeOf wsX2_storeOf) := goodIn_app (goodIn_of _ (by decide +kernel)) ggX2_has_X2_storeOf
set_option maxRecDepth 20000 in
theorem ggX2_has_X2_checkCommit : GoodIn wsX2_has wsX2_checkCommit := goodIn_ca (goodIn_r _ [13, 6, 7, 14, 15, 16, 17, 18, 19, 20, 30, 31, 32, 33, 34, 35, 36, 37, 38, 39, 40, 41, 42, 43, 44] (by decide +kernel) (by decide +kernel)) (goodIn_sub (fun _ h => List.mem_cons_of_mem _ (List.mem_append_right _ h)) (by decide +kernel))
set_option maxRecDepth 20000 in
theorem gX2_has_X2_checkCommit : GoodIn wsX2_has (wsV RX2 97 RX2 yX2_checkCommit wsX2_checkCommit) := goodIn_app (goodIn_of _ (by decide +kernel)) ggX2_has_X2_checkCommit
set_option maxRecDepth 20000 in
theorem ggX2_has_X2_contains : GoodIn wsX2_has wsX2_contains := goodIn_r _ [23, 24, 25, 4, 26] (by decide +kernel) (by decide +kernel)
set_option maxRecDepth 20000 in
theorem gX2_has_X2_contains : GoodIn wsX2_has (va_wsS RX2 174 yX2_contains wsX2_contains) := goodIn_app (goodIn_of _ (by decide +kernel)) ggX2_has_X2_contains
theorem dX2_has_0 : decode cX2_has 0 = .ok (.aload_n 0, 1) := by decide +kernel
theorem dX2_has_1 : decode cX2_has 1 = .ok (.iload_n 1, 1) := by decide +kernel
theorem dX2_has_2 : decode cX2_has 2 = .ok (.invokevirtual 40, 3) := by decide +kernel
theorem dX2_has_5 : decode cX2_has 5 = .ok (.astore_n 3, 1) := by decide +kernel
theorem dX2_has_6 : decode cX2_has 6 = .ok (.aload_n 0, 1) := by decide +kernel
theorem dX2_has_7 : decode cX2_has 7 = .ok (.iload_n 2, 1) := by decide +kernel
theorem dX2_has_8 : decode cX2_has 8 = .ok (.invokevirtual 97, 3) := by decide +kernel
theorem dX2_has_11 : decode cX2_has 11 = .ok (.aload_n 3, 1) := by decide +kernel
theorem dX2_has_12 : decode cX2_has 12 = .ok (.getfield 75, 3) := by decide +kernel
theorem dX2_has_15 : decode cX2_has 15 = .ok (.iload_n 2, 1) := by decide +kernel
theorem dX2_has_16 : decode cX2_has 16 = .ok (.invokestatic 174, 3) := by decide +kernel
theorem dX2_has_19 : decode cX2_has 19 = .ok (.ireturn, 1) := by decide +kernel
set_option maxRecDepth 20000 in
theorem ggX2_hasFile_X2_storeOf : GoodIn wsX2_hasFile wsX2_storeOf := goodIn_ca (goodIn_r _ [5, 6, 7, 8, 9, 24, 25, 26, 27, 28, 29, 30, 31, 32] (by decide +kernel) (by decide +kernel)) (goodIn_sub (fun _ h => List.mem_cons_of_mem _ (List.mem_append_left _ (List.mem_append_right _ h))) (by decide +kernel))
set_option maxRecDepth 20000 in
theorem gX2_hasFile_X2_storeOf : GoodIn wsX2_hasFile (wsV RX2 40 RX2 yX2_storeOf wsX2_storeOf) := goodIn_app (goodIn_of _ (by decide +kernel)) ggX2_hasFile_X2_storeOf
set_option maxRecDepth 20000 in
theorem ggX2_hasFile_X2_checkFile : GoodIn wsX2_hasFile wsX2_checkFile := goodIn_ca (goodIn_r _ [12, 13, 14, 15, 16, 4, 17] (by decide +kernel) (by decide +kernel)) (goodIn_sub (fun _ h => List.mem_cons_of_mem _ (List.mem_append_right _ h)) (by decide +kernel))
set_option maxRecDepth 20000 in
theorem gX2_hasFile_X2_checkFile : GoodIn wsX2_hasFile (va_wsS RX2 52 yX2_checkFile wsX2_checkFile) := goodIn_app (goodIn_of _ (by decide +kernel)) ggX2_hasFile_X2_checkFile
set_option maxRecDepth 20000 in
theorem ggX2_hasFile_X1_holdsFile : GoodIn wsX2_hasFile wsX1_holdsFile := goodIn_r _ [22, 23, 16, 4, 17, 33, 34, 35] (by decide +kernel) (by decide +kernel)
set_option maxRecDepth 20000 in
theorem gX2_hasFile_X1_holdsFile : GoodIn wsX2_hasFile (wsV RX2 135 RX1 yX1_holdsFile wsX1_holdsFile) := goodIn_app (goodIn_of _ (by decide +kernel)) ggX2_hasFile_X1_holdsFile
theorem dX2_hasFile_0 : decode cX2_hasFile 0 = .ok (.aload_n 0, 1) := by decide +kernel
theorem dX2_hasFile_1 : decode cX2_hasFile 1 = .ok (.iload_n 1, 1) := by decide +kernel
theorem dX2_hasFile_2 : decode cX2_hasFile 2 = .ok (.invokevirtual 40, 3) := by decide +kernel
theorem dX2_hasFile_5 : decode cX2_hasFile 5 = .ok (.astore_n 3, 1) := by decide +kernel
theorem dX2_hasFile_6 : decode cX2_hasFile 6 = .ok (.iload_n 2, 1) := by decide +kernel
theorem dX2_hasFile_7 : decode cX2_hasFile 7 = .ok (.invokestatic 52, 3) := by decide +kernel
theorem dX2_hasFile_10 : decode cX2_hasFile 10 = .ok (.aload_n 3, 1) := by decide +kernel
theorem dX2_hasFile_11 : decode cX2_hasFile 11 = .ok (.iload_n 2, 1) := by decide +kernel
theorem dX2_hasFile_12 : decode cX2_hasFile 12 = .ok (.invokevirtual 135, 3) := by decide +kernel
theorem dX2_hasFile_15 : decode cX2_hasFile 15 = .ok (.ireturn, 1) := by decide +kernel
set_option maxRecDepth 20000 in
theorem ggX2_isShallow_X2_checkCommit : GoodIn wsX2_isShallow wsX2_checkCommit := goodIn_ca (goodIn_r _ [7, 8, 9, 1, 10, 11, 12, 13, 14, 15, 34, 35, 36, 37, 38, 39, 40, 41, 42, 46, 47, 48, 49, 50, 51] (by decide +kernel) (by decide +kernel)) (goodIn_sub (fun _ h => List.mem_cons_of_mem _ (List.mem_append_right _ h)) (by decide +kernel))
set_option maxRecDepth 20000 in
theorem gX2_isShallow_X2_checkCommit : GoodIn wsX2_isShallow (wsV RX2 97 RX2 yX2_checkCommit wsX2_checkCommit) := goodIn_app (goodIn_of _ (by decide +kernel)) ggX2_isShallow_X2_checkCommit
set_option maxRecDepth 20000 in
theorem ggX2_isShallow_X0_shallowOf : GoodIn wsX2_isShallow wsX0_shallowOf := goodIn_r _ [19, 15, 20, 21, 6, 22, 23, 24, 25, 26, 27, 28, 13, 29, 30, 31, 32, 11, 12, 14, 46, 47, 48, 49, 50, 51] (by decide +kernel) (by decide +kernel)
set_option maxRecDepth 20000 in
theorem gX2_isShallow_X0_shallowOf : GoodIn wsX2_isShallow (wsV RX2 178 RX0 yX0_shallowOf wsX0_shallowOf) := goodIn_app (goodIn_of _ (by decide +kernel)) ggX2_isShallow_X0_shallowOf
set_option maxRecDepth 20000 in
theorem ggX2_isShallow_X2_contains : GoodIn wsX2_isShallow wsX2_contains := goodIn_r _ [22, 23, 24, 6, 25] (by decide +kernel) (by decide +kernel)
set_option maxRecDepth 20000 in
theorem gX2_isShallow_X2_contains : GoodIn wsX2_isShallow (va_wsS RX2 174 yX2_contains wsX2_contains) := goodIn_app (goodIn_of _ (by decide +kernel)) ggX2_isShallow_X2_contains
theorem dX2_isShallow_0 : decode cX2_isShallow 0 = .ok (.aload_n 0, 1) := by decide +kernel
theorem dX2_isShallow_1 : decode cX2_isShallow 1 = .ok (.iload_n 1, 1) := by decide +kernel
theorem dX2_isShallow_2 : decode cX2_isShallow 2 = .ok (.invokevirtual 97, 3) := by decide +kernel
theorem dX2_isShallow_5 : decode cX2_isShallow 5 = .ok (.aload_n 0, 1) := by decide +kernel
theorem dX2_isShallow_6 : decode cX2_isShallow 6 = .ok (.getfield 10, 3) := by decide +kernel
theorem dX2_isShallow_9 : decode cX2_isShallow 9 = .ok (.aload_n 0, 1) := by decide +kernel
theorem dX2_isShallow_10 : decode cX2_isShallow 10 = .ok (.getfield 23, 3) := by decide +kernel
theorem dX2_isShallow_13 : decode cX2_isShallow 13 = .ok (.getfield 75, 3) := by decide +kernel
theorem dX2_isShallow_16 : decode cX2_isShallow 16 = .ok (.invokevirtual 178, 3) := by decide +kernel
theorem dX2_isShallow_19 : decode cX2_isShallow 19 = .ok (.iload_n 1, 1) := by decide +kernel
theorem dX2_isShallow_20 : decode cX2_isShallow 20 = .ok (.invokestatic 174, 3) := by decide +kernel
theorem dX2_isShallow_23 : decode cX2_isShallow 23 = .ok (.ireturn, 1) := by decide +kernel
set_option maxRecDepth 20000 in
theorem ggX2_isAncestor_X2_storeOf : GoodIn wsX2_isAncestor wsX2_storeOf := goodIn_ca (goodIn_r _ [6, 7, 8, 9, 10, 43, 44, 45, 46, 47, 48, 49, 50, 51] (by decide +kernel) (by decide +kernel)) (goodIn_sub (fun _ h => List.mem_cons_of_mem _ (List.mem_append_right _ h)) (by decide +kernel))
set_option maxRecDepth 20000 in
theorem gX2_isAncestor_X2_storeOf : GoodIn wsX2_isAncestor (wsV RX2 40 RX2 yX2_storeOf wsX2_storeOf) := goodIn_app (goodIn_of _ (by decide +kernel)) ggX2_isAncestor_X2_storeOf
set_option maxRecDepth 20000 in
theorem ggX2_isAncestor_X2_checkCommit : GoodIn wsX2_isAncestor wsX2_checkCommit := goodIn_ca (goodIn_r _ [14, 7, 8, 1, 15, 16, 17, 18, 19, 20, 43, 44, 45, 46, 47, 48, 49, 50, 51, 55, 56, 57, 58, 59, 60] (by decide +kernel) (by decide +kernel)) (goodIn_sub (fun _ h => List.mem_cons_of_mem _ (List.mem_append_right _ h)) (by decide +kernel))
set_option maxRecDepth 20000 in
theorem gX2_isAncestor_X2_checkCommit : GoodIn wsX2_isAncestor (wsV RX2 97 RX2 yX2_checkCommit wsX2_checkCommit) := goodIn_app (goodIn_of _ (by decide +kernel)) ggX2_isAncestor_X2_checkCommit
set_option maxRecDepth 20000 in
theorem ggX2_isAncestor_X2_setOf : GoodIn wsX2_isAncestor wsX2_setOf := goodIn_r _ [23] (by decide +kernel) (by decide +kernel)
set_option maxRecDepth 20000 in
theorem gX2_isAncestor_X2_setOf : GoodIn wsX2_isAncestor (va_wsS RX2 79 yX2_setOf wsX2_setOf) := goodIn_app (goodIn_of _ (by decide +kernel)) ggX2_isAncestor_X2_setOf
set_option maxRecDepth 20000 in
theorem ggX2_isAncestor_X0_ancestorsOf : GoodIn wsX2_isAncestor wsX0_ancestorsOf := goodIn_r _ [27, 20, 28, 29, 30, 31, 18, 32, 33, 5, 34, 21, 22, 23, 35, 36, 37, 38, 39, 40, 41, 16, 17, 19, 55, 56, 57, 58, 59, 60] (by decide +kernel) (by decide +kernel)
set_option maxRecDepth 20000 in
theorem gX2_isAncestor_X0_ancestorsOf : GoodIn wsX2_isAncestor (wsV RX2 163 RX0 yX0_ancestorsOf wsX0_ancestorsOf) := goodIn_app (goodIn_of _ (by decide +kernel)) ggX2_isAncestor_X0_ancestorsOf
set_option maxRecDepth 20000 in
theorem ggX2_isAncestor_X2_contains : GoodIn wsX2_isAncestor wsX2_contains := goodIn_r _ [34, 21, 22, 5, 23] (by decide +kernel) (by decide +kernel)
set_option maxRecDepth 20000 in
theorem gX2_isAncestor_X2_contains : GoodIn wsX2_isAncestor (va_wsS RX2 174 yX2_contains wsX2_contains) := goodIn_app (goodIn_of _ (by decide +kernel)) ggX2_isAncestor_X2_contains
theorem dX2_isAncestor_0 : decode cX2_isAncestor 0 = .ok (.aload_n 0, 1) := by decide +kernel
theorem dX2_isAncestor_1 : decode cX2_isAncestor 1 = .ok (.iload_n 1, 1) := by decide +kernel
theorem dX2_isAncestor_2 : decode cX2_isAncestor 2 = .ok (.invokevirtual 40, 3) := by decide +kernel
theorem dX2_isAncestor_5 : decode cX2_isAncestor 5 = .ok (.astore 4, 2) := by decide +kernel
theorem dX2_isAncestor_7 : decode cX2_isAncestor 7 = .ok (.aload_n 0, 1) := by decide +kernel
theorem dX2_isAncestor_8 : decode cX2_isAncestor 8 = .ok (.iload_n 2, 1) := by decide +kernel
theorem dX2_isAncestor_9 : decode cX2_isAncestor 9 = .ok (.invokevirtual 97, 3) := by decide +kernel
theorem dX2_isAncestor_12 : decode cX2_isAncestor 12 = .ok (.aload_n 0, 1) := by decide +kernel
theorem dX2_isAncestor_13 : decode cX2_isAncestor 13 = .ok (.iload_n 3, 1) := by decide +kernel
theorem dX2_isAncestor_14 : decode cX2_isAncestor 14 = .ok (.invokevirtual 97, 3) := by decide +kernel
theorem dX2_isAncestor_17 : decode cX2_isAncestor 17 = .ok (.aload_n 0, 1) := by decide +kernel
theorem dX2_isAncestor_18 : decode cX2_isAncestor 18 = .ok (.getfield 10, 3) := by decide +kernel
theorem dX2_isAncestor_21 : decode cX2_isAncestor 21 = .ok (.iload_n 3, 1) := by decide +kernel
theorem dX2_isAncestor_22 : decode cX2_isAncestor 22 = .ok (.invokestatic 79, 3) := by decide +kernel
theorem dX2_isAncestor_25 : decode cX2_isAncestor 25 = .ok (.aload 4, 2) := by decide +kernel
theorem dX2_isAncestor_27 : decode cX2_isAncestor 27 = .ok (.getfield 75, 3) := by decide +kernel
theorem dX2_isAncestor_30 : decode cX2_isAncestor 30 = .ok (.invokevirtual 163, 3) := by decide +kernel
theorem dX2_isAncestor_33 : decode cX2_isAncestor 33 = .ok (.iload_n 2, 1) := by decide +kernel
theorem dX2_isAncestor_34 : decode cX2_isAncestor 34 = .ok (.invokestatic 174, 3) := by decide +kernel
theorem dX2_isAncestor_37 : decode cX2_isAncestor 37 = .ok (.ireturn, 1) := by decide +kernel
set_option maxRecDepth 20000 in
theorem ggX2_commitToFetch_X2_checkRef : GoodIn wsX2_commitToFetch wsX2_checkRef := goodIn_ca (goodIn_r _ [9, 10, 11, 12, 13, 8, 14] (by decide +kernel) (by decide +kernel)) (goodIn_sub (fun _ h => List.mem_cons_of_mem _ (List.mem_append_right _ h)) (by decide +kernel))
set_option maxRecDepth 20000 in
theorem gX2_commitToFetch_X2_checkRef : GoodIn wsX2_commitToFetch (va_wsS RX2 86 yX2_checkRef wsX2_checkRef) := goodIn_app (goodIn_of _ (by decide +kernel)) ggX2_commitToFetch_X2_checkRef
set_option maxRecDepth 20000 in
theorem ggX2_commitToFetch_X1_commitOfRef : GoodIn wsX2_commitToFetch wsX1_commitOfRef := goodIn_r _ [19, 20, 13, 8, 14, 30, 31, 32] (by decide +kernel) (by decide +kernel)
set_option maxRecDepth 20000 in
theorem gX2_commitToFetch_X1_commitOfRef : GoodIn wsX2_commitToFetch (wsV RX2 89 RX1 yX1_commitOfRef wsX1_commitOfRef) := goodIn_app (goodIn_of _ (by decide +kernel)) ggX2_commitToFetch_X1_commitOfRef
theorem dX2_commitToFetch_0 : decode cX2_commitToFetch 0 = .ok (.iload_n 1, 1) := by decide +kernel
theorem dX2_commitToFetch_1 : decode cX2_commitToFetch 1 = .ok (.invokestatic 86, 3) := by decide +kernel
theorem dX2_commitToFetch_4 : decode cX2_commitToFetch 4 = .ok (.iload_n 2, 1) := by decide +kernel
theorem dX2_commitToFetch_5 : decode cX2_commitToFetch 5 = .ok (.ifCond .lt 9, 3) := by decide +kernel
theorem dX2_commitToFetch_8 : decode cX2_commitToFetch 8 = .ok (.iload_n 2, 1) := by decide +kernel
theorem dX2_commitToFetch_9 : decode cX2_commitToFetch 9 = .ok (.bipush 60, 2) := by decide +kernel
theorem dX2_commitToFetch_11 : decode cX2_commitToFetch 11 = .ok (.if_icmp .le 13, 3) := by decide +kernel
theorem dX2_commitToFetch_14 : decode cX2_commitToFetch 14 = .ok (.new 55, 3) := by decide +kernel
theorem dX2_commitToFetch_17 : decode cX2_commitToFetch 17 = .ok (.dup, 1) := by decide +kernel
theorem dX2_commitToFetch_18 : decode cX2_commitToFetch 18 = .ok (.ldc 182, 2) := by decide +kernel
theorem dX2_commitToFetch_20 : decode cX2_commitToFetch 20 = .ok (.invokespecial 59, 3) := by decide +kernel
theorem dX2_commitToFetch_23 : decode cX2_commitToFetch 23 = .ok (.athrow, 1) := by decide +kernel
theorem dX2_commitToFetch_24 : decode cX2_commitToFetch 24 = .ok (.aload_n 0, 1) := by decide +kernel
theorem dX2_commitToFetch_25 : decode cX2_commitToFetch 25 = .ok (.getfield 19, 3) := by decide +kernel
theorem dX2_commitToFetch_28 : decode cX2_commitToFetch 28 = .ok (.iload_n 1, 1) := by decide +kernel
theorem dX2_commitToFetch_29 : decode cX2_commitToFetch 29 = .ok (.invokevirtual 89, 3) := by decide +kernel
theorem dX2_commitToFetch_32 : decode cX2_commitToFetch 32 = .ok (.istore_n 3, 1) := by decide +kernel
theorem dX2_commitToFetch_33 : decode cX2_commitToFetch 33 = .ok (.iload_n 3, 1) := by decide +kernel
theorem dX2_commitToFetch_34 : decode cX2_commitToFetch 34 = .ok (.iconst (-1), 1) := by decide +kernel
theorem dX2_commitToFetch_35 : decode cX2_commitToFetch 35 = .ok (.if_icmp .ne 13, 3) := by decide +kernel
theorem dX2_commitToFetch_38 : decode cX2_commitToFetch 38 = .ok (.new 66, 3) := by decide +kernel
theorem dX2_commitToFetch_41 : decode cX2_commitToFetch 41 = .ok (.dup, 1) := by decide +kernel
theorem dX2_commitToFetch_42 : decode cX2_commitToFetch 42 = .ok (.ldc 184, 2) := by decide +kernel
theorem dX2_commitToFetch_44 : decode cX2_commitToFetch 44 = .ok (.invokespecial 70, 3) := by decide +kernel
theorem dX2_commitToFetch_47 : decode cX2_commitToFetch 47 = .ok (.athrow, 1) := by decide +kernel
theorem dX2_commitToFetch_48 : decode cX2_commitToFetch 48 = .ok (.iload_n 3, 1) := by decide +kernel
theorem dX2_commitToFetch_49 : decode cX2_commitToFetch 49 = .ok (.ireturn, 1) := by decide +kernel
set_option maxRecDepth 20000 in
theorem ggX2_talk_X2_highestOf : GoodIn wsX2_talk wsX2_highestOf := goodIn_r _ [9, 10, 11, 8, 12, 13, 14, 15] (by decide +kernel) (by decide +kernel)
set_option maxRecDepth 20000 in
theorem gX2_talk_X2_highestOf : GoodIn wsX2_talk (va_wsS RX2 186 yX2_highestOf wsX2_highestOf) := goodIn_app (goodIn_of _ (by decide +kernel)) ggX2_talk_X2_highestOf
set_option maxRecDepth 20000 in
theorem ggX2_talk_X0_ancestorsOf : GoodIn wsX2_talk wsX0_ancestorsOf := goodIn_r _ [20, 21, 22, 23, 24, 25, 19, 26, 11, 8, 12, 13, 14, 15, 27, 28, 29, 30, 31, 32, 33, 34, 35, 36, 49, 50, 51, 52, 53, 54] (by decide +kernel) (by decide +kernel)
set_option maxRecDepth 20000 in
theorem gX2_talk_X0_ancestorsOf : GoodIn wsX2_talk (wsV RX2 163 RX0 yX0_ancestorsOf wsX0_ancestorsOf) := goodIn_app (goodIn_of _ (by decide +kernel)) ggX2_talk_X0_ancestorsOf
theorem dX2_talk_0 : decode cX2_talk 0 = .ok (.lconst 0, 1) := by decide +kernel
theorem dX2_talk_1 : decode cX2_talk 1 = .ok (.lstore_n 1, 1) := by decide +kernel
theorem dX2_talk_2 : decode cX2_talk 2 = .ok (.aload_n 0, 1) := by decide +kernel
theorem dX2_talk_3 : decode cX2_talk 3 = .ok (.getfield 23, 3) := by decide +kernel
theorem dX2_talk_6 : decode cX2_talk 6 = .ok (.getfield 75, 3) := by decide +kernel
theorem dX2_talk_9 : decode cX2_talk 9 = .ok (.lstore_n 3, 1) := by decide +kernel
theorem dX2_talk_10 : decode cX2_talk 10 = .ok (.iconst 0, 1) := by decide +kernel
theorem dX2_talk_11 : decode cX2_talk 11 = .ok (.istore 5, 2) := by decide +kernel
theorem dX2_talk_13 : decode cX2_talk 13 = .ok (.lload_n 3, 1) := by decide +kernel
theorem dX2_talk_14 : decode cX2_talk 14 = .ok (.lconst 0, 1) := by decide +kernel
theorem dX2_talk_15 : decode cX2_talk 15 = .ok (.lcmp, 1) := by decide +kernel
theorem dX2_talk_16 : decode cX2_talk 16 = .ok (.ifCond .eq 65, 3) := by decide +kernel
theorem dX2_talk_19 : decode cX2_talk 19 = .ok (.iload 5, 2) := by decide +kernel
theorem dX2_talk_21 : decode cX2_talk 21 = .ok (.bipush 60, 2) := by decide +kernel
theorem dX2_talk_23 : decode cX2_talk 23 = .ok (.if_icmp .ge 58, 3) := by decide +kernel
theorem dX2_talk_26 : decode cX2_talk 26 = .ok (.lload_n 3, 1) := by decide +kernel
theorem dX2_talk_27 : decode cX2_talk 27 = .ok (.iconst 4, 1) := by decide +kernel
theorem dX2_talk_28 : decode cX2_talk 28 = .ok (.invokestatic 186, 3) := by decide +kernel
theorem dX2_talk_31 : decode cX2_talk 31 = .ok (.lstore 6, 2) := by decide +kernel
theorem dX2_talk_33 : decode cX2_talk 33 = .ok (.lload_n 1, 1) := by decide +kernel
theorem dX2_talk_34 : decode cX2_talk 34 = .ok (.aload_n 0, 1) := by decide +kernel
theorem dX2_talk_35 : decode cX2_talk 35 = .ok (.getfield 10, 3) := by decide +kernel
theorem dX2_talk_38 : decode cX2_talk 38 = .ok (.lload 6, 2) := by decide +kernel
theorem dX2_talk_40 : decode cX2_talk 40 = .ok (.aload_n 0, 1) := by decide +kernel
theorem dX2_talk_41 : decode cX2_talk 41 = .ok (.getfield 19, 3) := by decide +kernel
theorem dX2_talk_44 : decode cX2_talk 44 = .ok (.getfield 75, 3) := by decide +kernel
theorem dX2_talk_47 : decode cX2_talk 47 = .ok (.land, 1) := by decide +kernel
theorem dX2_talk_48 : decode cX2_talk 48 = .ok (.aload_n 0, 1) := by decide +kernel
theorem dX2_talk_49 : decode cX2_talk 49 = .ok (.getfield 23, 3) := by decide +kernel
theorem dX2_talk_52 : decode cX2_talk 52 = .ok (.getfield 75, 3) := by decide +kernel
theorem dX2_talk_55 : decode cX2_talk 55 = .ok (.invokevirtual 163, 3) := by decide +kernel
theorem dX2_talk_58 : decode cX2_talk 58 = .ok (.lor, 1) := by decide +kernel
theorem dX2_talk_59 : decode cX2_talk 59 = .ok (.lstore_n 1, 1) := by decide +kernel
theorem dX2_talk_60 : decode cX2_talk 60 = .ok (.lload_n 3, 1) := by decide +kernel
theorem dX2_talk_61 : decode cX2_talk 61 = .ok (.lload 6, 2) := by decide +kernel
theorem dX2_talk_63 : decode cX2_talk 63 = .ok (.ldc2_w 115, 3) := by decide +kernel
theorem dX2_talk_66 : decode cX2_talk 66 = .ok (.lxor, 1) := by decide +kernel
theorem dX2_talk_67 : decode cX2_talk 67 = .ok (.lload_n 1, 1) := by decide +kernel
theorem dX2_talk_68 : decode cX2_talk 68 = .ok (.ldc2_w 115, 3) := by decide +kernel
theorem dX2_talk_71 : decode cX2_talk 71 = .ok (.lxor, 1) := by decide +kernel
theorem dX2_talk_72 : decode cX2_talk 72 = .ok (.land, 1) := by decide +kernel
theorem dX2_talk_73 : decode cX2_talk 73 = .ok (.land, 1) := by decide +kernel
theorem dX2_talk_74 : decode cX2_talk 74 = .ok (.lstore_n 3, 1) := by decide +kernel
theorem dX2_talk_75 : decode cX2_talk 75 = .ok (.iinc 5 1, 3) := by decide +kernel
theorem dX2_talk_78 : decode cX2_talk 78 = .ok (.goto (-65), 3) := by decide +kernel
theorem dX2_talk_81 : decode cX2_talk 81 = .ok (.aload_n 0, 1) := by decide +kernel
theorem dX2_talk_82 : decode cX2_talk 82 = .ok (.iload 5, 2) := by decide +kernel
theorem dX2_talk_84 : decode cX2_talk 84 = .ok (.putfield 131, 3) := by decide +kernel
theorem dX2_talk_87 : decode cX2_talk 87 = .ok (.lload_n 1, 1) := by decide +kernel
theorem dX2_talk_88 : decode cX2_talk 88 = .ok (.lreturn, 1) := by decide +kernel
set_option maxRecDepth 20000 in
theorem ggX2_firstRefusal_X2_refusalOf : GoodIn wsX2_firstRefusal wsX2_refusalOf := goodIn_r _ [9, 10, 11, 12, 13, 14, 15, 16, 17, 18, 19, 8, 20, 21, 22, 23, 24, 25, 26, 27, 28, 29, 30, 31, 32, 33, 34, 35, 36, 37, 38, 39, 40, 41, 42, 43, 44, 45, 46, 47, 48, 49, 50, 51, 52, 53, 54, 55, 56, 57, 58, 59, 60, 61, 62, 63, 64, 65, 66, 67, 68, 69, 70, 71, 72, 73, 74, 75, 76, 77] (by decide +kernel) (by decide +kernel)
set_option maxRecDepth 20000 in
theorem gX2_firstRefusal_X2_refusalOf : GoodIn wsX2_firstRefusal (wsV RX2 190 RX2 yX2_refusalOf wsX2_refusalOf) := goodIn_app (goodIn_of _ (by decide +kernel)) ggX2_firstRefusal_X2_refusalOf
theorem dX2_firstRefusal_0 : decode cX2_firstRefusal 0 = .ok (.iconst 0, 1) := by decide +kernel
theorem dX2_firstRefusal_1 : decode cX2_firstRefusal 1 = .ok (.istore_n 1, 1) := by decide +kernel
theorem dX2_firstRefusal_2 : decode cX2_firstRefusal 2 = .ok (.iload_n 1, 1) := by decide +kernel
theorem dX2_firstRefusal_3 : decode cX2_firstRefusal 3 = .ok (.aload_n 0, 1) := by decide +kernel
theorem dX2_firstRefusal_4 : decode cX2_firstRefusal 4 = .ok (.getfield 148, 3) := by decide +kernel
theorem dX2_firstRefusal_7 : decode cX2_firstRefusal 7 = .ok (.if_icmp .ge 38, 3) := by decide +kernel
theorem dX2_firstRefusal_10 : decode cX2_firstRefusal 10 = .ok (.aload_n 0, 1) := by decide +kernel
theorem dX2_firstRefusal_11 : decode cX2_firstRefusal 11 = .ok (.aload_n 0, 1) := by decide +kernel
theorem dX2_firstRefusal_12 : decode cX2_firstRefusal 12 = .ok (.getfield 30, 3) := by decide +kernel
theorem dX2_firstRefusal_15 : decode cX2_firstRefusal 15 = .ok (.iload_n 1, 1) := by decide +kernel
theorem dX2_firstRefusal_16 : decode cX2_firstRefusal 16 = .ok (.iaload, 1) := by decide +kernel
theorem dX2_firstRefusal_17 : decode cX2_firstRefusal 17 = .ok (.aload_n 0, 1) := by decide +kernel
theorem dX2_firstRefusal_18 : decode cX2_firstRefusal 18 = .ok (.getfield 34, 3) := by decide +kernel
theorem dX2_firstRefusal_21 : decode cX2_firstRefusal 21 = .ok (.iload_n 1, 1) := by decide +kernel
theorem dX2_firstRefusal_22 : decode cX2_firstRefusal 22 = .ok (.iaload, 1) := by decide +kernel
theorem dX2_firstRefusal_23 : decode cX2_firstRefusal 23 = .ok (.aload_n 0, 1) := by decide +kernel
theorem dX2_firstRefusal_24 : decode cX2_firstRefusal 24 = .ok (.getfield 37, 3) := by decide +kernel
theorem dX2_firstRefusal_27 : decode cX2_firstRefusal 27 = .ok (.iload_n 1, 1) := by decide +kernel
theorem dX2_firstRefusal_28 : decode cX2_firstRefusal 28 = .ok (.iaload, 1) := by decide +kernel
theorem dX2_firstRefusal_29 : decode cX2_firstRefusal 29 = .ok (.invokevirtual 190, 3) := by decide +kernel
theorem dX2_firstRefusal_32 : decode cX2_firstRefusal 32 = .ok (.istore_n 2, 1) := by decide +kernel
theorem dX2_firstRefusal_33 : decode cX2_firstRefusal 33 = .ok (.iload_n 2, 1) := by decide +kernel
theorem dX2_firstRefusal_34 : decode cX2_firstRefusal 34 = .ok (.ifCond .eq 5, 3) := by decide +kernel
theorem dX2_firstRefusal_37 : decode cX2_firstRefusal 37 = .ok (.iload_n 2, 1) := by decide +kernel
theorem dX2_firstRefusal_38 : decode cX2_firstRefusal 38 = .ok (.ireturn, 1) := by decide +kernel
theorem dX2_firstRefusal_39 : decode cX2_firstRefusal 39 = .ok (.iinc 1 1, 3) := by decide +kernel
theorem dX2_firstRefusal_42 : decode cX2_firstRefusal 42 = .ok (.goto (-40), 3) := by decide +kernel
theorem dX2_firstRefusal_45 : decode cX2_firstRefusal 45 = .ok (.iconst 0, 1) := by decide +kernel
theorem dX2_firstRefusal_46 : decode cX2_firstRefusal 46 = .ok (.ireturn, 1) := by decide +kernel
set_option maxRecDepth 20000 in
theorem ggX2_refusalOf_X1_commitOfRef : GoodIn wsX2_refusalOf wsX1_commitOfRef := goodIn_r _ [8, 9, 10, 11, 12, 61, 62, 63] (by decide +kernel) (by decide +kernel)
set_option maxRecDepth 20000 in
theorem gX2_refusalOf_X1_commitOfRef : GoodIn wsX2_refusalOf (wsV RX2 89 RX1 yX1_commitOfRef wsX1_commitOfRef) := goodIn_app (goodIn_of _ (by decide +kernel)) ggX2_refusalOf_X1_commitOfRef
set_option maxRecDepth 20000 in
theorem ggX2_refusalOf_X2_setOf : GoodIn wsX2_refusalOf wsX2_setOf := goodIn_r _ [15] (by decide +kernel) (by decide +kernel)
set_option maxRecDepth 20000 in
theorem gX2_refusalOf_X2_setOf : GoodIn wsX2_refusalOf (va_wsS RX2 79 yX2_setOf wsX2_setOf) := goodIn_app (goodIn_of _ (by decide +kernel)) ggX2_refusalOf_X2_setOf
set_option maxRecDepth 20000 in
theorem ggX2_refusalOf_X0_ancestorsOf : GoodIn wsX2_refusalOf wsX0_ancestorsOf := goodIn_r _ [20, 21, 22, 23, 24, 25, 19, 26, 27, 11, 28, 13, 14, 15, 29, 30, 31, 32, 33, 34, 35, 36, 37, 38, 64, 65, 66, 67, 68, 69] (by decide +kernel) (by decide +kernel)
set_option maxRecDepth 20000 in
theorem gX2_refusalOf_X0_ancestorsOf : GoodIn wsX2_refusalOf (wsV RX2 163 RX0 yX0_ancestorsOf wsX0_ancestorsOf) := goodIn_app (goodIn_of _ (by decide +kernel)) ggX2_refusalOf_X0_ancestorsOf
set_option maxRecDepth 20000 in
theorem ggX2_refusalOf_X2_isProtectedRef : GoodIn wsX2_refusalOf wsX2_isProtectedRef := goodIn_r _ [42, 43, 44, 10, 11, 12, 52, 53, 54, 55, 56, 57, 58, 59, 60] (by decide +kernel) (by decide +kernel)
set_option maxRecDepth 20000 in
theorem gX2_refusalOf_X2_isProtectedRef : GoodIn wsX2_refusalOf (wsV RX2 194 RX2 yX2_isProtectedRef wsX2_isProtectedRef) := goodIn_app (goodIn_of _ (by decide +kernel)) ggX2_refusalOf_X2_isProtectedRef
set_option maxRecDepth 20000 in
theorem ggX2_refusalOf_X2_contains : GoodIn wsX2_refusalOf wsX2_contains := goodIn_r _ [28, 13, 14, 11, 15] (by decide +kernel) (by decide +kernel)
set_option maxRecDepth 20000 in
theorem gX2_refusalOf_X2_contains : GoodIn wsX2_refusalOf (va_wsS RX2 174 yX2_contains wsX2_contains) := goodIn_app (goodIn_of _ (by decide +kernel)) ggX2_refusalOf_X2_contains
set_option maxRecDepth 20000 in
theorem ggX2_refusalOf_X2_endsBeyondServer : GoodIn wsX2_refusalOf wsX2_endsBeyondServer := goodIn_r _ [49, 2, 3, 1, 50, 51, 24, 25, 19, 26, 21, 22, 27, 11, 28, 13, 14, 15, 29, 30, 31, 32, 33, 34, 35, 36, 37, 38, 52, 53, 54, 55, 56, 57, 58, 59, 60, 61, 62, 63, 64, 65, 66, 67, 68, 69] (by decide +kernel) (by decide +kernel)
set_option maxRecDepth 20000 in
theorem gX2_refusalOf_X2_endsBeyondServer : GoodIn wsX2_refusalOf (wsV RX2 197 RX2 yX2_endsBeyondServer wsX2_endsBeyondServer) := goodIn_app (goodIn_of _ (by decide +kernel)) ggX2_refusalOf_X2_endsBeyondServer
theorem dX2_refusalOf_0 : decode cX2_refusalOf 0 = .ok (.aload_n 0, 1) := by decide +kernel
theorem dX2_refusalOf_1 : decode cX2_refusalOf 1 = .ok (.getfield 19, 3) := by decide +kernel
theorem dX2_refusalOf_4 : decode cX2_refusalOf 4 = .ok (.iload_n 1, 1) := by decide +kernel
theorem dX2_refusalOf_5 : decode cX2_refusalOf 5 = .ok (.invokevirtual 89, 3) := by decide +kernel
theorem dX2_refusalOf_8 : decode cX2_refusalOf 8 = .ok (.iload_n 2, 1) := by decide +kernel
theorem dX2_refusalOf_9 : decode cX2_refusalOf 9 = .ok (.if_icmp .eq 6, 3) := by decide +kernel
theorem dX2_refusalOf_12 : decode cX2_refusalOf 12 = .ok (.bipush (-2), 2) := by decide +kernel
theorem dX2_refusalOf_14 : decode cX2_refusalOf 14 = .ok (.ireturn, 1) := by decide +kernel
theorem dX2_refusalOf_15 : decode cX2_refusalOf 15 = .ok (.aload_n 0, 1) := by decide +kernel
theorem dX2_refusalOf_16 : decode cX2_refusalOf 16 = .ok (.getfield 10, 3) := by decide +kernel
theorem dX2_refusalOf_19 : decode cX2_refusalOf 19 = .ok (.iload_n 3, 1) := by decide +kernel
theorem dX2_refusalOf_20 : decode cX2_refusalOf 20 = .ok (.invokestatic 79, 3) := by decide +kernel
theorem dX2_refusalOf_23 : decode cX2_refusalOf 23 = .ok (.aload_n 0, 1) := by decide +kernel
theorem dX2_refusalOf_24 : decode cX2_refusalOf 24 = .ok (.getfield 23, 3) := by decide +kernel
theorem dX2_refusalOf_27 : decode cX2_refusalOf 27 = .ok (.getfield 75, 3) := by decide +kernel
theorem dX2_refusalOf_30 : decode cX2_refusalOf 30 = .ok (.invokevirtual 163, 3) := by decide +kernel
theorem dX2_refusalOf_33 : decode cX2_refusalOf 33 = .ok (.lstore 4, 2) := by decide +kernel
theorem dX2_refusalOf_35 : decode cX2_refusalOf 35 = .ok (.aload_n 0, 1) := by decide +kernel
theorem dX2_refusalOf_36 : decode cX2_refusalOf 36 = .ok (.iload_n 1, 1) := by decide +kernel
theorem dX2_refusalOf_37 : decode cX2_refusalOf 37 = .ok (.invokevirtual 194, 3) := by decide +kernel
theorem dX2_refusalOf_40 : decode cX2_refusalOf 40 = .ok (.ifCond .eq 20, 3) := by decide +kernel
theorem dX2_refusalOf_43 : decode cX2_refusalOf 43 = .ok (.iload_n 2, 1) := by decide +kernel
theorem dX2_refusalOf_44 : decode cX2_refusalOf 44 = .ok (.iconst (-1), 1) := by decide +kernel
theorem dX2_refusalOf_45 : decode cX2_refusalOf 45 = .ok (.if_icmp .eq 15, 3) := by decide +kernel
theorem dX2_refusalOf_48 : decode cX2_refusalOf 48 = .ok (.lload 4, 2) := by decide +kernel
theorem dX2_refusalOf_50 : decode cX2_refusalOf 50 = .ok (.iload_n 2, 1) := by decide +kernel
theorem dX2_refusalOf_51 : decode cX2_refusalOf 51 = .ok (.invokestatic 174, 3) := by decide +kernel
theorem dX2_refusalOf_54 : decode cX2_refusalOf 54 = .ok (.ifCond .ne 6, 3) := by decide +kernel
theorem dX2_refusalOf_57 : decode cX2_refusalOf 57 = .ok (.bipush (-3), 2) := by decide +kernel
theorem dX2_refusalOf_59 : decode cX2_refusalOf 59 = .ok (.ireturn, 1) := by decide +kernel
theorem dX2_refusalOf_60 : decode cX2_refusalOf 60 = .ok (.iload_n 3, 1) := by decide +kernel
theorem dX2_refusalOf_61 : decode cX2_refusalOf 61 = .ok (.iconst (-1), 1) := by decide +kernel
theorem dX2_refusalOf_62 : decode cX2_refusalOf 62 = .ok (.if_icmp .eq 22, 3) := by decide +kernel
theorem dX2_refusalOf_65 : decode cX2_refusalOf 65 = .ok (.lload 4, 2) := by decide +kernel
theorem dX2_refusalOf_67 : decode cX2_refusalOf 67 = .ok (.lconst 0, 1) := by decide +kernel
theorem dX2_refusalOf_68 : decode cX2_refusalOf 68 = .ok (.lcmp, 1) := by decide +kernel
theorem dX2_refusalOf_69 : decode cX2_refusalOf 69 = .ok (.ifCond .eq 12, 3) := by decide +kernel
theorem dX2_refusalOf_72 : decode cX2_refusalOf 72 = .ok (.aload_n 0, 1) := by decide +kernel
theorem dX2_refusalOf_73 : decode cX2_refusalOf 73 = .ok (.lload 4, 2) := by decide +kernel
theorem dX2_refusalOf_75 : decode cX2_refusalOf 75 = .ok (.invokevirtual 197, 3) := by decide +kernel
theorem dX2_refusalOf_78 : decode cX2_refusalOf 78 = .ok (.ifCond .eq 6, 3) := by decide +kernel
theorem dX2_refusalOf_81 : decode cX2_refusalOf 81 = .ok (.bipush (-4), 2) := by decide +kernel
theorem dX2_refusalOf_83 : decode cX2_refusalOf 83 = .ok (.ireturn, 1) := by decide +kernel
theorem dX2_refusalOf_84 : decode cX2_refusalOf 84 = .ok (.iconst 0, 1) := by decide +kernel
theorem dX2_refusalOf_85 : decode cX2_refusalOf 85 = .ok (.ireturn, 1) := by decide +kernel
set_option maxRecDepth 20000 in
theorem ggX2_endsBeyondServer_X0_shallowOf : GoodIn wsX2_endsBeyondServer wsX0_shallowOf := goodIn_r _ [9, 10, 11, 12, 13, 14, 15, 16, 17, 18, 19, 20, 8, 21, 22, 23, 24, 25, 26, 27, 40, 41, 42, 43, 44, 45] (by decide +kernel) (by decide +kernel)
set_option maxRecDepth 20000 in
theorem gX2_endsBeyondServer_X0_shallowOf : GoodIn wsX2_endsBeyondServer (wsV RX2 178 RX0 yX0_shallowOf wsX0_shallowOf) := goodIn_app (goodIn_of _ (by decide +kernel)) ggX2_endsBeyondServer_X0_shallowOf
theorem dX2_endsBeyondServer_0 : decode cX2_endsBeyondServer 0 = .ok (.lload_n 1, 1) := by decide +kernel
theorem dX2_endsBeyondServer_1 : decode cX2_endsBeyondServer 1 = .ok (.aload_n 0, 1) := by decide +kernel
theorem dX2_endsBeyondServer_2 : decode cX2_endsBeyondServer 2 = .ok (.getfield 10, 3) := by decide +kernel
theorem dX2_endsBeyondServer_5 : decode cX2_endsBeyondServer 5 = .ok (.aload_n 0, 1) := by decide +kernel
theorem dX2_endsBeyondServer_6 : decode cX2_endsBeyondServer 6 = .ok (.getfield 23, 3) := by decide +kernel
theorem dX2_endsBeyondServer_9 : decode cX2_endsBeyondServer 9 = .ok (.getfield 75, 3) := by decide +kernel
theorem dX2_endsBeyondServer_12 : decode cX2_endsBeyondServer 12 = .ok (.invokevirtual 178, 3) := by decide +kernel
theorem dX2_endsBeyondServer_15 : decode cX2_endsBeyondServer 15 = .ok (.land, 1) := by decide +kernel
theorem dX2_endsBeyondServer_16 : decode cX2_endsBeyondServer 16 = .ok (.aload_n 0, 1) := by decide +kernel
theorem dX2_endsBeyondServer_17 : decode cX2_endsBeyondServer 17 = .ok (.getfield 19, 3) := by decide +kernel
theorem dX2_endsBeyondServer_20 : decode cX2_endsBeyondServer 20 = .ok (.getfield 75, 3) := by decide +kernel
theorem dX2_endsBeyondServer_23 : decode cX2_endsBeyondServer 23 = .ok (.ldc2_w 115, 3) := by decide +kernel
theorem dX2_endsBeyondServer_26 : decode cX2_endsBeyondServer 26 = .ok (.lxor, 1) := by decide +kernel
theorem dX2_endsBeyondServer_27 : decode cX2_endsBeyondServer 27 = .ok (.land, 1) := by decide +kernel
theorem dX2_endsBeyondServer_28 : decode cX2_endsBeyondServer 28 = .ok (.lconst 0, 1) := by decide +kernel
theorem dX2_endsBeyondServer_29 : decode cX2_endsBeyondServer 29 = .ok (.lcmp, 1) := by decide +kernel
theorem dX2_endsBeyondServer_30 : decode cX2_endsBeyondServer 30 = .ok (.ifCond .eq 7, 3) := by decide +kernel
theorem dX2_endsBeyondServer_33 : decode cX2_endsBeyondServer 33 = .ok (.iconst 1, 1) := by decide +kernel
theorem dX2_endsBeyondServer_34 : decode cX2_endsBeyondServer 34 = .ok (.goto 4, 3) := by decide +kernel
theorem dX2_endsBeyondServer_37 : decode cX2_endsBeyondServer 37 = .ok (.iconst 0, 1) := by decide +kernel
theorem dX2_endsBeyondServer_38 : decode cX2_endsBeyondServer 38 = .ok (.ireturn, 1) := by decide +kernel
set_option maxRecDepth 20000 in
theorem ggX2_doMoves_X1_pointRef : GoodIn wsX2_doMoves wsX1_pointRef := goodIn_r _ [12, 13, 14, 15, 16, 86, 87, 88] (by decide +kernel) (by decide +kernel)
set_option maxRecDepth 20000 in
theorem gX2_doMoves_X1_pointRef : GoodIn wsX2_doMoves (wsV RX2 93 RX1 yX1_pointRef wsX1_pointRef) := goodIn_app (goodIn_of _ (by decide +kernel)) ggX2_doMoves_X1_pointRef
set_option maxRecDepth 20000 in
theorem ggX2_doMoves_X2_setOf : GoodIn wsX2_doMoves wsX2_setOf := goodIn_r _ [19] (by decide +kernel) (by decide +kernel)
set_option maxRecDepth 20000 in
theorem gX2_doMoves_X2_setOf : GoodIn wsX2_doMoves (va_wsS RX2 79 yX2_setOf wsX2_setOf) := goodIn_app (goodIn_of _ (by decide +kernel)) ggX2_doMoves_X2_setOf
set_option maxRecDepth 20000 in
theorem ggX2_doMoves_X0_ancestorsOf : GoodIn wsX2_doMoves wsX0_ancestorsOf := goodIn_r _ [24, 25, 26, 27, 28, 29, 23, 30, 31, 15, 32, 17, 18, 19, 33, 34, 35, 36, 37, 38, 39, 40, 41, 42, 89, 90, 91, 92, 93, 94] (by decide +kernel) (by decide +kernel)
set_option maxRecDepth 20000 in
theorem gX2_doMoves_X0_ancestorsOf : GoodIn wsX2_doMoves (wsV RX2 163 RX0 yX0_ancestorsOf wsX0_ancestorsOf) := goodIn_app (goodIn_of _ (by decide +kernel)) ggX2_doMoves_X0_ancestorsOf
set_option maxRecDepth 20000 in
theorem ggX2_doMoves_J13_bitCount_95d88 : GoodIn wsX2_doMoves wsJ13_bitCount_95d88 := goodIn_r _ [46, 47, 48, 49] (by decide +kernel) (by decide +kernel)
set_option maxRecDepth 20000 in
theorem gX2_doMoves_J13_bitCount_95d88 : GoodIn wsX2_doMoves (va_wsS RX2 125 yJ13_bitCount_95d88 wsJ13_bitCount_95d88) := goodIn_app (goodIn_of _ (by decide +kernel)) ggX2_doMoves_J13_bitCount_95d88
set_option maxRecDepth 20000 in
theorem ggX2_doMoves_X0_filesOf : GoodIn wsX2_doMoves wsX0_filesOf := goodIn_r _ [53, 54, 25, 31, 15, 32, 17, 18, 19, 55, 56, 57, 23, 58, 59, 60, 61, 62, 63, 39, 40, 41, 42, 64, 65, 66, 67, 89, 90, 91, 92, 93, 94] (by decide +kernel) (by decide +kernel)
set_option maxRecDepth 20000 in
theorem gX2_doMoves_X0_filesOf : GoodIn wsX2_doMoves (wsV RX2 117 RX0 yX0_filesOf wsX0_filesOf) := goodIn_app (goodIn_of _ (by decide +kernel)) ggX2_doMoves_X0_filesOf
set_option maxRecDepth 20000 in
theorem ggX2_doMoves_X1_addFiles : GoodIn wsX2_doMoves wsX1_addFiles := goodIn_r _ [71, 72, 73, 74, 75, 11, 76, 66, 15, 67, 86, 87, 88] (by decide +kernel) (by decide +kernel)
set_option maxRecDepth 20000 in
theorem gX2_doMoves_X1_addFiles : GoodIn wsX2_doMoves (wsV RX2 121 RX1 yX1_addFiles wsX1_addFiles) := goodIn_app (goodIn_of _ (by decide +kernel)) ggX2_doMoves_X1_addFiles
theorem dX2_doMoves_0 : decode cX2_doMoves 0 = .ok (.lconst 0, 1) := by decide +kernel
theorem dX2_doMoves_1 : decode cX2_doMoves 1 = .ok (.lstore_n 1, 1) := by decide +kernel
theorem dX2_doMoves_2 : decode cX2_doMoves 2 = .ok (.iconst 0, 1) := by decide +kernel
theorem dX2_doMoves_3 : decode cX2_doMoves 3 = .ok (.istore_n 3, 1) := by decide +kernel
theorem dX2_doMoves_4 : decode cX2_doMoves 4 = .ok (.iload_n 3, 1) := by decide +kernel
theorem dX2_doMoves_5 : decode cX2_doMoves 5 = .ok (.aload_n 0, 1) := by decide +kernel
theorem dX2_doMoves_6 : decode cX2_doMoves 6 = .ok (.getfield 148, 3) := by decide +kernel
theorem dX2_doMoves_9 : decode cX2_doMoves 9 = .ok (.if_icmp .ge 40, 3) := by decide +kernel
theorem dX2_doMoves_12 : decode cX2_doMoves 12 = .ok (.aload_n 0, 1) := by decide +kernel
theorem dX2_doMoves_13 : decode cX2_doMoves 13 = .ok (.getfield 19, 3) := by decide +kernel
theorem dX2_doMoves_16 : decode cX2_doMoves 16 = .ok (.aload_n 0, 1) := by decide +kernel
theorem dX2_doMoves_17 : decode cX2_doMoves 17 = .ok (.getfield 30, 3) := by decide +kernel
theorem dX2_doMoves_20 : decode cX2_doMoves 20 = .ok (.iload_n 3, 1) := by decide +kernel
theorem dX2_doMoves_21 : decode cX2_doMoves 21 = .ok (.iaload, 1) := by decide +kernel
theorem dX2_doMoves_22 : decode cX2_doMoves 22 = .ok (.aload_n 0, 1) := by decide +kernel
theorem dX2_doMoves_23 : decode cX2_doMoves 23 = .ok (.getfield 37, 3) := by decide +kernel
theorem dX2_doMoves_26 : decode cX2_doMoves 26 = .ok (.iload_n 3, 1) := by decide +kernel
theorem dX2_doMoves_27 : decode cX2_doMoves 27 = .ok (.iaload, 1) := by decide +kernel
theorem dX2_doMoves_28 : decode cX2_doMoves 28 = .ok (.invokevirtual 93, 3) := by decide +kernel
theorem dX2_doMoves_31 : decode cX2_doMoves 31 = .ok (.lload_n 1, 1) := by decide +kernel
theorem dX2_doMoves_32 : decode cX2_doMoves 32 = .ok (.aload_n 0, 1) := by decide +kernel
theorem dX2_doMoves_33 : decode cX2_doMoves 33 = .ok (.getfield 37, 3) := by decide +kernel
theorem dX2_doMoves_36 : decode cX2_doMoves 36 = .ok (.iload_n 3, 1) := by decide +kernel
theorem dX2_doMoves_37 : decode cX2_doMoves 37 = .ok (.iaload, 1) := by decide +kernel
theorem dX2_doMoves_38 : decode cX2_doMoves 38 = .ok (.invokestatic 79, 3) := by decide +kernel
theorem dX2_doMoves_41 : decode cX2_doMoves 41 = .ok (.lor, 1) := by decide +kernel
theorem dX2_doMoves_42 : decode cX2_doMoves 42 = .ok (.lstore_n 1, 1) := by decide +kernel
theorem dX2_doMoves_43 : decode cX2_doMoves 43 = .ok (.iinc 3 1, 3) := by decide +kernel
theorem dX2_doMoves_46 : decode cX2_doMoves 46 = .ok (.goto (-42), 3) := by decide +kernel
theorem dX2_doMoves_49 : decode cX2_doMoves 49 = .ok (.aload_n 0, 1) := by decide +kernel
theorem dX2_doMoves_50 : decode cX2_doMoves 50 = .ok (.getfield 10, 3) := by decide +kernel
theorem dX2_doMoves_53 : decode cX2_doMoves 53 = .ok (.lload_n 1, 1) := by decide +kernel
theorem dX2_doMoves_54 : decode cX2_doMoves 54 = .ok (.aload_n 0, 1) := by decide +kernel
theorem dX2_doMoves_55 : decode cX2_doMoves 55 = .ok (.getfield 23, 3) := by decide +kernel
theorem dX2_doMoves_58 : decode cX2_doMoves 58 = .ok (.getfield 75, 3) := by decide +kernel
theorem dX2_doMoves_61 : decode cX2_doMoves 61 = .ok (.invokevirtual 163, 3) := by decide +kernel
theorem dX2_doMoves_64 : decode cX2_doMoves 64 = .ok (.lstore_n 3, 1) := by decide +kernel
theorem dX2_doMoves_65 : decode cX2_doMoves 65 = .ok (.lload_n 3, 1) := by decide +kernel
theorem dX2_doMoves_66 : decode cX2_doMoves 66 = .ok (.aload_n 0, 1) := by decide +kernel
theorem dX2_doMoves_67 : decode cX2_doMoves 67 = .ok (.getfield 19, 3) := by decide +kernel
theorem dX2_doMoves_70 : decode cX2_doMoves 70 = .ok (.getfield 75, 3) := by decide +kernel
theorem dX2_doMoves_73 : decode cX2_doMoves 73 = .ok (.ldc2_w 115, 3) := by decide +kernel
theorem dX2_doMoves_76 : decode cX2_doMoves 76 = .ok (.lxor, 1) := by decide +kernel
theorem dX2_doMoves_77 : decode cX2_doMoves 77 = .ok (.land, 1) := by decide +kernel
theorem dX2_doMoves_78 : decode cX2_doMoves 78 = .ok (.invokestatic 125, 3) := by decide +kernel
theorem dX2_doMoves_81 : decode cX2_doMoves 81 = .ok (.istore 5, 2) := by decide +kernel
theorem dX2_doMoves_83 : decode cX2_doMoves 83 = .ok (.aload_n 0, 1) := by decide +kernel
theorem dX2_doMoves_84 : decode cX2_doMoves 84 = .ok (.getfield 19, 3) := by decide +kernel
theorem dX2_doMoves_87 : decode cX2_doMoves 87 = .ok (.dup, 1) := by decide +kernel
theorem dX2_doMoves_88 : decode cX2_doMoves 88 = .ok (.getfield 75, 3) := by decide +kernel
theorem dX2_doMoves_91 : decode cX2_doMoves 91 = .ok (.lload_n 3, 1) := by decide +kernel
theorem dX2_doMoves_92 : decode cX2_doMoves 92 = .ok (.lor, 1) := by decide +kernel
theorem dX2_doMoves_93 : decode cX2_doMoves 93 = .ok (.putfield 75, 3) := by decide +kernel
theorem dX2_doMoves_96 : decode cX2_doMoves 96 = .ok (.aload_n 0, 1) := by decide +kernel
theorem dX2_doMoves_97 : decode cX2_doMoves 97 = .ok (.getfield 19, 3) := by decide +kernel
theorem dX2_doMoves_100 : decode cX2_doMoves 100 = .ok (.aload_n 0, 1) := by decide +kernel
theorem dX2_doMoves_101 : decode cX2_doMoves 101 = .ok (.getfield 10, 3) := by decide +kernel
theorem dX2_doMoves_104 : decode cX2_doMoves 104 = .ok (.lload_n 3, 1) := by decide +kernel
theorem dX2_doMoves_105 : decode cX2_doMoves 105 = .ok (.invokevirtual 117, 3) := by decide +kernel
theorem dX2_doMoves_108 : decode cX2_doMoves 108 = .ok (.aload_n 0, 1) := by decide +kernel
theorem dX2_doMoves_109 : decode cX2_doMoves 109 = .ok (.getfield 23, 3) := by decide +kernel
theorem dX2_doMoves_112 : decode cX2_doMoves 112 = .ok (.invokevirtual 121, 3) := by decide +kernel
theorem dX2_doMoves_115 : decode cX2_doMoves 115 = .ok (.iload 5, 2) := by decide +kernel
theorem dX2_doMoves_117 : decode cX2_doMoves 117 = .ok (.ireturn, 1) := by decide +kernel
theorem dX2_storeOf_0 : decode cX2_storeOf 0 = .ok (.iload_n 1, 1) := by decide +kernel
