theorem dX3_init_0 : decode cX3_init 0 = .ok (.aload_n 0, 1) := by decide +kernel
theorem dX3_init_1 : decode cX3_init 1 = .ok (.invokespecial 1, 3) := by decide +kernel
theorem dX3_init_4 : decode cX3_init 4 = .ok (.aload_n 0, 1) := by decide +kernel
theorem dX3_init_5 : decode cX3_init 5 = .ok (.bipush 60, 2) := by decide +kernel
theorem dX3_init_7 : decode cX3_init 7 = .ok (.newarray .int, 2) := by decide +kernel
theorem dX3_init_9 : decode cX3_init 9 = .ok (.putfield 7, 3) := by decide +kernel
theorem dX3_init_12 : decode cX3_init 12 = .ok (.aload_n 0, 1) := by decide +kernel
theorem dX3_init_13 : decode cX3_init 13 = .ok (.bipush 60, 2) := by decide +kernel
theorem dX3_init_15 : decode cX3_init 15 = .ok (.newarray .int, 2) := by decide +kernel
theorem dX3_init_17 : decode cX3_init 17 = .ok (.putfield 13, 3) := by decide +kernel
theorem dX3_init_20 : decode cX3_init 20 = .ok (.aload_n 0, 1) := by decide +kernel
theorem dX3_init_21 : decode cX3_init 21 = .ok (.sipush 240, 3) := by decide +kernel
theorem dX3_init_24 : decode cX3_init 24 = .ok (.newarray .int, 2) := by decide +kernel
theorem dX3_init_26 : decode cX3_init 26 = .ok (.putfield 16, 3) := by decide +kernel
theorem dX3_init_29 : decode cX3_init 29 = .ok (.aload_n 0, 1) := by decide +kernel
theorem dX3_init_30 : decode cX3_init 30 = .ok (.bipush 120, 2) := by decide +kernel
theorem dX3_init_32 : decode cX3_init 32 = .ok (.newarray .boolean, 2) := by decide +kernel
theorem dX3_init_34 : decode cX3_init 34 = .ok (.putfield 19, 3) := by decide +kernel
theorem dX3_init_37 : decode cX3_init 37 = .ok (.aload_n 0, 1) := by decide +kernel
theorem dX3_init_38 : decode cX3_init 38 = .ok (.sipush 200, 3) := by decide +kernel
theorem dX3_init_41 : decode cX3_init 41 = .ok (.newarray .boolean, 2) := by decide +kernel
theorem dX3_init_43 : decode cX3_init 43 = .ok (.putfield 23, 3) := by decide +kernel
theorem dX3_init_46 : decode cX3_init 46 = .ok (.aload_n 0, 1) := by decide +kernel
theorem dX3_init_47 : decode cX3_init 47 = .ok (.bipush 8, 2) := by decide +kernel
theorem dX3_init_49 : decode cX3_init 49 = .ok (.newarray .int, 2) := by decide +kernel
theorem dX3_init_51 : decode cX3_init 51 = .ok (.putfield 26, 3) := by decide +kernel
theorem dX3_init_54 : decode cX3_init 54 = .ok (.aload_n 0, 1) := by decide +kernel
theorem dX3_init_55 : decode cX3_init 55 = .ok (.iconst 4, 1) := by decide +kernel
theorem dX3_init_56 : decode cX3_init 56 = .ok (.newarray .boolean, 2) := by decide +kernel
theorem dX3_init_58 : decode cX3_init 58 = .ok (.putfield 29, 3) := by decide +kernel
theorem dX3_init_61 : decode cX3_init 61 = .ok (.aload_n 0, 1) := by decide +kernel
theorem dX3_init_62 : decode cX3_init 62 = .ok (.iconst 3, 1) := by decide +kernel
theorem dX3_init_63 : decode cX3_init 63 = .ok (.newarray .int, 2) := by decide +kernel
theorem dX3_init_65 : decode cX3_init 65 = .ok (.putfield 32, 3) := by decide +kernel
theorem dX3_init_68 : decode cX3_init 68 = .ok (.aload_n 0, 1) := by decide +kernel
theorem dX3_init_69 : decode cX3_init 69 = .ok (.iconst 3, 1) := by decide +kernel
theorem dX3_init_70 : decode cX3_init 70 = .ok (.newarray .int, 2) := by decide +kernel
theorem dX3_init_72 : decode cX3_init 72 = .ok (.putfield 35, 3) := by decide +kernel
theorem dX3_init_75 : decode cX3_init 75 = .ok (.aload_n 0, 1) := by decide +kernel
theorem dX3_init_76 : decode cX3_init 76 = .ok (.iconst 3, 1) := by decide +kernel
theorem dX3_init_77 : decode cX3_init 77 = .ok (.newarray .int, 2) := by decide +kernel
theorem dX3_init_79 : decode cX3_init 79 = .ok (.putfield 38, 3) := by decide +kernel
theorem dX3_init_82 : decode cX3_init 82 = .ok (.aload_n 0, 1) := by decide +kernel
theorem dX3_init_83 : decode cX3_init 83 = .ok (.bipush 60, 2) := by decide +kernel
theorem dX3_init_85 : decode cX3_init 85 = .ok (.newarray .boolean, 2) := by decide +kernel
theorem dX3_init_87 : decode cX3_init 87 = .ok (.putfield 41, 3) := by decide +kernel
theorem dX3_init_90 : decode cX3_init 90 = .ok (.aload_n 0, 1) := by decide +kernel
theorem dX3_init_91 : decode cX3_init 91 = .ok (.bipush 60, 2) := by decide +kernel
theorem dX3_init_93 : decode cX3_init 93 = .ok (.newarray .boolean, 2) := by decide +kernel
theorem dX3_init_95 : decode cX3_init 95 = .ok (.putfield 44, 3) := by decide +kernel
theorem dX3_init_98 : decode cX3_init 98 = .ok (.aload_n 0, 1) := by decide +kernel
theorem dX3_init_99 : decode cX3_init 99 = .ok (.bipush 60, 2) := by decide +kernel
theorem dX3_init_101 : decode cX3_init 101 = .ok (.newarray .boolean, 2) := by decide +kernel
theorem dX3_init_103 : decode cX3_init 103 = .ok (.putfield 47, 3) := by decide +kernel
theorem dX3_init_106 : decode cX3_init 106 = .ok (.aload_n 0, 1) := by decide +kernel
theorem dX3_init_107 : decode cX3_init 107 = .ok (.bipush 60, 2) := by decide +kernel
theorem dX3_init_109 : decode cX3_init 109 = .ok (.newarray .int, 2) := by decide +kernel
theorem dX3_init_111 : decode cX3_init 111 = .ok (.putfield 50, 3) := by decide +kernel
theorem dX3_init_114 : decode cX3_init 114 = .ok (.iconst 0, 1) := by decide +kernel
theorem dX3_init_115 : decode cX3_init 115 = .ok (.istore_n 1, 1) := by decide +kernel
theorem dX3_init_116 : decode cX3_init 116 = .ok (.iload_n 1, 1) := by decide +kernel
theorem dX3_init_117 : decode cX3_init 117 = .ok (.bipush 8, 2) := by decide +kernel
theorem dX3_init_119 : decode cX3_init 119 = .ok (.if_icmp .ge 16, 3) := by decide +kernel
theorem dX3_init_122 : decode cX3_init 122 = .ok (.aload_n 0, 1) := by decide +kernel
theorem dX3_init_123 : decode cX3_init 123 = .ok (.getfield 26, 3) := by decide +kernel
theorem dX3_init_126 : decode cX3_init 126 = .ok (.iload_n 1, 1) := by decide +kernel
theorem dX3_init_127 : decode cX3_init 127 = .ok (.iconst (-1), 1) := by decide +kernel
theorem dX3_init_128 : decode cX3_init 128 = .ok (.iastore, 1) := by decide +kernel
theorem dX3_init_129 : decode cX3_init 129 = .ok (.iinc 1 1, 3) := by decide +kernel
theorem dX3_init_132 : decode cX3_init 132 = .ok (.goto (-16), 3) := by decide +kernel
theorem dX3_init_135 : decode cX3_init 135 = .ok (.return_, 1) := by decide +kernel
theorem dX3_thrown_0 : decode cX3_thrown 0 = .ok (.aload_n 0, 1) := by decide +kernel
theorem dX3_thrown_1 : decode cX3_thrown 1 = .ok (.getfield 53, 3) := by decide +kernel
theorem dX3_thrown_4 : decode cX3_thrown 4 = .ok (.ireturn, 1) := by decide +kernel
theorem dX3_refused_0 : decode cX3_refused 0 = .ok (.aload_n 0, 1) := by decide +kernel
theorem dX3_refused_1 : decode cX3_refused 1 = .ok (.iload_n 1, 1) := by decide +kernel
theorem dX3_refused_2 : decode cX3_refused 2 = .ok (.putfield 53, 3) := by decide +kernel
theorem dX3_refused_5 : decode cX3_refused 5 = .ok (.iload_n 1, 1) := by decide +kernel
theorem dX3_refused_6 : decode cX3_refused 6 = .ok (.ifCond .eq 7, 3) := by decide +kernel
theorem dX3_refused_9 : decode cX3_refused 9 = .ok (.iconst 1, 1) := by decide +kernel
theorem dX3_refused_10 : decode cX3_refused 10 = .ok (.goto 4, 3) := by decide +kernel
theorem dX3_refused_13 : decode cX3_refused 13 = .ok (.iconst 0, 1) := by decide +kernel
theorem dX3_refused_14 : decode cX3_refused 14 = .ok (.ireturn, 1) := by decide +kernel
theorem dX3_fine_0 : decode cX3_fine 0 = .ok (.aload_n 0, 1) := by decide +kernel
theorem dX3_fine_1 : decode cX3_fine 1 = .ok (.iconst 0, 1) := by decide +kernel
theorem dX3_fine_2 : decode cX3_fine 2 = .ok (.putfield 53, 3) := by decide +kernel
theorem dX3_fine_5 : decode cX3_fine 5 = .ok (.iload_n 1, 1) := by decide +kernel
theorem dX3_fine_6 : decode cX3_fine 6 = .ok (.ireturn, 1) := by decide +kernel
theorem dX3_in_0 : decode cX3_in 0 = .ok (.iload_n 0, 1) := by decide +kernel
theorem dX3_in_1 : decode cX3_in 1 = .ok (.iload_n 1, 1) := by decide +kernel
theorem dX3_in_2 : decode cX3_in 2 = .ok (.if_icmp .lt 12, 3) := by decide +kernel
theorem dX3_in_5 : decode cX3_in 5 = .ok (.iload_n 0, 1) := by decide +kernel
theorem dX3_in_6 : decode cX3_in 6 = .ok (.iload_n 2, 1) := by decide +kernel
theorem dX3_in_7 : decode cX3_in 7 = .ok (.if_icmp .gt 7, 3) := by decide +kernel
theorem dX3_in_10 : decode cX3_in 10 = .ok (.iconst 1, 1) := by decide +kernel
theorem dX3_in_11 : decode cX3_in 11 = .ok (.goto 4, 3) := by decide +kernel
theorem dX3_in_14 : decode cX3_in 14 = .ok (.iconst 0, 1) := by decide +kernel
theorem dX3_in_15 : decode cX3_in 15 = .ok (.ireturn, 1) := by decide +kernel
set_option maxRecDepth 20000 in
theorem ggX3_isStore_X3_in : GoodIn wsX3_isStore wsX3_in := goodIn_r _ [4] (by decide +kernel) (by decide +kernel)
set_option maxRecDepth 20000 in
theorem gX3_isStore_X3_in : GoodIn wsX3_isStore (va_wsS RX3 57 yX3_in wsX3_in) := goodIn_app (goodIn_of _ (by decide +kernel)) ggX3_isStore_X3_in
theorem dX3_isStore_0 : decode cX3_isStore 0 = .ok (.iload_n 0, 1) := by decide +kernel
theorem dX3_isStore_1 : decode cX3_isStore 1 = .ok (.iconst 0, 1) := by decide +kernel
theorem dX3_isStore_2 : decode cX3_isStore 2 = .ok (.iconst 1, 1) := by decide +kernel
theorem dX3_isStore_3 : decode cX3_isStore 3 = .ok (.invokestatic 57, 3) := by decide +kernel
theorem dX3_isStore_6 : decode cX3_isStore 6 = .ok (.ireturn, 1) := by decide +kernel
set_option maxRecDepth 20000 in
theorem ggX3_isRef_X3_in : GoodIn wsX3_isRef wsX3_in := goodIn_r _ [4] (by decide +kernel) (by decide +kernel)
set_option maxRecDepth 20000 in
theorem gX3_isRef_X3_in : GoodIn wsX3_isRef (va_wsS RX3 57 yX3_in wsX3_in) := goodIn_app (goodIn_of _ (by decide +kernel)) ggX3_isRef_X3_in
theorem dX3_isRef_0 : decode cX3_isRef 0 = .ok (.iload_n 0, 1) := by decide +kernel
theorem dX3_isRef_1 : decode cX3_isRef 1 = .ok (.iconst 0, 1) := by decide +kernel
theorem dX3_isRef_2 : decode cX3_isRef 2 = .ok (.iconst 3, 1) := by decide +kernel
theorem dX3_isRef_3 : decode cX3_isRef 3 = .ok (.invokestatic 57, 3) := by decide +kernel
theorem dX3_isRef_6 : decode cX3_isRef 6 = .ok (.ireturn, 1) := by decide +kernel
set_option maxRecDepth 20000 in
theorem ggX3_isCommit_X3_in : GoodIn wsX3_isCommit wsX3_in := goodIn_r _ [5] (by decide +kernel) (by decide +kernel)
set_option maxRecDepth 20000 in
theorem gX3_isCommit_X3_in : GoodIn wsX3_isCommit (va_wsS RX3 57 yX3_in wsX3_in) := goodIn_app (goodIn_of _ (by decide +kernel)) ggX3_isCommit_X3_in
theorem dX3_isCommit_0 : decode cX3_isCommit 0 = .ok (.iload_n 1, 1) := by decide +kernel
theorem dX3_isCommit_1 : decode cX3_isCommit 1 = .ok (.iconst 0, 1) := by decide +kernel
theorem dX3_isCommit_2 : decode cX3_isCommit 2 = .ok (.aload_n 0, 1) := by decide +kernel
theorem dX3_isCommit_3 : decode cX3_isCommit 3 = .ok (.getfield 61, 3) := by decide +kernel
theorem dX3_isCommit_6 : decode cX3_isCommit 6 = .ok (.iconst 1, 1) := by decide +kernel
theorem dX3_isCommit_7 : decode cX3_isCommit 7 = .ok (.isub, 1) := by decide +kernel
theorem dX3_isCommit_8 : decode cX3_isCommit 8 = .ok (.invokestatic 57, 3) := by decide +kernel
theorem dX3_isCommit_11 : decode cX3_isCommit 11 = .ok (.ireturn, 1) := by decide +kernel
set_option maxRecDepth 20000 in
theorem ggX3_isIn_X3_isCommit : GoodIn wsX3_isIn wsX3_isCommit := goodIn_r _ [6, 7, 8, 9, 5, 10, 11, 12, 13, 14, 15, 16, 17, 18, 19, 20, 21, 22, 23, 24, 25, 26, 27, 28] (by decide +kernel) (by decide +kernel)
set_option maxRecDepth 20000 in
theorem gX3_isIn_X3_isCommit : GoodIn wsX3_isIn (wsV RX3 64 RX3 yX3_isCommit wsX3_isCommit) := goodIn_app (goodIn_of _ (by decide +kernel)) ggX3_isIn_X3_isCommit
theorem dX3_isIn_0 : decode cX3_isIn 0 = .ok (.aload_n 0, 1) := by decide +kernel
theorem dX3_isIn_1 : decode cX3_isIn 1 = .ok (.iload_n 2, 1) := by decide +kernel
theorem dX3_isIn_2 : decode cX3_isIn 2 = .ok (.invokevirtual 64, 3) := by decide +kernel
theorem dX3_isIn_5 : decode cX3_isIn 5 = .ok (.ifCond .eq 21, 3) := by decide +kernel
theorem dX3_isIn_8 : decode cX3_isIn 8 = .ok (.aload_n 0, 1) := by decide +kernel
theorem dX3_isIn_9 : decode cX3_isIn 9 = .ok (.getfield 19, 3) := by decide +kernel
theorem dX3_isIn_12 : decode cX3_isIn 12 = .ok (.bipush 60, 2) := by decide +kernel
theorem dX3_isIn_14 : decode cX3_isIn 14 = .ok (.iload_n 1, 1) := by decide +kernel
theorem dX3_isIn_15 : decode cX3_isIn 15 = .ok (.imul, 1) := by decide +kernel
theorem dX3_isIn_16 : decode cX3_isIn 16 = .ok (.iload_n 2, 1) := by decide +kernel
theorem dX3_isIn_17 : decode cX3_isIn 17 = .ok (.iadd, 1) := by decide +kernel
theorem dX3_isIn_18 : decode cX3_isIn 18 = .ok (.baload, 1) := by decide +kernel
theorem dX3_isIn_19 : decode cX3_isIn 19 = .ok (.ifCond .eq 7, 3) := by decide +kernel
theorem dX3_isIn_22 : decode cX3_isIn 22 = .ok (.iconst 1, 1) := by decide +kernel
theorem dX3_isIn_23 : decode cX3_isIn 23 = .ok (.goto 4, 3) := by decide +kernel
theorem dX3_isIn_26 : decode cX3_isIn 26 = .ok (.iconst 0, 1) := by decide +kernel
theorem dX3_isIn_27 : decode cX3_isIn 27 = .ok (.ireturn, 1) := by decide +kernel
set_option maxRecDepth 20000 in
theorem ggX3_isInOrNone_X3_isIn : GoodIn wsX3_isInOrNone wsX3_isIn := goodIn_r _ [5, 6, 7, 8, 9, 4, 10, 11, 12, 13, 14, 15, 16, 17, 18, 19, 20, 21, 22, 23, 24, 25, 26, 27, 28, 29, 30, 31, 32] (by decide +kernel) (by decide +kernel)
set_option maxRecDepth 20000 in
theorem gX3_isInOrNone_X3_isIn : GoodIn wsX3_isInOrNone (wsV RX3 68 RX3 yX3_isIn wsX3_isIn) := goodIn_app (goodIn_of _ (by decide +kernel)) ggX3_isInOrNone_X3_isIn
theorem dX3_isInOrNone_0 : decode cX3_isInOrNone 0 = .ok (.iload_n 2, 1) := by decide +kernel
theorem dX3_isInOrNone_1 : decode cX3_isInOrNone 1 = .ok (.iconst (-1), 1) := by decide +kernel
theorem dX3_isInOrNone_2 : decode cX3_isInOrNone 2 = .ok (.if_icmp .eq 12, 3) := by decide +kernel
theorem dX3_isInOrNone_5 : decode cX3_isInOrNone 5 = .ok (.aload_n 0, 1) := by decide +kernel
theorem dX3_isInOrNone_6 : decode cX3_isInOrNone 6 = .ok (.iload_n 1, 1) := by decide +kernel
theorem dX3_isInOrNone_7 : decode cX3_isInOrNone 7 = .ok (.iload_n 2, 1) := by decide +kernel
theorem dX3_isInOrNone_8 : decode cX3_isInOrNone 8 = .ok (.invokevirtual 68, 3) := by decide +kernel
theorem dX3_isInOrNone_11 : decode cX3_isInOrNone 11 = .ok (.ifCond .eq 7, 3) := by decide +kernel
theorem dX3_isInOrNone_14 : decode cX3_isInOrNone 14 = .ok (.iconst 1, 1) := by decide +kernel
theorem dX3_isInOrNone_15 : decode cX3_isInOrNone 15 = .ok (.goto 4, 3) := by decide +kernel
theorem dX3_isInOrNone_18 : decode cX3_isInOrNone 18 = .ok (.iconst 0, 1) := by decide +kernel
theorem dX3_isInOrNone_19 : decode cX3_isInOrNone 19 = .ok (.ireturn, 1) := by decide +kernel
set_option maxRecDepth 20000 in
theorem ggX3_isCommitOrNone_X3_isCommit : GoodIn wsX3_isCommitOrNone wsX3_isCommit := goodIn_r _ [5, 6, 7, 8, 4, 9, 10, 11, 12, 13, 14, 15, 16, 17, 18, 19, 20, 21, 22, 23, 24, 25, 26, 27] (by decide +kernel) (by decide +kernel)
set_option maxRecDepth 20000 in
theorem gX3_isCommitOrNone_X3_isCommit : GoodIn wsX3_isCommitOrNone (wsV RX3 64 RX3 yX3_isCommit wsX3_isCommit) := goodIn_app (goodIn_of _ (by decide +kernel)) ggX3_isCommitOrNone_X3_isCommit
theorem dX3_isCommitOrNone_0 : decode cX3_isCommitOrNone 0 = .ok (.iload_n 1, 1) := by decide +kernel
theorem dX3_isCommitOrNone_1 : decode cX3_isCommitOrNone 1 = .ok (.iconst (-1), 1) := by decide +kernel
theorem dX3_isCommitOrNone_2 : decode cX3_isCommitOrNone 2 = .ok (.if_icmp .eq 11, 3) := by decide +kernel
theorem dX3_isCommitOrNone_5 : decode cX3_isCommitOrNone 5 = .ok (.aload_n 0, 1) := by decide +kernel
theorem dX3_isCommitOrNone_6 : decode cX3_isCommitOrNone 6 = .ok (.iload_n 1, 1) := by decide +kernel
theorem dX3_isCommitOrNone_7 : decode cX3_isCommitOrNone 7 = .ok (.invokevirtual 64, 3) := by decide +kernel
theorem dX3_isCommitOrNone_10 : decode cX3_isCommitOrNone 10 = .ok (.ifCond .eq 7, 3) := by decide +kernel
theorem dX3_isCommitOrNone_13 : decode cX3_isCommitOrNone 13 = .ok (.iconst 1, 1) := by decide +kernel
theorem dX3_isCommitOrNone_14 : decode cX3_isCommitOrNone 14 = .ok (.goto 4, 3) := by decide +kernel
theorem dX3_isCommitOrNone_17 : decode cX3_isCommitOrNone 17 = .ok (.iconst 0, 1) := by decide +kernel
theorem dX3_isCommitOrNone_18 : decode cX3_isCommitOrNone 18 = .ok (.ireturn, 1) := by decide +kernel
set_option maxRecDepth 20000 in
theorem ggX3_make_X3_isStore : GoodIn wsX3_make wsX3_isStore := goodIn_r _ [10, 11, 12, 9, 13] (by decide +kernel) (by decide +kernel)
set_option maxRecDepth 20000 in
theorem gX3_make_X3_isStore : GoodIn wsX3_make (va_wsS RX3 72 yX3_isStore wsX3_isStore) := goodIn_app (goodIn_of _ (by decide +kernel)) ggX3_make_X3_isStore
set_option maxRecDepth 20000 in
theorem ggX3_make_X3_in : GoodIn wsX3_make wsX3_in := goodIn_r _ [13] (by decide +kernel) (by decide +kernel)
set_option maxRecDepth 20000 in
theorem gX3_make_X3_in : GoodIn wsX3_make (va_wsS RX3 57 yX3_in wsX3_in) := goodIn_app (goodIn_of _ (by decide +kernel)) ggX3_make_X3_in
set_option maxRecDepth 20000 in
theorem ggX3_make_X3_isInOrNone : GoodIn wsX3_make wsX3_isInOrNone := goodIn_r _ [17, 18, 19, 20, 9, 21, 5, 22, 23, 24, 25, 1, 11, 12, 13, 31, 32, 33, 34, 35, 36, 37, 38, 39, 40, 41, 42, 43, 44, 45, 46, 47, 48] (by decide +kernel) (by decide +kernel)
set_option maxRecDepth 20000 in
theorem gX3_make_X3_isInOrNone : GoodIn wsX3_make (wsV RX3 75 RX3 yX3_isInOrNone wsX3_isInOrNone) := goodIn_app (goodIn_of _ (by decide +kernel)) ggX3_make_X3_isInOrNone
set_option maxRecDepth 20000 in
theorem ggX3_make_X3_refused : GoodIn wsX3_make wsX3_refused := goodIn_r _ [29, 30, 31, 32, 33, 34, 35, 36, 37, 38, 39, 40, 41, 42, 43, 44, 45, 46, 47, 48] (by decide +kernel) (by decide +kernel)
set_option maxRecDepth 20000 in
theorem gX3_make_X3_refused : GoodIn wsX3_make (wsV RX3 78 RX3 yX3_refused wsX3_refused) := goodIn_app (goodIn_of _ (by decide +kernel)) ggX3_make_X3_refused
theorem dX3_make_0 : decode cX3_make 0 = .ok (.iload_n 1, 1) := by decide +kernel
theorem dX3_make_1 : decode cX3_make 1 = .ok (.invokestatic 72, 3) := by decide +kernel
theorem dX3_make_4 : decode cX3_make 4 = .ok (.ifCond .eq 35, 3) := by decide +kernel
theorem dX3_make_7 : decode cX3_make 7 = .ok (.iload 4, 2) := by decide +kernel
theorem dX3_make_9 : decode cX3_make 9 = .ok (.iconst 0, 1) := by decide +kernel
theorem dX3_make_10 : decode cX3_make 10 = .ok (.iconst 3, 1) := by decide +kernel
theorem dX3_make_11 : decode cX3_make 11 = .ok (.invokestatic 57, 3) := by decide +kernel
theorem dX3_make_14 : decode cX3_make 14 = .ok (.ifCond .eq 25, 3) := by decide +kernel
theorem dX3_make_17 : decode cX3_make 17 = .ok (.aload_n 0, 1) := by decide +kernel
theorem dX3_make_18 : decode cX3_make 18 = .ok (.iload_n 1, 1) := by decide +kernel
theorem dX3_make_19 : decode cX3_make 19 = .ok (.iload_n 2, 1) := by decide +kernel
theorem dX3_make_20 : decode cX3_make 20 = .ok (.invokevirtual 75, 3) := by decide +kernel
theorem dX3_make_23 : decode cX3_make 23 = .ok (.ifCond .eq 16, 3) := by decide +kernel
theorem dX3_make_26 : decode cX3_make 26 = .ok (.aload_n 0, 1) := by decide +kernel
theorem dX3_make_27 : decode cX3_make 27 = .ok (.iload_n 1, 1) := by decide +kernel
theorem dX3_make_28 : decode cX3_make 28 = .ok (.iload_n 3, 1) := by decide +kernel
theorem dX3_make_29 : decode cX3_make 29 = .ok (.invokevirtual 75, 3) := by decide +kernel
theorem dX3_make_32 : decode cX3_make 32 = .ok (.ifCond .eq 7, 3) := by decide +kernel
theorem dX3_make_35 : decode cX3_make 35 = .ok (.iconst 1, 1) := by decide +kernel
theorem dX3_make_36 : decode cX3_make 36 = .ok (.goto 4, 3) := by decide +kernel
theorem dX3_make_39 : decode cX3_make 39 = .ok (.iconst 0, 1) := by decide +kernel
theorem dX3_make_40 : decode cX3_make 40 = .ok (.istore 6, 2) := by decide +kernel
theorem dX3_make_42 : decode cX3_make 42 = .ok (.iload 5, 2) := by decide +kernel
theorem dX3_make_44 : decode cX3_make 44 = .ok (.iconst (-1), 1) := by decide +kernel
theorem dX3_make_45 : decode cX3_make 45 = .ok (.bipush 99, 2) := by decide +kernel
theorem dX3_make_47 : decode cX3_make 47 = .ok (.invokestatic 57, 3) := by decide +kernel
theorem dX3_make_50 : decode cX3_make 50 = .ok (.ifCond .eq 22, 3) := by decide +kernel
theorem dX3_make_53 : decode cX3_make 53 = .ok (.iload_n 3, 1) := by decide +kernel
theorem dX3_make_54 : decode cX3_make 54 = .ok (.iconst (-1), 1) := by decide +kernel
theorem dX3_make_55 : decode cX3_make 55 = .ok (.if_icmp .eq 13, 3) := by decide +kernel
theorem dX3_make_58 : decode cX3_make 58 = .ok (.iload_n 2, 1) := by decide +kernel
theorem dX3_make_59 : decode cX3_make 59 = .ok (.iconst (-1), 1) := by decide +kernel
theorem dX3_make_60 : decode cX3_make 60 = .ok (.if_icmp .eq 12, 3) := by decide +kernel
theorem dX3_make_63 : decode cX3_make 63 = .ok (.iload_n 2, 1) := by decide +kernel
theorem dX3_make_64 : decode cX3_make 64 = .ok (.iload_n 3, 1) := by decide +kernel
theorem dX3_make_65 : decode cX3_make 65 = .ok (.if_icmp .eq 7, 3) := by decide +kernel
theorem dX3_make_68 : decode cX3_make 68 = .ok (.iconst 1, 1) := by decide +kernel
theorem dX3_make_69 : decode cX3_make 69 = .ok (.goto 4, 3) := by decide +kernel
theorem dX3_make_72 : decode cX3_make 72 = .ok (.iconst 0, 1) := by decide +kernel
theorem dX3_make_73 : decode cX3_make 73 = .ok (.istore 7, 2) := by decide +kernel
theorem dX3_make_75 : decode cX3_make 75 = .ok (.aload_n 0, 1) := by decide +kernel
theorem dX3_make_76 : decode cX3_make 76 = .ok (.iload 6, 2) := by decide +kernel
theorem dX3_make_78 : decode cX3_make 78 = .ok (.ifCond .ne 7, 3) := by decide +kernel
theorem dX3_make_81 : decode cX3_make 81 = .ok (.iconst 1, 1) := by decide +kernel
theorem dX3_make_82 : decode cX3_make 82 = .ok (.goto 26, 3) := by decide +kernel
theorem dX3_make_85 : decode cX3_make 85 = .ok (.iload 7, 2) := by decide +kernel
theorem dX3_make_87 : decode cX3_make 87 = .ok (.ifCond .ne 7, 3) := by decide +kernel
theorem dX3_make_90 : decode cX3_make 90 = .ok (.iconst 2, 1) := by decide +kernel
theorem dX3_make_91 : decode cX3_make 91 = .ok (.goto 17, 3) := by decide +kernel
theorem dX3_make_94 : decode cX3_make 94 = .ok (.aload_n 0, 1) := by decide +kernel
theorem dX3_make_95 : decode cX3_make 95 = .ok (.getfield 61, 3) := by decide +kernel
theorem dX3_make_98 : decode cX3_make 98 = .ok (.bipush 60, 2) := by decide +kernel
theorem dX3_make_100 : decode cX3_make 100 = .ok (.if_icmp .ne 7, 3) := by decide +kernel
theorem dX3_make_103 : decode cX3_make 103 = .ok (.iconst 3, 1) := by decide +kernel
theorem dX3_make_104 : decode cX3_make 104 = .ok (.goto 4, 3) := by decide +kernel
theorem dX3_make_107 : decode cX3_make 107 = .ok (.iconst 0, 1) := by decide +kernel
theorem dX3_make_108 : decode cX3_make 108 = .ok (.invokevirtual 78, 3) := by decide +kernel
theorem dX3_make_111 : decode cX3_make 111 = .ok (.ifCond .eq 5, 3) := by decide +kernel
theorem dX3_make_114 : decode cX3_make 114 = .ok (.iconst 0, 1) := by decide +kernel
theorem dX3_make_115 : decode cX3_make 115 = .ok (.ireturn, 1) := by decide +kernel
theorem dX3_make_116 : decode cX3_make 116 = .ok (.aload_n 0, 1) := by decide +kernel
theorem dX3_make_117 : decode cX3_make 117 = .ok (.getfield 7, 3) := by decide +kernel
theorem dX3_make_120 : decode cX3_make 120 = .ok (.aload_n 0, 1) := by decide +kernel
theorem dX3_make_121 : decode cX3_make 121 = .ok (.getfield 61, 3) := by decide +kernel
theorem dX3_make_124 : decode cX3_make 124 = .ok (.iload_n 2, 1) := by decide +kernel
theorem dX3_make_125 : decode cX3_make 125 = .ok (.iastore, 1) := by decide +kernel
theorem dX3_make_126 : decode cX3_make 126 = .ok (.aload_n 0, 1) := by decide +kernel
theorem dX3_make_127 : decode cX3_make 127 = .ok (.getfield 13, 3) := by decide +kernel
theorem dX3_make_130 : decode cX3_make 130 = .ok (.aload_n 0, 1) := by decide +kernel
theorem dX3_make_131 : decode cX3_make 131 = .ok (.getfield 61, 3) := by decide +kernel
theorem dX3_make_134 : decode cX3_make 134 = .ok (.iload_n 3, 1) := by decide +kernel
theorem dX3_make_135 : decode cX3_make 135 = .ok (.iastore, 1) := by decide +kernel
theorem dX3_make_136 : decode cX3_make 136 = .ok (.iconst 0, 1) := by decide +kernel
theorem dX3_make_137 : decode cX3_make 137 = .ok (.istore 8, 2) := by decide +kernel
theorem dX3_make_139 : decode cX3_make 139 = .ok (.iload 8, 2) := by decide +kernel
theorem dX3_make_141 : decode cX3_make 141 = .ok (.iconst 4, 1) := by decide +kernel
theorem dX3_make_142 : decode cX3_make 142 = .ok (.if_icmp .ge 55, 3) := by decide +kernel
theorem dX3_make_145 : decode cX3_make 145 = .ok (.aload_n 0, 1) := by decide +kernel
theorem dX3_make_146 : decode cX3_make 146 = .ok (.getfield 16, 3) := by decide +kernel
theorem dX3_make_149 : decode cX3_make 149 = .ok (.iconst 4, 1) := by decide +kernel
theorem dX3_make_150 : decode cX3_make 150 = .ok (.aload_n 0, 1) := by decide +kernel
theorem dX3_make_151 : decode cX3_make 151 = .ok (.getfield 61, 3) := by decide +kernel
theorem dX3_make_154 : decode cX3_make 154 = .ok (.imul, 1) := by decide +kernel
theorem dX3_make_155 : decode cX3_make 155 = .ok (.iload 8, 2) := by decide +kernel
theorem dX3_make_157 : decode cX3_make 157 = .ok (.iadd, 1) := by decide +kernel
theorem dX3_make_158 : decode cX3_make 158 = .ok (.iload 8, 2) := by decide +kernel
theorem dX3_make_160 : decode cX3_make 160 = .ok (.iload 4, 2) := by decide +kernel
theorem dX3_make_162 : decode cX3_make 162 = .ok (.if_icmp .ne 8, 3) := by decide +kernel
theorem dX3_make_165 : decode cX3_make 165 = .ok (.iload 5, 2) := by decide +kernel
theorem dX3_make_167 : decode cX3_make 167 = .ok (.goto 23, 3) := by decide +kernel
theorem dX3_make_170 : decode cX3_make 170 = .ok (.iload_n 2, 1) := by decide +kernel
theorem dX3_make_171 : decode cX3_make 171 = .ok (.iconst (-1), 1) := by decide +kernel
theorem dX3_make_172 : decode cX3_make 172 = .ok (.if_icmp .ne 7, 3) := by decide +kernel
theorem dX3_make_175 : decode cX3_make 175 = .ok (.iconst (-1), 1) := by decide +kernel
theorem dX3_make_176 : decode cX3_make 176 = .ok (.goto 14, 3) := by decide +kernel
theorem dX3_make_179 : decode cX3_make 179 = .ok (.aload_n 0, 1) := by decide +kernel
theorem dX3_make_180 : decode cX3_make 180 = .ok (.getfield 16, 3) := by decide +kernel
theorem dX3_make_183 : decode cX3_make 183 = .ok (.iconst 4, 1) := by decide +kernel
theorem dX3_make_184 : decode cX3_make 184 = .ok (.iload_n 2, 1) := by decide +kernel
theorem dX3_make_185 : decode cX3_make 185 = .ok (.imul, 1) := by decide +kernel
theorem dX3_make_186 : decode cX3_make 186 = .ok (.iload 8, 2) := by decide +kernel
theorem dX3_make_188 : decode cX3_make 188 = .ok (.iadd, 1) := by decide +kernel
theorem dX3_make_189 : decode cX3_make 189 = .ok (.iaload, 1) := by decide +kernel
theorem dX3_make_190 : decode cX3_make 190 = .ok (.iastore, 1) := by decide +kernel
theorem dX3_make_191 : decode cX3_make 191 = .ok (.iinc 8 1, 3) := by decide +kernel
theorem dX3_make_194 : decode cX3_make 194 = .ok (.goto (-55), 3) := by decide +kernel
theorem dX3_make_197 : decode cX3_make 197 = .ok (.aload_n 0, 1) := by decide +kernel
theorem dX3_make_198 : decode cX3_make 198 = .ok (.getfield 19, 3) := by decide +kernel
theorem dX3_make_201 : decode cX3_make 201 = .ok (.bipush 60, 2) := by decide +kernel
theorem dX3_make_203 : decode cX3_make 203 = .ok (.iload_n 1, 1) := by decide +kernel
theorem dX3_make_204 : decode cX3_make 204 = .ok (.imul, 1) := by decide +kernel
theorem dX3_make_205 : decode cX3_make 205 = .ok (.aload_n 0, 1) := by decide +kernel
theorem dX3_make_206 : decode cX3_make 206 = .ok (.getfield 61, 3) := by decide +kernel
theorem dX3_make_209 : decode cX3_make 209 = .ok (.iadd, 1) := by decide +kernel
theorem dX3_make_210 : decode cX3_make 210 = .ok (.iconst 1, 1) := by decide +kernel
theorem dX3_make_211 : decode cX3_make 211 = .ok (.bastore, 1) := by decide +kernel
theorem dX3_make_212 : decode cX3_make 212 = .ok (.iload 5, 2) := by decide +kernel
theorem dX3_make_214 : decode cX3_make 214 = .ok (.iconst (-1), 1) := by decide +kernel
theorem dX3_make_215 : decode cX3_make 215 = .ok (.if_icmp .eq 16, 3) := by decide +kernel
theorem dX3_make_218 : decode cX3_make 218 = .ok (.aload_n 0, 1) := by decide +kernel
theorem dX3_make_219 : decode cX3_make 219 = .ok (.getfield 23, 3) := by decide +kernel
theorem dX3_make_222 : decode cX3_make 222 = .ok (.bipush 100, 2) := by decide +kernel
theorem dX3_make_224 : decode cX3_make 224 = .ok (.iload_n 1, 1) := by decide +kernel
theorem dX3_make_225 : decode cX3_make 225 = .ok (.imul, 1) := by decide +kernel
theorem dX3_make_226 : decode cX3_make 226 = .ok (.iload 5, 2) := by decide +kernel
theorem dX3_make_228 : decode cX3_make 228 = .ok (.iadd, 1) := by decide +kernel
theorem dX3_make_229 : decode cX3_make 229 = .ok (.iconst 1, 1) := by decide +kernel
theorem dX3_make_230 : decode cX3_make 230 = .ok (.bastore, 1) := by decide +kernel
theorem dX3_make_231 : decode cX3_make 231 = .ok (.aload_n 0, 1) := by decide +kernel
theorem dX3_make_232 : decode cX3_make 232 = .ok (.dup, 1) := by decide +kernel
theorem dX3_make_233 : decode cX3_make 233 = .ok (.getfield 61, 3) := by decide +kernel
theorem dX3_make_236 : decode cX3_make 236 = .ok (.iconst 1, 1) := by decide +kernel
theorem dX3_make_237 : decode cX3_make 237 = .ok (.iadd, 1) := by decide +kernel
theorem dX3_make_238 : decode cX3_make 238 = .ok (.putfield 61, 3) := by decide +kernel
theorem dX3_make_241 : decode cX3_make 241 = .ok (.aload_n 0, 1) := by decide +kernel
theorem dX3_make_242 : decode cX3_make 242 = .ok (.getfield 61, 3) := by decide +kernel
theorem dX3_make_245 : decode cX3_make 245 = .ok (.iconst 1, 1) := by decide +kernel
theorem dX3_make_246 : decode cX3_make 246 = .ok (.isub, 1) := by decide +kernel
theorem dX3_make_247 : decode cX3_make 247 = .ok (.ireturn, 1) := by decide +kernel
set_option maxRecDepth 20000 in
theorem ggX3_setRef_X3_isStore : GoodIn wsX3_setRef wsX3_isStore := goodIn_r _ [5, 6, 7, 4, 8] (by decide +kernel) (by decide +kernel)
set_option maxRecDepth 20000 in
theorem gX3_setRef_X3_isStore : GoodIn wsX3_setRef (va_wsS RX3 72 yX3_isStore wsX3_isStore) := goodIn_app (goodIn_of _ (by decide +kernel)) ggX3_setRef_X3_isStore
set_option maxRecDepth 20000 in
theorem ggX3_setRef_X3_isRef : GoodIn wsX3_setRef wsX3_isRef := goodIn_r _ [11, 6, 7, 4, 8] (by decide +kernel) (by decide +kernel)
set_option maxRecDepth 20000 in
theorem gX3_setRef_X3_isRef : GoodIn wsX3_setRef (va_wsS RX3 81 yX3_isRef wsX3_isRef) := goodIn_app (goodIn_of _ (by decide +kernel)) ggX3_setRef_X3_isRef
set_option maxRecDepth 20000 in
theorem ggX3_setRef_X3_isInOrNone : GoodIn wsX3_setRef wsX3_isInOrNone := goodIn_r _ [15, 16, 17, 18, 4, 19, 20, 21, 22, 23, 24, 25, 6, 7, 8, 31, 32, 33, 34, 35, 36, 37, 38, 39, 40, 41, 42, 43, 44, 45, 46, 47, 48] (by decide +kernel) (by decide +kernel)
set_option maxRecDepth 20000 in
theorem gX3_setRef_X3_isInOrNone : GoodIn wsX3_setRef (wsV RX3 75 RX3 yX3_isInOrNone wsX3_isInOrNone) := goodIn_app (goodIn_of _ (by decide +kernel)) ggX3_setRef_X3_isInOrNone
set_option maxRecDepth 20000 in
theorem ggX3_setRef_X3_refused : GoodIn wsX3_setRef wsX3_refused := goodIn_r _ [29, 30, 31, 32, 33, 34, 35, 36, 37, 38, 39, 40, 41, 42, 43, 44, 45, 46, 47, 48] (by decide +kernel) (by decide +kernel)
set_option maxRecDepth 20000 in
theorem gX3_setRef_X3_refused : GoodIn wsX3_setRef (wsV RX3 78 RX3 yX3_refused wsX3_refused) := goodIn_app (goodIn_of _ (by decide +kernel)) ggX3_setRef_X3_refused
theorem dX3_setRef_0 : decode cX3_setRef 0 = .ok (.iload_n 1, 1) := by decide +kernel
theorem dX3_setRef_1 : decode cX3_setRef 1 = .ok (.invokestatic 72, 3) := by decide +kernel
theorem dX3_setRef_4 : decode cX3_setRef 4 = .ok (.ifCond .eq 23, 3) := by decide +kernel
theorem dX3_setRef_7 : decode cX3_setRef 7 = .ok (.iload_n 2, 1) := by decide +kernel
theorem dX3_setRef_8 : decode cX3_setRef 8 = .ok (.invokestatic 81, 3) := by decide +kernel
theorem dX3_setRef_11 : decode cX3_setRef 11 = .ok (.ifCond .eq 16, 3) := by decide +kernel
theorem dX3_setRef_14 : decode cX3_setRef 14 = .ok (.aload_n 0, 1) := by decide +kernel
theorem dX3_setRef_15 : decode cX3_setRef 15 = .ok (.iload_n 1, 1) := by decide +kernel
theorem dX3_setRef_16 : decode cX3_setRef 16 = .ok (.iload_n 3, 1) := by decide +kernel
theorem dX3_setRef_17 : decode cX3_setRef 17 = .ok (.invokevirtual 75, 3) := by decide +kernel
theorem dX3_setRef_20 : decode cX3_setRef 20 = .ok (.ifCond .eq 7, 3) := by decide +kernel
theorem dX3_setRef_23 : decode cX3_setRef 23 = .ok (.iconst 1, 1) := by decide +kernel
theorem dX3_setRef_24 : decode cX3_setRef 24 = .ok (.goto 4, 3) := by decide +kernel
theorem dX3_setRef_27 : decode cX3_setRef 27 = .ok (.iconst 0, 1) := by decide +kernel
theorem dX3_setRef_28 : decode cX3_setRef 28 = .ok (.istore 4, 2) := by decide +kernel
theorem dX3_setRef_30 : decode cX3_setRef 30 = .ok (.aload_n 0, 1) := by decide +kernel
theorem dX3_setRef_31 : decode cX3_setRef 31 = .ok (.iload 4, 2) := by decide +kernel
theorem dX3_setRef_33 : decode cX3_setRef 33 = .ok (.ifCond .eq 7, 3) := by decide +kernel
theorem dX3_setRef_36 : decode cX3_setRef 36 = .ok (.iconst 0, 1) := by decide +kernel
theorem dX3_setRef_37 : decode cX3_setRef 37 = .ok (.goto 4, 3) := by decide +kernel
theorem dX3_setRef_40 : decode cX3_setRef 40 = .ok (.iconst 1, 1) := by decide +kernel
theorem dX3_setRef_41 : decode cX3_setRef 41 = .ok (.invokevirtual 78, 3) := by decide +kernel
theorem dX3_setRef_44 : decode cX3_setRef 44 = .ok (.ifCond .eq 5, 3) := by decide +kernel
theorem dX3_setRef_47 : decode cX3_setRef 47 = .ok (.iconst 0, 1) := by decide +kernel
theorem dX3_setRef_48 : decode cX3_setRef 48 = .ok (.ireturn, 1) := by decide +kernel
theorem dX3_setRef_49 : decode cX3_setRef 49 = .ok (.aload_n 0, 1) := by decide +kernel
theorem dX3_setRef_50 : decode cX3_setRef 50 = .ok (.getfield 26, 3) := by decide +kernel
theorem dX3_setRef_53 : decode cX3_setRef 53 = .ok (.iconst 4, 1) := by decide +kernel
theorem dX3_setRef_54 : decode cX3_setRef 54 = .ok (.iload_n 1, 1) := by decide +kernel
theorem dX3_setRef_55 : decode cX3_setRef 55 = .ok (.imul, 1) := by decide +kernel
theorem dX3_setRef_56 : decode cX3_setRef 56 = .ok (.iload_n 2, 1) := by decide +kernel
theorem dX3_setRef_57 : decode cX3_setRef 57 = .ok (.iadd, 1) := by decide +kernel
theorem dX3_setRef_58 : decode cX3_setRef 58 = .ok (.iaload, 1) := by decide +kernel
theorem dX3_setRef_59 : decode cX3_setRef 59 = .ok (.istore 5, 2) := by decide +kernel
theorem dX3_setRef_61 : decode cX3_setRef 61 = .ok (.aload_n 0, 1) := by decide +kernel
theorem dX3_setRef_62 : decode cX3_setRef 62 = .ok (.getfield 26, 3) := by decide +kernel
theorem dX3_setRef_65 : decode cX3_setRef 65 = .ok (.iconst 4, 1) := by decide +kernel
theorem dX3_setRef_66 : decode cX3_setRef 66 = .ok (.iload_n 1, 1) := by decide +kernel
theorem dX3_setRef_67 : decode cX3_setRef 67 = .ok (.imul, 1) := by decide +kernel
theorem dX3_setRef_68 : decode cX3_setRef 68 = .ok (.iload_n 2, 1) := by decide +kernel
theorem dX3_setRef_69 : decode cX3_setRef 69 = .ok (.iadd, 1) := by decide +kernel
theorem dX3_setRef_70 : decode cX3_setRef 70 = .ok (.iload_n 3, 1) := by decide +kernel
theorem dX3_setRef_71 : decode cX3_setRef 71 = .ok (.iastore, 1) := by decide +kernel
theorem dX3_setRef_72 : decode cX3_setRef 72 = .ok (.iload 5, 2) := by decide +kernel
theorem dX3_setRef_74 : decode cX3_setRef 74 = .ok (.ireturn, 1) := by decide +kernel
set_option maxRecDepth 20000 in
theorem ggX3_ref_X3_isStore : GoodIn wsX3_ref wsX3_isStore := goodIn_r _ [5, 6, 7, 4, 8] (by decide +kernel) (by decide +kernel)
set_option maxRecDepth 20000 in
theorem gX3_ref_X3_isStore : GoodIn wsX3_ref (va_wsS RX3 72 yX3_isStore wsX3_isStore) := goodIn_app (goodIn_of _ (by decide +kernel)) ggX3_ref_X3_isStore
set_option maxRecDepth 20000 in
theorem ggX3_ref_X3_isRef : GoodIn wsX3_ref wsX3_isRef := goodIn_r _ [11, 6, 7, 4, 8] (by decide +kernel) (by decide +kernel)
set_option maxRecDepth 20000 in
theorem gX3_ref_X3_isRef : GoodIn wsX3_ref (va_wsS RX3 81 yX3_isRef wsX3_isRef) := goodIn_app (goodIn_of _ (by decide +kernel)) ggX3_ref_X3_isRef
set_option maxRecDepth 20000 in
theorem ggX3_ref_X3_refused : GoodIn wsX3_ref wsX3_refused := goodIn_r _ [15, 16, 17, 18, 19, 20, 21, 22, 23, 24, 25, 26, 27, 28, 29, 30, 31, 32, 33, 34] (by decide +kernel) (by decide +kernel)
set_option maxRecDepth 20000 in
theorem gX3_ref_X3_refused : GoodIn wsX3_ref (wsV RX3 78 RX3 yX3_refused wsX3_refused) := goodIn_app (goodIn_of _ (by decide +kernel)) ggX3_ref_X3_refused
theorem dX3_ref_0 : decode cX3_ref 0 = .ok (.aload_n 0, 1) := by decide +kernel
theorem dX3_ref_1 : decode cX3_ref 1 = .ok (.iload_n 1, 1) := by decide +kernel
theorem dX3_ref_2 : decode cX3_ref 2 = .ok (.invokestatic 72, 3) := by decide +kernel
theorem dX3_ref_5 : decode cX3_ref 5 = .ok (.ifCond .eq 14, 3) := by decide +kernel
theorem dX3_ref_8 : decode cX3_ref 8 = .ok (.iload_n 2, 1) := by decide +kernel
theorem dX3_ref_9 : decode cX3_ref 9 = .ok (.invokestatic 81, 3) := by decide +kernel
theorem dX3_ref_12 : decode cX3_ref 12 = .ok (.ifCond .eq 7, 3) := by decide +kernel
theorem dX3_ref_15 : decode cX3_ref 15 = .ok (.iconst 0, 1) := by decide +kernel
theorem dX3_ref_16 : decode cX3_ref 16 = .ok (.goto 4, 3) := by decide +kernel
theorem dX3_ref_19 : decode cX3_ref 19 = .ok (.iconst 1, 1) := by decide +kernel
theorem dX3_ref_20 : decode cX3_ref 20 = .ok (.invokevirtual 78, 3) := by decide +kernel
theorem dX3_ref_23 : decode cX3_ref 23 = .ok (.ifCond .eq 7, 3) := by decide +kernel
theorem dX3_ref_26 : decode cX3_ref 26 = .ok (.iconst 0, 1) := by decide +kernel
theorem dX3_ref_27 : decode cX3_ref 27 = .ok (.goto 13, 3) := by decide +kernel
theorem dX3_ref_30 : decode cX3_ref 30 = .ok (.aload_n 0, 1) := by decide +kernel
theorem dX3_ref_31 : decode cX3_ref 31 = .ok (.getfield 26, 3) := by decide +kernel
theorem dX3_ref_34 : decode cX3_ref 34 = .ok (.iconst 4, 1) := by decide +kernel
theorem dX3_ref_35 : decode cX3_ref 35 = .ok (.iload_n 1, 1) := by decide +kernel
theorem dX3_ref_36 : decode cX3_ref 36 = .ok (.imul, 1) := by decide +kernel
theorem dX3_ref_37 : decode cX3_ref 37 = .ok (.iload_n 2, 1) := by decide +kernel
theorem dX3_ref_38 : decode cX3_ref 38 = .ok (.iadd, 1) := by decide +kernel
theorem dX3_ref_39 : decode cX3_ref 39 = .ok (.iaload, 1) := by decide +kernel
theorem dX3_ref_40 : decode cX3_ref 40 = .ok (.ireturn, 1) := by decide +kernel
set_option maxRecDepth 20000 in
theorem ggX3_fileAt_X3_isCommit : GoodIn wsX3_fileAt wsX3_isCommit := goodIn_r _ [6, 7, 8, 9, 5, 10, 16, 17, 18, 19, 20, 21, 22, 23, 24, 25, 26, 27, 28, 29, 30, 31, 32, 33] (by decide +kernel) (by decide +kernel)
set_option maxRecDepth 20000 in
theorem gX3_fileAt_X3_isCommit : GoodIn wsX3_fileAt (wsV RX3 64 RX3 yX3_isCommit wsX3_isCommit) := goodIn_app (goodIn_of _ (by decide +kernel)) ggX3_fileAt_X3_isCommit
set_option maxRecDepth 20000 in
theorem ggX3_fileAt_X3_in : GoodIn wsX3_fileAt wsX3_in := goodIn_r _ [10] (by decide +kernel) (by decide +kernel)
set_option maxRecDepth 20000 in
theorem gX3_fileAt_X3_in : GoodIn wsX3_fileAt (va_wsS RX3 57 yX3_in wsX3_in) := goodIn_app (goodIn_of _ (by decide +kernel)) ggX3_fileAt_X3_in
set_option maxRecDepth 20000 in
theorem ggX3_fileAt_X3_refused : GoodIn wsX3_fileAt wsX3_refused := goodIn_r _ [14, 15, 16, 17, 18, 19, 20, 21, 22, 23, 24, 25, 26, 27, 28, 29, 30, 31, 32, 33] (by decide +kernel) (by decide +kernel)
set_option maxRecDepth 20000 in
theorem gX3_fileAt_X3_refused : GoodIn wsX3_fileAt (wsV RX3 78 RX3 yX3_refused wsX3_refused) := goodIn_app (goodIn_of _ (by decide +kernel)) ggX3_fileAt_X3_refused
theorem dX3_fileAt_0 : decode cX3_fileAt 0 = .ok (.aload_n 0, 1) := by decide +kernel
theorem dX3_fileAt_1 : decode cX3_fileAt 1 = .ok (.aload_n 0, 1) := by decide +kernel
theorem dX3_fileAt_2 : decode cX3_fileAt 2 = .ok (.iload_n 1, 1) := by decide +kernel
theorem dX3_fileAt_3 : decode cX3_fileAt 3 = .ok (.invokevirtual 64, 3) := by decide +kernel
theorem dX3_fileAt_6 : decode cX3_fileAt 6 = .ok (.ifCond .eq 16, 3) := by decide +kernel
theorem dX3_fileAt_9 : decode cX3_fileAt 9 = .ok (.iload_n 2, 1) := by decide +kernel
theorem dX3_fileAt_10 : decode cX3_fileAt 10 = .ok (.iconst 0, 1) := by decide +kernel
theorem dX3_fileAt_11 : decode cX3_fileAt 11 = .ok (.iconst 3, 1) := by decide +kernel
theorem dX3_fileAt_12 : decode cX3_fileAt 12 = .ok (.invokestatic 57, 3) := by decide +kernel
theorem dX3_fileAt_15 : decode cX3_fileAt 15 = .ok (.ifCond .eq 7, 3) := by decide +kernel
theorem dX3_fileAt_18 : decode cX3_fileAt 18 = .ok (.iconst 0, 1) := by decide +kernel
theorem dX3_fileAt_19 : decode cX3_fileAt 19 = .ok (.goto 4, 3) := by decide +kernel
theorem dX3_fileAt_22 : decode cX3_fileAt 22 = .ok (.iconst 1, 1) := by decide +kernel
theorem dX3_fileAt_23 : decode cX3_fileAt 23 = .ok (.invokevirtual 78, 3) := by decide +kernel
theorem dX3_fileAt_26 : decode cX3_fileAt 26 = .ok (.ifCond .eq 7, 3) := by decide +kernel
theorem dX3_fileAt_29 : decode cX3_fileAt 29 = .ok (.iconst 0, 1) := by decide +kernel
theorem dX3_fileAt_30 : decode cX3_fileAt 30 = .ok (.goto 13, 3) := by decide +kernel
theorem dX3_fileAt_33 : decode cX3_fileAt 33 = .ok (.aload_n 0, 1) := by decide +kernel
theorem dX3_fileAt_34 : decode cX3_fileAt 34 = .ok (.getfield 16, 3) := by decide +kernel
theorem dX3_fileAt_37 : decode cX3_fileAt 37 = .ok (.iconst 4, 1) := by decide +kernel
theorem dX3_fileAt_38 : decode cX3_fileAt 38 = .ok (.iload_n 1, 1) := by decide +kernel
theorem dX3_fileAt_39 : decode cX3_fileAt 39 = .ok (.imul, 1) := by decide +kernel
theorem dX3_fileAt_40 : decode cX3_fileAt 40 = .ok (.iload_n 2, 1) := by decide +kernel
theorem dX3_fileAt_41 : decode cX3_fileAt 41 = .ok (.iadd, 1) := by decide +kernel
theorem dX3_fileAt_42 : decode cX3_fileAt 42 = .ok (.iaload, 1) := by decide +kernel
theorem dX3_fileAt_43 : decode cX3_fileAt 43 = .ok (.ireturn, 1) := by decide +kernel
set_option maxRecDepth 20000 in
theorem ggX3_lacksParent_X3_isIn : GoodIn wsX3_lacksParent wsX3_isIn := goodIn_r _ [7, 8, 9, 10, 11, 6, 12, 13, 14, 15, 16, 17, 18, 19, 20, 21, 22, 23, 24, 25, 26, 27, 28, 29, 30, 31, 32, 33, 34] (by decide +kernel) (by decide +kernel)
set_option maxRecDepth 20000 in
theorem gX3_lacksParent_X3_isIn : GoodIn wsX3_lacksParent (wsV RX3 68 RX3 yX3_isIn wsX3_isIn) := goodIn_app (goodIn_of _ (by decide +kernel)) ggX3_lacksParent_X3_isIn
theorem dX3_lacksParent_0 : decode cX3_lacksParent 0 = .ok (.aload_n 0, 1) := by decide +kernel
theorem dX3_lacksParent_1 : decode cX3_lacksParent 1 = .ok (.getfield 7, 3) := by decide +kernel
theorem dX3_lacksParent_4 : decode cX3_lacksParent 4 = .ok (.iload_n 2, 1) := by decide +kernel
theorem dX3_lacksParent_5 : decode cX3_lacksParent 5 = .ok (.iaload, 1) := by decide +kernel
theorem dX3_lacksParent_6 : decode cX3_lacksParent 6 = .ok (.iconst (-1), 1) := by decide +kernel
theorem dX3_lacksParent_7 : decode cX3_lacksParent 7 = .ok (.if_icmp .eq 17, 3) := by decide +kernel
theorem dX3_lacksParent_10 : decode cX3_lacksParent 10 = .ok (.aload_n 0, 1) := by decide +kernel
theorem dX3_lacksParent_11 : decode cX3_lacksParent 11 = .ok (.iload_n 1, 1) := by decide +kernel
theorem dX3_lacksParent_12 : decode cX3_lacksParent 12 = .ok (.aload_n 0, 1) := by decide +kernel
theorem dX3_lacksParent_13 : decode cX3_lacksParent 13 = .ok (.getfield 7, 3) := by decide +kernel
theorem dX3_lacksParent_16 : decode cX3_lacksParent 16 = .ok (.iload_n 2, 1) := by decide +kernel
theorem dX3_lacksParent_17 : decode cX3_lacksParent 17 = .ok (.iaload, 1) := by decide +kernel
theorem dX3_lacksParent_18 : decode cX3_lacksParent 18 = .ok (.invokevirtual 68, 3) := by decide +kernel
theorem dX3_lacksParent_21 : decode cX3_lacksParent 21 = .ok (.ifCond .eq 27, 3) := by decide +kernel
theorem dX3_lacksParent_24 : decode cX3_lacksParent 24 = .ok (.aload_n 0, 1) := by decide +kernel
theorem dX3_lacksParent_25 : decode cX3_lacksParent 25 = .ok (.getfield 13, 3) := by decide +kernel
theorem dX3_lacksParent_28 : decode cX3_lacksParent 28 = .ok (.iload_n 2, 1) := by decide +kernel
theorem dX3_lacksParent_29 : decode cX3_lacksParent 29 = .ok (.iaload, 1) := by decide +kernel
theorem dX3_lacksParent_30 : decode cX3_lacksParent 30 = .ok (.iconst (-1), 1) := by decide +kernel
