theorem dX3_push_76 : decode cX3_push 76 = .ok (.iload 4, 2) := by decide +kernel
theorem dX3_push_78 : decode cX3_push 78 = .ok (.baload, 1) := by decide +kernel
theorem dX3_push_79 : decode cX3_push 79 = .ok (.ifCond .eq 38, 3) := by decide +kernel
theorem dX3_push_82 : decode cX3_push 82 = .ok (.iload_n 2, 1) := by decide +kernel
theorem dX3_push_83 : decode cX3_push 83 = .ok (.aload_n 0, 1) := by decide +kernel
theorem dX3_push_84 : decode cX3_push 84 = .ok (.iconst 0, 1) := by decide +kernel
theorem dX3_push_85 : decode cX3_push 85 = .ok (.iload 4, 2) := by decide +kernel
theorem dX3_push_87 : decode cX3_push 87 = .ok (.invokevirtual 68, 3) := by decide +kernel
theorem dX3_push_90 : decode cX3_push 90 = .ok (.ifCond .eq 7, 3) := by decide +kernel
theorem dX3_push_93 : decode cX3_push 93 = .ok (.iconst 0, 1) := by decide +kernel
theorem dX3_push_94 : decode cX3_push 94 = .ok (.goto 4, 3) := by decide +kernel
theorem dX3_push_97 : decode cX3_push 97 = .ok (.iconst 1, 1) := by decide +kernel
theorem dX3_push_98 : decode cX3_push 98 = .ok (.iadd, 1) := by decide +kernel
theorem dX3_push_99 : decode cX3_push 99 = .ok (.istore_n 2, 1) := by decide +kernel
theorem dX3_push_100 : decode cX3_push 100 = .ok (.aload_n 0, 1) := by decide +kernel
theorem dX3_push_101 : decode cX3_push 101 = .ok (.getfield 19, 3) := by decide +kernel
theorem dX3_push_104 : decode cX3_push 104 = .ok (.iload 4, 2) := by decide +kernel
theorem dX3_push_106 : decode cX3_push 106 = .ok (.iconst 1, 1) := by decide +kernel
theorem dX3_push_107 : decode cX3_push 107 = .ok (.bastore, 1) := by decide +kernel
theorem dX3_push_108 : decode cX3_push 108 = .ok (.aload_n 0, 1) := by decide +kernel
theorem dX3_push_109 : decode cX3_push 109 = .ok (.iconst 1, 1) := by decide +kernel
theorem dX3_push_110 : decode cX3_push 110 = .ok (.iconst 0, 1) := by decide +kernel
theorem dX3_push_111 : decode cX3_push 111 = .ok (.iload 4, 2) := by decide +kernel
theorem dX3_push_113 : decode cX3_push 113 = .ok (.iconst 1, 1) := by decide +kernel
theorem dX3_push_114 : decode cX3_push 114 = .ok (.invokevirtual 123, 3) := by decide +kernel
theorem dX3_push_117 : decode cX3_push 117 = .ok (.iinc 4 1, 3) := by decide +kernel
theorem dX3_push_120 : decode cX3_push 120 = .ok (.goto (-57), 3) := by decide +kernel
theorem dX3_push_123 : decode cX3_push 123 = .ok (.aload_n 0, 1) := by decide +kernel
theorem dX3_push_124 : decode cX3_push 124 = .ok (.getfield 26, 3) := by decide +kernel
theorem dX3_push_127 : decode cX3_push 127 = .ok (.aload_n 0, 1) := by decide +kernel
theorem dX3_push_128 : decode cX3_push 128 = .ok (.getfield 32, 3) := by decide +kernel
theorem dX3_push_131 : decode cX3_push 131 = .ok (.iload_n 3, 1) := by decide +kernel
theorem dX3_push_132 : decode cX3_push 132 = .ok (.iaload, 1) := by decide +kernel
theorem dX3_push_133 : decode cX3_push 133 = .ok (.aload_n 0, 1) := by decide +kernel
theorem dX3_push_134 : decode cX3_push 134 = .ok (.getfield 38, 3) := by decide +kernel
theorem dX3_push_137 : decode cX3_push 137 = .ok (.iload_n 3, 1) := by decide +kernel
theorem dX3_push_138 : decode cX3_push 138 = .ok (.iaload, 1) := by decide +kernel
theorem dX3_push_139 : decode cX3_push 139 = .ok (.iastore, 1) := by decide +kernel
theorem dX3_push_140 : decode cX3_push 140 = .ok (.iinc 3 1, 3) := by decide +kernel
theorem dX3_push_143 : decode cX3_push 143 = .ok (.goto (-99), 3) := by decide +kernel
theorem dX3_push_146 : decode cX3_push 146 = .ok (.iload_n 2, 1) := by decide +kernel
theorem dX3_push_147 : decode cX3_push 147 = .ok (.ireturn, 1) := by decide +kernel
set_option maxRecDepth 20000 in
theorem ggX3_collect_X3_isStore : GoodIn wsX3_collect wsX3_isStore := goodIn_r _ [9, 10, 11, 8, 12] (by decide +kernel) (by decide +kernel)
set_option maxRecDepth 20000 in
theorem gX3_collect_X3_isStore : GoodIn wsX3_collect (va_wsS RX3 72 yX3_isStore wsX3_isStore) := goodIn_app (goodIn_of _ (by decide +kernel)) ggX3_collect_X3_isStore
set_option maxRecDepth 20000 in
theorem ggX3_collect_X3_refused : GoodIn wsX3_collect wsX3_refused := goodIn_r _ [16, 17, 53, 54, 55, 56, 57, 58, 59, 60, 61, 62, 63, 64, 65, 66, 67, 68, 69, 70] (by decide +kernel) (by decide +kernel)
set_option maxRecDepth 20000 in
theorem gX3_collect_X3_refused : GoodIn wsX3_collect (wsV RX3 78 RX3 yX3_refused wsX3_refused) := goodIn_app (goodIn_of _ (by decide +kernel)) ggX3_collect_X3_refused
set_option maxRecDepth 20000 in
theorem ggX3_collect_X3_clear : GoodIn wsX3_collect wsX3_clear := goodIn_r _ [21, 3, 53, 54, 55, 56, 57, 58, 59, 60, 61, 62, 63, 64, 65, 66, 67, 68, 69, 70] (by decide +kernel) (by decide +kernel)
set_option maxRecDepth 20000 in
theorem gX3_collect_X3_clear : GoodIn wsX3_collect (wsV RX3 94 RX3 yX3_clear wsX3_clear) := goodIn_app (goodIn_of _ (by decide +kernel)) ggX3_collect_X3_clear
set_option maxRecDepth 20000 in
theorem ggX3_collect_X3_mark : GoodIn wsX3_collect wsX3_mark := goodIn_r _ [25, 3, 26, 27, 28, 8, 29, 4, 30, 31, 32, 33, 2, 10, 11, 12, 53, 54, 55, 56, 57, 58, 59, 60, 61, 62, 63, 64, 65, 66, 67, 68, 69, 70] (by decide +kernel) (by decide +kernel)
set_option maxRecDepth 20000 in
theorem gX3_collect_X3_mark : GoodIn wsX3_collect (wsV RX3 90 RX3 yX3_mark wsX3_mark) := goodIn_app (goodIn_of _ (by decide +kernel)) ggX3_collect_X3_mark
set_option maxRecDepth 20000 in
theorem ggX3_collect_X3_markOn : GoodIn wsX3_collect wsX3_markOn := goodIn_r _ [37, 2, 3, 38, 39, 40, 41, 42, 8, 43, 26, 27, 28, 29, 4, 30, 31, 32, 33, 10, 11, 12, 44, 45, 46, 47, 22, 23, 24, 25, 53, 54, 55, 56, 57, 58, 59, 60, 61, 62, 63, 64, 65, 66, 67, 68, 69, 70] (by decide +kernel) (by decide +kernel)
set_option maxRecDepth 20000 in
theorem gX3_collect_X3_markOn : GoodIn wsX3_collect (wsV RX3 97 RX3 yX3_markOn wsX3_markOn) := goodIn_app (goodIn_of _ (by decide +kernel)) ggX3_collect_X3_markOn
set_option maxRecDepth 20000 in
theorem ggX3_collect_X3_isIn : GoodIn wsX3_collect wsX3_isIn := goodIn_r _ [29, 4, 30, 31, 32, 8, 33, 2, 10, 11, 12, 53, 54, 55, 56, 57, 58, 59, 60, 61, 62, 63, 64, 65, 66, 67, 68, 69, 70] (by decide +kernel) (by decide +kernel)
set_option maxRecDepth 20000 in
theorem gX3_collect_X3_isIn : GoodIn wsX3_collect (wsV RX3 68 RX3 yX3_isIn wsX3_isIn) := goodIn_app (goodIn_of _ (by decide +kernel)) ggX3_collect_X3_isIn
set_option maxRecDepth 20000 in
theorem ggX3_collect_X3_isNeeded : GoodIn wsX3_collect wsX3_isNeeded := goodIn_r _ [51, 2, 52, 26, 27, 28, 8, 29, 4, 30, 31, 32, 33, 10, 11, 12, 53, 54, 55, 56, 57, 58, 59, 60, 61, 62, 63, 64, 65, 66, 67, 68, 69, 70] (by decide +kernel) (by decide +kernel)
set_option maxRecDepth 20000 in
theorem gX3_collect_X3_isNeeded : GoodIn wsX3_collect (wsV RX3 131 RX3 yX3_isNeeded wsX3_isNeeded) := goodIn_app (goodIn_of _ (by decide +kernel)) ggX3_collect_X3_isNeeded
theorem dX3_collect_0 : decode cX3_collect 0 = .ok (.aload_n 0, 1) := by decide +kernel
theorem dX3_collect_1 : decode cX3_collect 1 = .ok (.iload_n 1, 1) := by decide +kernel
theorem dX3_collect_2 : decode cX3_collect 2 = .ok (.invokestatic 72, 3) := by decide +kernel
theorem dX3_collect_5 : decode cX3_collect 5 = .ok (.ifCond .eq 7, 3) := by decide +kernel
theorem dX3_collect_8 : decode cX3_collect 8 = .ok (.iconst 0, 1) := by decide +kernel
theorem dX3_collect_9 : decode cX3_collect 9 = .ok (.goto 4, 3) := by decide +kernel
theorem dX3_collect_12 : decode cX3_collect 12 = .ok (.iconst 1, 1) := by decide +kernel
theorem dX3_collect_13 : decode cX3_collect 13 = .ok (.invokevirtual 78, 3) := by decide +kernel
theorem dX3_collect_16 : decode cX3_collect 16 = .ok (.ifCond .eq 5, 3) := by decide +kernel
theorem dX3_collect_19 : decode cX3_collect 19 = .ok (.iconst 0, 1) := by decide +kernel
theorem dX3_collect_20 : decode cX3_collect 20 = .ok (.ireturn, 1) := by decide +kernel
theorem dX3_collect_21 : decode cX3_collect 21 = .ok (.aload_n 0, 1) := by decide +kernel
theorem dX3_collect_22 : decode cX3_collect 22 = .ok (.invokevirtual 94, 3) := by decide +kernel
theorem dX3_collect_25 : decode cX3_collect 25 = .ok (.iconst 0, 1) := by decide +kernel
theorem dX3_collect_26 : decode cX3_collect 26 = .ok (.istore_n 2, 1) := by decide +kernel
theorem dX3_collect_27 : decode cX3_collect 27 = .ok (.iload_n 2, 1) := by decide +kernel
theorem dX3_collect_28 : decode cX3_collect 28 = .ok (.iconst 4, 1) := by decide +kernel
theorem dX3_collect_29 : decode cX3_collect 29 = .ok (.if_icmp .ge 24, 3) := by decide +kernel
theorem dX3_collect_32 : decode cX3_collect 32 = .ok (.aload_n 0, 1) := by decide +kernel
theorem dX3_collect_33 : decode cX3_collect 33 = .ok (.iload_n 1, 1) := by decide +kernel
theorem dX3_collect_34 : decode cX3_collect 34 = .ok (.aload_n 0, 1) := by decide +kernel
theorem dX3_collect_35 : decode cX3_collect 35 = .ok (.getfield 26, 3) := by decide +kernel
theorem dX3_collect_38 : decode cX3_collect 38 = .ok (.iconst 4, 1) := by decide +kernel
theorem dX3_collect_39 : decode cX3_collect 39 = .ok (.iload_n 1, 1) := by decide +kernel
theorem dX3_collect_40 : decode cX3_collect 40 = .ok (.imul, 1) := by decide +kernel
theorem dX3_collect_41 : decode cX3_collect 41 = .ok (.iload_n 2, 1) := by decide +kernel
theorem dX3_collect_42 : decode cX3_collect 42 = .ok (.iadd, 1) := by decide +kernel
theorem dX3_collect_43 : decode cX3_collect 43 = .ok (.iaload, 1) := by decide +kernel
theorem dX3_collect_44 : decode cX3_collect 44 = .ok (.invokevirtual 90, 3) := by decide +kernel
theorem dX3_collect_47 : decode cX3_collect 47 = .ok (.iinc 2 1, 3) := by decide +kernel
theorem dX3_collect_50 : decode cX3_collect 50 = .ok (.goto (-23), 3) := by decide +kernel
theorem dX3_collect_53 : decode cX3_collect 53 = .ok (.aload_n 0, 1) := by decide +kernel
theorem dX3_collect_54 : decode cX3_collect 54 = .ok (.iload_n 1, 1) := by decide +kernel
theorem dX3_collect_55 : decode cX3_collect 55 = .ok (.invokevirtual 97, 3) := by decide +kernel
theorem dX3_collect_58 : decode cX3_collect 58 = .ok (.iconst 0, 1) := by decide +kernel
theorem dX3_collect_59 : decode cX3_collect 59 = .ok (.istore_n 2, 1) := by decide +kernel
theorem dX3_collect_60 : decode cX3_collect 60 = .ok (.iconst 0, 1) := by decide +kernel
theorem dX3_collect_61 : decode cX3_collect 61 = .ok (.istore_n 3, 1) := by decide +kernel
theorem dX3_collect_62 : decode cX3_collect 62 = .ok (.iload_n 3, 1) := by decide +kernel
theorem dX3_collect_63 : decode cX3_collect 63 = .ok (.aload_n 0, 1) := by decide +kernel
theorem dX3_collect_64 : decode cX3_collect 64 = .ok (.getfield 61, 3) := by decide +kernel
theorem dX3_collect_67 : decode cX3_collect 67 = .ok (.if_icmp .ge 52, 3) := by decide +kernel
theorem dX3_collect_70 : decode cX3_collect 70 = .ok (.iload_n 2, 1) := by decide +kernel
theorem dX3_collect_71 : decode cX3_collect 71 = .ok (.aload_n 0, 1) := by decide +kernel
theorem dX3_collect_72 : decode cX3_collect 72 = .ok (.iload_n 1, 1) := by decide +kernel
theorem dX3_collect_73 : decode cX3_collect 73 = .ok (.iload_n 3, 1) := by decide +kernel
theorem dX3_collect_74 : decode cX3_collect 74 = .ok (.invokevirtual 68, 3) := by decide +kernel
theorem dX3_collect_77 : decode cX3_collect 77 = .ok (.ifCond .eq 16, 3) := by decide +kernel
theorem dX3_collect_80 : decode cX3_collect 80 = .ok (.aload_n 0, 1) := by decide +kernel
theorem dX3_collect_81 : decode cX3_collect 81 = .ok (.getfield 41, 3) := by decide +kernel
theorem dX3_collect_84 : decode cX3_collect 84 = .ok (.iload_n 3, 1) := by decide +kernel
theorem dX3_collect_85 : decode cX3_collect 85 = .ok (.baload, 1) := by decide +kernel
theorem dX3_collect_86 : decode cX3_collect 86 = .ok (.ifCond .ne 7, 3) := by decide +kernel
theorem dX3_collect_89 : decode cX3_collect 89 = .ok (.iconst 1, 1) := by decide +kernel
theorem dX3_collect_90 : decode cX3_collect 90 = .ok (.goto 4, 3) := by decide +kernel
theorem dX3_collect_93 : decode cX3_collect 93 = .ok (.iconst 0, 1) := by decide +kernel
theorem dX3_collect_94 : decode cX3_collect 94 = .ok (.iadd, 1) := by decide +kernel
theorem dX3_collect_95 : decode cX3_collect 95 = .ok (.istore_n 2, 1) := by decide +kernel
theorem dX3_collect_96 : decode cX3_collect 96 = .ok (.aload_n 0, 1) := by decide +kernel
theorem dX3_collect_97 : decode cX3_collect 97 = .ok (.getfield 19, 3) := by decide +kernel
theorem dX3_collect_100 : decode cX3_collect 100 = .ok (.bipush 60, 2) := by decide +kernel
theorem dX3_collect_102 : decode cX3_collect 102 = .ok (.iload_n 1, 1) := by decide +kernel
theorem dX3_collect_103 : decode cX3_collect 103 = .ok (.imul, 1) := by decide +kernel
theorem dX3_collect_104 : decode cX3_collect 104 = .ok (.iload_n 3, 1) := by decide +kernel
theorem dX3_collect_105 : decode cX3_collect 105 = .ok (.iadd, 1) := by decide +kernel
theorem dX3_collect_106 : decode cX3_collect 106 = .ok (.aload_n 0, 1) := by decide +kernel
theorem dX3_collect_107 : decode cX3_collect 107 = .ok (.getfield 41, 3) := by decide +kernel
theorem dX3_collect_110 : decode cX3_collect 110 = .ok (.iload_n 3, 1) := by decide +kernel
theorem dX3_collect_111 : decode cX3_collect 111 = .ok (.baload, 1) := by decide +kernel
theorem dX3_collect_112 : decode cX3_collect 112 = .ok (.bastore, 1) := by decide +kernel
theorem dX3_collect_113 : decode cX3_collect 113 = .ok (.iinc 3 1, 3) := by decide +kernel
theorem dX3_collect_116 : decode cX3_collect 116 = .ok (.goto (-54), 3) := by decide +kernel
theorem dX3_collect_119 : decode cX3_collect 119 = .ok (.iconst 0, 1) := by decide +kernel
theorem dX3_collect_120 : decode cX3_collect 120 = .ok (.istore_n 3, 1) := by decide +kernel
theorem dX3_collect_121 : decode cX3_collect 121 = .ok (.iload_n 3, 1) := by decide +kernel
theorem dX3_collect_122 : decode cX3_collect 122 = .ok (.bipush 100, 2) := by decide +kernel
theorem dX3_collect_124 : decode cX3_collect 124 = .ok (.if_icmp .ge 48, 3) := by decide +kernel
theorem dX3_collect_127 : decode cX3_collect 127 = .ok (.aload_n 0, 1) := by decide +kernel
theorem dX3_collect_128 : decode cX3_collect 128 = .ok (.getfield 23, 3) := by decide +kernel
theorem dX3_collect_131 : decode cX3_collect 131 = .ok (.bipush 100, 2) := by decide +kernel
theorem dX3_collect_133 : decode cX3_collect 133 = .ok (.iload_n 1, 1) := by decide +kernel
theorem dX3_collect_134 : decode cX3_collect 134 = .ok (.imul, 1) := by decide +kernel
theorem dX3_collect_135 : decode cX3_collect 135 = .ok (.iload_n 3, 1) := by decide +kernel
theorem dX3_collect_136 : decode cX3_collect 136 = .ok (.iadd, 1) := by decide +kernel
theorem dX3_collect_137 : decode cX3_collect 137 = .ok (.aload_n 0, 1) := by decide +kernel
theorem dX3_collect_138 : decode cX3_collect 138 = .ok (.getfield 23, 3) := by decide +kernel
theorem dX3_collect_141 : decode cX3_collect 141 = .ok (.bipush 100, 2) := by decide +kernel
theorem dX3_collect_143 : decode cX3_collect 143 = .ok (.iload_n 1, 1) := by decide +kernel
theorem dX3_collect_144 : decode cX3_collect 144 = .ok (.imul, 1) := by decide +kernel
theorem dX3_collect_145 : decode cX3_collect 145 = .ok (.iload_n 3, 1) := by decide +kernel
theorem dX3_collect_146 : decode cX3_collect 146 = .ok (.iadd, 1) := by decide +kernel
theorem dX3_collect_147 : decode cX3_collect 147 = .ok (.baload, 1) := by decide +kernel
theorem dX3_collect_148 : decode cX3_collect 148 = .ok (.ifCond .eq 16, 3) := by decide +kernel
theorem dX3_collect_151 : decode cX3_collect 151 = .ok (.aload_n 0, 1) := by decide +kernel
theorem dX3_collect_152 : decode cX3_collect 152 = .ok (.iload_n 1, 1) := by decide +kernel
theorem dX3_collect_153 : decode cX3_collect 153 = .ok (.iload_n 3, 1) := by decide +kernel
theorem dX3_collect_154 : decode cX3_collect 154 = .ok (.invokevirtual 131, 3) := by decide +kernel
theorem dX3_collect_157 : decode cX3_collect 157 = .ok (.ifCond .eq 7, 3) := by decide +kernel
theorem dX3_collect_160 : decode cX3_collect 160 = .ok (.iconst 1, 1) := by decide +kernel
theorem dX3_collect_161 : decode cX3_collect 161 = .ok (.goto 4, 3) := by decide +kernel
theorem dX3_collect_164 : decode cX3_collect 164 = .ok (.iconst 0, 1) := by decide +kernel
theorem dX3_collect_165 : decode cX3_collect 165 = .ok (.bastore, 1) := by decide +kernel
theorem dX3_collect_166 : decode cX3_collect 166 = .ok (.iinc 3 1, 3) := by decide +kernel
theorem dX3_collect_169 : decode cX3_collect 169 = .ok (.goto (-48), 3) := by decide +kernel
theorem dX3_collect_172 : decode cX3_collect 172 = .ok (.iload_n 2, 1) := by decide +kernel
theorem dX3_collect_173 : decode cX3_collect 173 = .ok (.ireturn, 1) := by decide +kernel
set_option maxRecDepth 20000 in
theorem ggX3_commits_X3_fine : GoodIn wsX3_commits wsX3_fine := goodIn_r _ [6, 7, 8, 9, 10, 11, 12, 13, 14, 15, 16, 17, 18, 19, 20, 21, 22, 23, 24, 25] (by decide +kernel) (by decide +kernel)
set_option maxRecDepth 20000 in
theorem gX3_commits_X3_fine : GoodIn wsX3_commits (wsV RX3 127 RX3 yX3_fine wsX3_fine) := goodIn_app (goodIn_of _ (by decide +kernel)) ggX3_commits_X3_fine
theorem dX3_commits_0 : decode cX3_commits 0 = .ok (.aload_n 0, 1) := by decide +kernel
theorem dX3_commits_1 : decode cX3_commits 1 = .ok (.aload_n 0, 1) := by decide +kernel
theorem dX3_commits_2 : decode cX3_commits 2 = .ok (.getfield 61, 3) := by decide +kernel
theorem dX3_commits_5 : decode cX3_commits 5 = .ok (.invokevirtual 127, 3) := by decide +kernel
theorem dX3_commits_8 : decode cX3_commits 8 = .ok (.ireturn, 1) := by decide +kernel
set_option maxRecDepth 20000 in
theorem ggX3_has_X3_isStore : GoodIn wsX3_has wsX3_isStore := goodIn_r _ [4, 5, 6, 3, 7] (by decide +kernel) (by decide +kernel)
set_option maxRecDepth 20000 in
theorem gX3_has_X3_isStore : GoodIn wsX3_has (va_wsS RX3 72 yX3_isStore wsX3_isStore) := goodIn_app (goodIn_of _ (by decide +kernel)) ggX3_has_X3_isStore
set_option maxRecDepth 20000 in
theorem ggX3_has_X3_isCommit : GoodIn wsX3_has wsX3_isCommit := goodIn_r _ [11, 12, 5, 6, 3, 7, 23, 24, 25, 26, 27, 28, 29, 30, 31, 32, 33, 34, 35, 36, 37, 38, 39, 40] (by decide +kernel) (by decide +kernel)
set_option maxRecDepth 20000 in
theorem gX3_has_X3_isCommit : GoodIn wsX3_has (wsV RX3 64 RX3 yX3_isCommit wsX3_isCommit) := goodIn_app (goodIn_of _ (by decide +kernel)) ggX3_has_X3_isCommit
set_option maxRecDepth 20000 in
theorem ggX3_has_X3_refused : GoodIn wsX3_has wsX3_refused := goodIn_r _ [16, 17, 23, 24, 25, 26, 27, 28, 29, 30, 31, 32, 33, 34, 35, 36, 37, 38, 39, 40] (by decide +kernel) (by decide +kernel)
set_option maxRecDepth 20000 in
theorem gX3_has_X3_refused : GoodIn wsX3_has (wsV RX3 78 RX3 yX3_refused wsX3_refused) := goodIn_app (goodIn_of _ (by decide +kernel)) ggX3_has_X3_refused
set_option maxRecDepth 20000 in
theorem ggX3_has_X3_isIn : GoodIn wsX3_has wsX3_isIn := goodIn_r _ [21, 22, 8, 9, 10, 3, 11, 12, 5, 6, 7, 23, 24, 25, 26, 27, 28, 29, 30, 31, 32, 33, 34, 35, 36, 37, 38, 39, 40] (by decide +kernel) (by decide +kernel)
set_option maxRecDepth 20000 in
theorem gX3_has_X3_isIn : GoodIn wsX3_has (wsV RX3 68 RX3 yX3_isIn wsX3_isIn) := goodIn_app (goodIn_of _ (by decide +kernel)) ggX3_has_X3_isIn
theorem dX3_has_0 : decode cX3_has 0 = .ok (.aload_n 0, 1) := by decide +kernel
theorem dX3_has_1 : decode cX3_has 1 = .ok (.iload_n 1, 1) := by decide +kernel
theorem dX3_has_2 : decode cX3_has 2 = .ok (.invokestatic 72, 3) := by decide +kernel
theorem dX3_has_5 : decode cX3_has 5 = .ok (.ifCond .eq 15, 3) := by decide +kernel
theorem dX3_has_8 : decode cX3_has 8 = .ok (.aload_n 0, 1) := by decide +kernel
theorem dX3_has_9 : decode cX3_has 9 = .ok (.iload_n 2, 1) := by decide +kernel
theorem dX3_has_10 : decode cX3_has 10 = .ok (.invokevirtual 64, 3) := by decide +kernel
theorem dX3_has_13 : decode cX3_has 13 = .ok (.ifCond .eq 7, 3) := by decide +kernel
theorem dX3_has_16 : decode cX3_has 16 = .ok (.iconst 0, 1) := by decide +kernel
theorem dX3_has_17 : decode cX3_has 17 = .ok (.goto 4, 3) := by decide +kernel
theorem dX3_has_20 : decode cX3_has 20 = .ok (.iconst 1, 1) := by decide +kernel
theorem dX3_has_21 : decode cX3_has 21 = .ok (.invokevirtual 78, 3) := by decide +kernel
theorem dX3_has_24 : decode cX3_has 24 = .ok (.ifCond .ne 16, 3) := by decide +kernel
theorem dX3_has_27 : decode cX3_has 27 = .ok (.aload_n 0, 1) := by decide +kernel
theorem dX3_has_28 : decode cX3_has 28 = .ok (.iload_n 1, 1) := by decide +kernel
theorem dX3_has_29 : decode cX3_has 29 = .ok (.iload_n 2, 1) := by decide +kernel
theorem dX3_has_30 : decode cX3_has 30 = .ok (.invokevirtual 68, 3) := by decide +kernel
theorem dX3_has_33 : decode cX3_has 33 = .ok (.ifCond .eq 7, 3) := by decide +kernel
theorem dX3_has_36 : decode cX3_has 36 = .ok (.iconst 1, 1) := by decide +kernel
theorem dX3_has_37 : decode cX3_has 37 = .ok (.goto 4, 3) := by decide +kernel
theorem dX3_has_40 : decode cX3_has 40 = .ok (.iconst 0, 1) := by decide +kernel
theorem dX3_has_41 : decode cX3_has 41 = .ok (.ireturn, 1) := by decide +kernel
set_option maxRecDepth 20000 in
theorem ggX3_hasFile_X3_isStore : GoodIn wsX3_hasFile wsX3_isStore := goodIn_r _ [5, 6, 7, 4, 8] (by decide +kernel) (by decide +kernel)
set_option maxRecDepth 20000 in
theorem gX3_hasFile_X3_isStore : GoodIn wsX3_hasFile (va_wsS RX3 72 yX3_isStore wsX3_isStore) := goodIn_app (goodIn_of _ (by decide +kernel)) ggX3_hasFile_X3_isStore
set_option maxRecDepth 20000 in
theorem ggX3_hasFile_X3_in : GoodIn wsX3_hasFile wsX3_in := goodIn_r _ [8] (by decide +kernel) (by decide +kernel)
set_option maxRecDepth 20000 in
theorem gX3_hasFile_X3_in : GoodIn wsX3_hasFile (va_wsS RX3 57 yX3_in wsX3_in) := goodIn_app (goodIn_of _ (by decide +kernel)) ggX3_hasFile_X3_in
set_option maxRecDepth 20000 in
theorem ggX3_hasFile_X3_refused : GoodIn wsX3_hasFile wsX3_refused := goodIn_r _ [12, 13, 14, 15, 16, 17, 18, 19, 20, 21, 22, 23, 24, 25, 26, 27, 28, 29, 30, 31] (by decide +kernel) (by decide +kernel)
set_option maxRecDepth 20000 in
theorem gX3_hasFile_X3_refused : GoodIn wsX3_hasFile (wsV RX3 78 RX3 yX3_refused wsX3_refused) := goodIn_app (goodIn_of _ (by decide +kernel)) ggX3_hasFile_X3_refused
theorem dX3_hasFile_0 : decode cX3_hasFile 0 = .ok (.aload_n 0, 1) := by decide +kernel
theorem dX3_hasFile_1 : decode cX3_hasFile 1 = .ok (.iload_n 1, 1) := by decide +kernel
theorem dX3_hasFile_2 : decode cX3_hasFile 2 = .ok (.invokestatic 72, 3) := by decide +kernel
theorem dX3_hasFile_5 : decode cX3_hasFile 5 = .ok (.ifCond .ne 7, 3) := by decide +kernel
theorem dX3_hasFile_8 : decode cX3_hasFile 8 = .ok (.iconst 1, 1) := by decide +kernel
theorem dX3_hasFile_9 : decode cX3_hasFile 9 = .ok (.goto 18, 3) := by decide +kernel
theorem dX3_hasFile_12 : decode cX3_hasFile 12 = .ok (.iload_n 2, 1) := by decide +kernel
theorem dX3_hasFile_13 : decode cX3_hasFile 13 = .ok (.iconst 0, 1) := by decide +kernel
theorem dX3_hasFile_14 : decode cX3_hasFile 14 = .ok (.bipush 99, 2) := by decide +kernel
theorem dX3_hasFile_16 : decode cX3_hasFile 16 = .ok (.invokestatic 57, 3) := by decide +kernel
theorem dX3_hasFile_19 : decode cX3_hasFile 19 = .ok (.ifCond .eq 7, 3) := by decide +kernel
theorem dX3_hasFile_22 : decode cX3_hasFile 22 = .ok (.iconst 0, 1) := by decide +kernel
theorem dX3_hasFile_23 : decode cX3_hasFile 23 = .ok (.goto 4, 3) := by decide +kernel
theorem dX3_hasFile_26 : decode cX3_hasFile 26 = .ok (.iconst 2, 1) := by decide +kernel
theorem dX3_hasFile_27 : decode cX3_hasFile 27 = .ok (.invokevirtual 78, 3) := by decide +kernel
theorem dX3_hasFile_30 : decode cX3_hasFile 30 = .ok (.ifCond .ne 21, 3) := by decide +kernel
theorem dX3_hasFile_33 : decode cX3_hasFile 33 = .ok (.aload_n 0, 1) := by decide +kernel
theorem dX3_hasFile_34 : decode cX3_hasFile 34 = .ok (.getfield 23, 3) := by decide +kernel
theorem dX3_hasFile_37 : decode cX3_hasFile 37 = .ok (.bipush 100, 2) := by decide +kernel
theorem dX3_hasFile_39 : decode cX3_hasFile 39 = .ok (.iload_n 1, 1) := by decide +kernel
theorem dX3_hasFile_40 : decode cX3_hasFile 40 = .ok (.imul, 1) := by decide +kernel
theorem dX3_hasFile_41 : decode cX3_hasFile 41 = .ok (.iload_n 2, 1) := by decide +kernel
theorem dX3_hasFile_42 : decode cX3_hasFile 42 = .ok (.iadd, 1) := by decide +kernel
theorem dX3_hasFile_43 : decode cX3_hasFile 43 = .ok (.baload, 1) := by decide +kernel
theorem dX3_hasFile_44 : decode cX3_hasFile 44 = .ok (.ifCond .eq 7, 3) := by decide +kernel
theorem dX3_hasFile_47 : decode cX3_hasFile 47 = .ok (.iconst 1, 1) := by decide +kernel
theorem dX3_hasFile_48 : decode cX3_hasFile 48 = .ok (.goto 4, 3) := by decide +kernel
theorem dX3_hasFile_51 : decode cX3_hasFile 51 = .ok (.iconst 0, 1) := by decide +kernel
theorem dX3_hasFile_52 : decode cX3_hasFile 52 = .ok (.ireturn, 1) := by decide +kernel
set_option maxRecDepth 20000 in
theorem ggX3_isShallow_X3_isCommit : GoodIn wsX3_isShallow wsX3_isCommit := goodIn_r _ [5, 6, 7, 8, 4, 9, 30, 31, 32, 33, 34, 35, 36, 37, 38, 39, 40, 41, 42, 43, 44, 45, 46, 47] (by decide +kernel) (by decide +kernel)
set_option maxRecDepth 20000 in
theorem gX3_isShallow_X3_isCommit : GoodIn wsX3_isShallow (wsV RX3 64 RX3 yX3_isCommit wsX3_isCommit) := goodIn_app (goodIn_of _ (by decide +kernel)) ggX3_isShallow_X3_isCommit
set_option maxRecDepth 20000 in
theorem ggX3_isShallow_X3_refused : GoodIn wsX3_isShallow wsX3_refused := goodIn_r _ [13, 14, 30, 31, 32, 33, 34, 35, 36, 37, 38, 39, 40, 41, 42, 43, 44, 45, 46, 47] (by decide +kernel) (by decide +kernel)
set_option maxRecDepth 20000 in
theorem gX3_isShallow_X3_refused : GoodIn wsX3_isShallow (wsV RX3 78 RX3 yX3_refused wsX3_refused) := goodIn_app (goodIn_of _ (by decide +kernel)) ggX3_isShallow_X3_refused
set_option maxRecDepth 20000 in
theorem ggX3_isShallow_X3_shallow : GoodIn wsX3_isShallow wsX3_shallow := goodIn_r _ [18, 19, 20, 21, 4, 22, 23, 1, 2, 3, 5, 6, 7, 8, 9, 24, 25, 26, 27, 28, 29, 30, 31, 32, 33, 34, 35, 36, 37, 38, 39, 40, 41, 42, 43, 44, 45, 46, 47] (by decide +kernel) (by decide +kernel)
set_option maxRecDepth 20000 in
theorem gX3_isShallow_X3_shallow : GoodIn wsX3_isShallow (wsV RX3 87 RX3 yX3_shallow wsX3_shallow) := goodIn_app (goodIn_of _ (by decide +kernel)) ggX3_isShallow_X3_shallow
theorem dX3_isShallow_0 : decode cX3_isShallow 0 = .ok (.aload_n 0, 1) := by decide +kernel
theorem dX3_isShallow_1 : decode cX3_isShallow 1 = .ok (.aload_n 0, 1) := by decide +kernel
theorem dX3_isShallow_2 : decode cX3_isShallow 2 = .ok (.iload_n 1, 1) := by decide +kernel
theorem dX3_isShallow_3 : decode cX3_isShallow 3 = .ok (.invokevirtual 64, 3) := by decide +kernel
theorem dX3_isShallow_6 : decode cX3_isShallow 6 = .ok (.ifCond .eq 7, 3) := by decide +kernel
theorem dX3_isShallow_9 : decode cX3_isShallow 9 = .ok (.iconst 0, 1) := by decide +kernel
theorem dX3_isShallow_10 : decode cX3_isShallow 10 = .ok (.goto 4, 3) := by decide +kernel
theorem dX3_isShallow_13 : decode cX3_isShallow 13 = .ok (.iconst 1, 1) := by decide +kernel
theorem dX3_isShallow_14 : decode cX3_isShallow 14 = .ok (.invokevirtual 78, 3) := by decide +kernel
theorem dX3_isShallow_17 : decode cX3_isShallow 17 = .ok (.ifCond .ne 15, 3) := by decide +kernel
theorem dX3_isShallow_20 : decode cX3_isShallow 20 = .ok (.aload_n 0, 1) := by decide +kernel
theorem dX3_isShallow_21 : decode cX3_isShallow 21 = .ok (.iload_n 1, 1) := by decide +kernel
theorem dX3_isShallow_22 : decode cX3_isShallow 22 = .ok (.invokevirtual 87, 3) := by decide +kernel
theorem dX3_isShallow_25 : decode cX3_isShallow 25 = .ok (.ifCond .eq 7, 3) := by decide +kernel
theorem dX3_isShallow_28 : decode cX3_isShallow 28 = .ok (.iconst 1, 1) := by decide +kernel
theorem dX3_isShallow_29 : decode cX3_isShallow 29 = .ok (.goto 4, 3) := by decide +kernel
theorem dX3_isShallow_32 : decode cX3_isShallow 32 = .ok (.iconst 0, 1) := by decide +kernel
theorem dX3_isShallow_33 : decode cX3_isShallow 33 = .ok (.ireturn, 1) := by decide +kernel
set_option maxRecDepth 20000 in
theorem ggX3_isAncestor_X3_isStore : GoodIn wsX3_isAncestor wsX3_isStore := goodIn_r _ [5, 6, 7, 4, 8] (by decide +kernel) (by decide +kernel)
set_option maxRecDepth 20000 in
theorem gX3_isAncestor_X3_isStore : GoodIn wsX3_isAncestor (va_wsS RX3 72 yX3_isStore wsX3_isStore) := goodIn_app (goodIn_of _ (by decide +kernel)) ggX3_isAncestor_X3_isStore
set_option maxRecDepth 20000 in
theorem ggX3_isAncestor_X3_isCommit : GoodIn wsX3_isAncestor wsX3_isCommit := goodIn_r _ [12, 13, 6, 7, 4, 8, 50, 51, 52, 53, 54, 55, 56, 57, 58, 59, 60, 61, 62, 63, 64, 65, 66, 67] (by decide +kernel) (by decide +kernel)
set_option maxRecDepth 20000 in
theorem gX3_isAncestor_X3_isCommit : GoodIn wsX3_isAncestor (wsV RX3 64 RX3 yX3_isCommit wsX3_isCommit) := goodIn_app (goodIn_of _ (by decide +kernel)) ggX3_isAncestor_X3_isCommit
set_option maxRecDepth 20000 in
theorem ggX3_isAncestor_X3_refused : GoodIn wsX3_isAncestor wsX3_refused := goodIn_r _ [17, 18, 50, 51, 52, 53, 54, 55, 56, 57, 58, 59, 60, 61, 62, 63, 64, 65, 66, 67] (by decide +kernel) (by decide +kernel)
set_option maxRecDepth 20000 in
theorem gX3_isAncestor_X3_refused : GoodIn wsX3_isAncestor (wsV RX3 78 RX3 yX3_refused wsX3_refused) := goodIn_app (goodIn_of _ (by decide +kernel)) ggX3_isAncestor_X3_refused
set_option maxRecDepth 20000 in
theorem ggX3_isAncestor_X3_markFrom : GoodIn wsX3_isAncestor wsX3_markFrom := goodIn_r _ [22, 23, 24, 25, 4, 26, 1, 27, 28, 29, 30, 31, 32, 33, 34, 35, 9, 10, 11, 12, 13, 6, 7, 8, 36, 37, 38, 39, 40, 41, 42, 43, 44, 45, 46, 47, 48, 49, 50, 51, 52, 53, 54, 55, 56, 57, 58, 59, 60, 61, 62, 63, 64, 65, 66, 67] (by decide +kernel) (by decide +kernel)
set_option maxRecDepth 20000 in
theorem gX3_isAncestor_X3_markFrom : GoodIn wsX3_isAncestor (wsV RX3 108 RX3 yX3_markFrom wsX3_markFrom) := goodIn_app (goodIn_of _ (by decide +kernel)) ggX3_isAncestor_X3_markFrom
theorem dX3_isAncestor_0 : decode cX3_isAncestor 0 = .ok (.iload_n 1, 1) := by decide +kernel
theorem dX3_isAncestor_1 : decode cX3_isAncestor 1 = .ok (.invokestatic 72, 3) := by decide +kernel
theorem dX3_isAncestor_4 : decode cX3_isAncestor 4 = .ok (.ifCond .eq 23, 3) := by decide +kernel
theorem dX3_isAncestor_7 : decode cX3_isAncestor 7 = .ok (.aload_n 0, 1) := by decide +kernel
theorem dX3_isAncestor_8 : decode cX3_isAncestor 8 = .ok (.iload_n 2, 1) := by decide +kernel
theorem dX3_isAncestor_9 : decode cX3_isAncestor 9 = .ok (.invokevirtual 64, 3) := by decide +kernel
theorem dX3_isAncestor_12 : decode cX3_isAncestor 12 = .ok (.ifCond .eq 15, 3) := by decide +kernel
theorem dX3_isAncestor_15 : decode cX3_isAncestor 15 = .ok (.aload_n 0, 1) := by decide +kernel
theorem dX3_isAncestor_16 : decode cX3_isAncestor 16 = .ok (.iload_n 3, 1) := by decide +kernel
theorem dX3_isAncestor_17 : decode cX3_isAncestor 17 = .ok (.invokevirtual 64, 3) := by decide +kernel
theorem dX3_isAncestor_20 : decode cX3_isAncestor 20 = .ok (.ifCond .eq 7, 3) := by decide +kernel
theorem dX3_isAncestor_23 : decode cX3_isAncestor 23 = .ok (.iconst 1, 1) := by decide +kernel
theorem dX3_isAncestor_24 : decode cX3_isAncestor 24 = .ok (.goto 4, 3) := by decide +kernel
theorem dX3_isAncestor_27 : decode cX3_isAncestor 27 = .ok (.iconst 0, 1) := by decide +kernel
theorem dX3_isAncestor_28 : decode cX3_isAncestor 28 = .ok (.istore 4, 2) := by decide +kernel
theorem dX3_isAncestor_30 : decode cX3_isAncestor 30 = .ok (.aload_n 0, 1) := by decide +kernel
theorem dX3_isAncestor_31 : decode cX3_isAncestor 31 = .ok (.iload 4, 2) := by decide +kernel
theorem dX3_isAncestor_33 : decode cX3_isAncestor 33 = .ok (.ifCond .eq 7, 3) := by decide +kernel
theorem dX3_isAncestor_36 : decode cX3_isAncestor 36 = .ok (.iconst 0, 1) := by decide +kernel
theorem dX3_isAncestor_37 : decode cX3_isAncestor 37 = .ok (.goto 4, 3) := by decide +kernel
theorem dX3_isAncestor_40 : decode cX3_isAncestor 40 = .ok (.iconst 1, 1) := by decide +kernel
theorem dX3_isAncestor_41 : decode cX3_isAncestor 41 = .ok (.invokevirtual 78, 3) := by decide +kernel
theorem dX3_isAncestor_44 : decode cX3_isAncestor 44 = .ok (.ifCond .eq 5, 3) := by decide +kernel
theorem dX3_isAncestor_47 : decode cX3_isAncestor 47 = .ok (.iconst 0, 1) := by decide +kernel
theorem dX3_isAncestor_48 : decode cX3_isAncestor 48 = .ok (.ireturn, 1) := by decide +kernel
theorem dX3_isAncestor_49 : decode cX3_isAncestor 49 = .ok (.aload_n 0, 1) := by decide +kernel
theorem dX3_isAncestor_50 : decode cX3_isAncestor 50 = .ok (.iload_n 1, 1) := by decide +kernel
theorem dX3_isAncestor_51 : decode cX3_isAncestor 51 = .ok (.iload_n 3, 1) := by decide +kernel
theorem dX3_isAncestor_52 : decode cX3_isAncestor 52 = .ok (.invokevirtual 108, 3) := by decide +kernel
theorem dX3_isAncestor_55 : decode cX3_isAncestor 55 = .ok (.aload_n 0, 1) := by decide +kernel
theorem dX3_isAncestor_56 : decode cX3_isAncestor 56 = .ok (.getfield 41, 3) := by decide +kernel
theorem dX3_isAncestor_59 : decode cX3_isAncestor 59 = .ok (.iload_n 2, 1) := by decide +kernel
theorem dX3_isAncestor_60 : decode cX3_isAncestor 60 = .ok (.baload, 1) := by decide +kernel
theorem dX3_isAncestor_61 : decode cX3_isAncestor 61 = .ok (.ireturn, 1) := by decide +kernel
