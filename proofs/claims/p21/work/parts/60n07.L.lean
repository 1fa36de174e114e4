theorem dL_pushed_2 : decode cL_pushed 2 = .ok (.irem, 1) := by decide +kernel
theorem dL_pushed_3 : decode cL_pushed 3 = .ok (.istore_n 3, 1) := by decide +kernel
theorem dL_pushed_4 : decode cL_pushed 4 = .ok (.aload_n 0, 1) := by decide +kernel
theorem dL_pushed_5 : decode cL_pushed 5 = .ok (.iconst 1, 1) := by decide +kernel
theorem dL_pushed_6 : decode cL_pushed 6 = .ok (.iconst 0, 1) := by decide +kernel
theorem dL_pushed_7 : decode cL_pushed 7 = .ok (.invokestatic 122, 3) := by decide +kernel
theorem dL_pushed_10 : decode cL_pushed 10 = .ok (.istore 4, 2) := by decide +kernel
theorem dL_pushed_12 : decode cL_pushed 12 = .ok (.iconst 1, 1) := by decide +kernel
theorem dL_pushed_13 : decode cL_pushed 13 = .ok (.istore 5, 2) := by decide +kernel
theorem dL_pushed_15 : decode cL_pushed 15 = .ok (.aload_n 0, 1) := by decide +kernel
theorem dL_pushed_16 : decode cL_pushed 16 = .ok (.invokevirtual 71, 3) := by decide +kernel
theorem dL_pushed_19 : decode cL_pushed 19 = .ok (.bipush 60, 2) := by decide +kernel
theorem dL_pushed_21 : decode cL_pushed 21 = .ok (.if_icmp .ge 208, 3) := by decide +kernel
theorem dL_pushed_24 : decode cL_pushed 24 = .ok (.aload_n 0, 1) := by decide +kernel
theorem dL_pushed_25 : decode cL_pushed 25 = .ok (.invokevirtual 125, 3) := by decide +kernel
theorem dL_pushed_28 : decode cL_pushed 28 = .ok (.istore 6, 2) := by decide +kernel
theorem dL_pushed_30 : decode cL_pushed 30 = .ok (.iload 6, 2) := by decide +kernel
theorem dL_pushed_32 : decode cL_pushed 32 = .ok (.bipush (-4), 2) := by decide +kernel
theorem dL_pushed_34 : decode cL_pushed 34 = .ok (.if_icmp .lt 16, 3) := by decide +kernel
theorem dL_pushed_37 : decode cL_pushed 37 = .ok (.aload_n 0, 1) := by decide +kernel
theorem dL_pushed_38 : decode cL_pushed 38 = .ok (.iload_n 3, 1) := by decide +kernel
theorem dL_pushed_39 : decode cL_pushed 39 = .ok (.iconst 0, 1) := by decide +kernel
theorem dL_pushed_40 : decode cL_pushed 40 = .ok (.invokestatic 102, 3) := by decide +kernel
theorem dL_pushed_43 : decode cL_pushed 43 = .ok (.ifCond .lt 7, 3) := by decide +kernel
theorem dL_pushed_46 : decode cL_pushed 46 = .ok (.iconst 1, 1) := by decide +kernel
theorem dL_pushed_47 : decode cL_pushed 47 = .ok (.goto 4, 3) := by decide +kernel
theorem dL_pushed_50 : decode cL_pushed 50 = .ok (.iconst 0, 1) := by decide +kernel
theorem dL_pushed_51 : decode cL_pushed 51 = .ok (.istore 5, 2) := by decide +kernel
theorem dL_pushed_53 : decode cL_pushed 53 = .ok (.aload_n 0, 1) := by decide +kernel
theorem dL_pushed_54 : decode cL_pushed 54 = .ok (.iconst 1, 1) := by decide +kernel
theorem dL_pushed_55 : decode cL_pushed 55 = .ok (.iconst (-1), 1) := by decide +kernel
theorem dL_pushed_56 : decode cL_pushed 56 = .ok (.iconst (-1), 1) := by decide +kernel
theorem dL_pushed_57 : decode cL_pushed 57 = .ok (.iconst 2, 1) := by decide +kernel
theorem dL_pushed_58 : decode cL_pushed 58 = .ok (.bipush 7, 2) := by decide +kernel
theorem dL_pushed_60 : decode cL_pushed 60 = .ok (.invokestatic 75, 3) := by decide +kernel
theorem dL_pushed_63 : decode cL_pushed 63 = .ok (.istore 7, 2) := by decide +kernel
theorem dL_pushed_65 : decode cL_pushed 65 = .ok (.aload_n 0, 1) := by decide +kernel
theorem dL_pushed_66 : decode cL_pushed 66 = .ok (.iconst 0, 1) := by decide +kernel
theorem dL_pushed_67 : decode cL_pushed 67 = .ok (.iload_n 3, 1) := by decide +kernel
theorem dL_pushed_68 : decode cL_pushed 68 = .ok (.invokestatic 85, 3) := by decide +kernel
theorem dL_pushed_71 : decode cL_pushed 71 = .ok (.istore 8, 2) := by decide +kernel
theorem dL_pushed_73 : decode cL_pushed 73 = .ok (.iload 5, 2) := by decide +kernel
theorem dL_pushed_75 : decode cL_pushed 75 = .ok (.ifCond .eq 151, 3) := by decide +kernel
theorem dL_pushed_78 : decode cL_pushed 78 = .ok (.iload 7, 2) := by decide +kernel
theorem dL_pushed_80 : decode cL_pushed 80 = .ok (.aload_n 0, 1) := by decide +kernel
theorem dL_pushed_81 : decode cL_pushed 81 = .ok (.invokevirtual 71, 3) := by decide +kernel
theorem dL_pushed_84 : decode cL_pushed 84 = .ok (.iconst 1, 1) := by decide +kernel
theorem dL_pushed_85 : decode cL_pushed 85 = .ok (.isub, 1) := by decide +kernel
theorem dL_pushed_86 : decode cL_pushed 86 = .ok (.if_icmp .ne 140, 3) := by decide +kernel
theorem dL_pushed_89 : decode cL_pushed 89 = .ok (.aload_n 0, 1) := by decide +kernel
theorem dL_pushed_90 : decode cL_pushed 90 = .ok (.iload_n 3, 1) := by decide +kernel
theorem dL_pushed_91 : decode cL_pushed 91 = .ok (.iload 8, 2) := by decide +kernel
theorem dL_pushed_93 : decode cL_pushed 93 = .ok (.iload 7, 2) := by decide +kernel
theorem dL_pushed_95 : decode cL_pushed 95 = .ok (.invokestatic 106, 3) := by decide +kernel
theorem dL_pushed_98 : decode cL_pushed 98 = .ok (.iconst 1, 1) := by decide +kernel
theorem dL_pushed_99 : decode cL_pushed 99 = .ok (.if_icmp .ne 127, 3) := by decide +kernel
theorem dL_pushed_102 : decode cL_pushed 102 = .ok (.aload_n 0, 1) := by decide +kernel
theorem dL_pushed_103 : decode cL_pushed 103 = .ok (.invokevirtual 125, 3) := by decide +kernel
theorem dL_pushed_106 : decode cL_pushed 106 = .ok (.iconst 1, 1) := by decide +kernel
theorem dL_pushed_107 : decode cL_pushed 107 = .ok (.if_icmp .ne 119, 3) := by decide +kernel
theorem dL_pushed_110 : decode cL_pushed 110 = .ok (.aload_n 0, 1) := by decide +kernel
theorem dL_pushed_111 : decode cL_pushed 111 = .ok (.iconst 0, 1) := by decide +kernel
theorem dL_pushed_112 : decode cL_pushed 112 = .ok (.iload_n 3, 1) := by decide +kernel
theorem dL_pushed_113 : decode cL_pushed 113 = .ok (.invokestatic 85, 3) := by decide +kernel
theorem dL_pushed_116 : decode cL_pushed 116 = .ok (.iload 7, 2) := by decide +kernel
theorem dL_pushed_118 : decode cL_pushed 118 = .ok (.if_icmp .ne 108, 3) := by decide +kernel
theorem dL_pushed_121 : decode cL_pushed 121 = .ok (.aload_n 0, 1) := by decide +kernel
theorem dL_pushed_122 : decode cL_pushed 122 = .ok (.iconst 0, 1) := by decide +kernel
theorem dL_pushed_123 : decode cL_pushed 123 = .ok (.iload 7, 2) := by decide +kernel
theorem dL_pushed_125 : decode cL_pushed 125 = .ok (.invokestatic 112, 3) := by decide +kernel
theorem dL_pushed_128 : decode cL_pushed 128 = .ok (.iconst 1, 1) := by decide +kernel
theorem dL_pushed_129 : decode cL_pushed 129 = .ok (.if_icmp .ne 97, 3) := by decide +kernel
theorem dL_pushed_132 : decode cL_pushed 132 = .ok (.aload_n 0, 1) := by decide +kernel
theorem dL_pushed_133 : decode cL_pushed 133 = .ok (.iconst 0, 1) := by decide +kernel
theorem dL_pushed_134 : decode cL_pushed 134 = .ok (.bipush 7, 2) := by decide +kernel
theorem dL_pushed_136 : decode cL_pushed 136 = .ok (.invokestatic 114, 3) := by decide +kernel
theorem dL_pushed_139 : decode cL_pushed 139 = .ok (.iconst 1, 1) := by decide +kernel
theorem dL_pushed_140 : decode cL_pushed 140 = .ok (.if_icmp .ne 86, 3) := by decide +kernel
theorem dL_pushed_143 : decode cL_pushed 143 = .ok (.aload_n 0, 1) := by decide +kernel
theorem dL_pushed_144 : decode cL_pushed 144 = .ok (.iload_n 3, 1) := by decide +kernel
theorem dL_pushed_145 : decode cL_pushed 145 = .ok (.iconst 0, 1) := by decide +kernel
theorem dL_pushed_146 : decode cL_pushed 146 = .ok (.invokestatic 95, 3) := by decide +kernel
theorem dL_pushed_149 : decode cL_pushed 149 = .ok (.ifCond .ne 77, 3) := by decide +kernel
theorem dL_pushed_152 : decode cL_pushed 152 = .ok (.aload_n 0, 1) := by decide +kernel
theorem dL_pushed_153 : decode cL_pushed 153 = .ok (.iload_n 3, 1) := by decide +kernel
theorem dL_pushed_154 : decode cL_pushed 154 = .ok (.iconst 0, 1) := by decide +kernel
theorem dL_pushed_155 : decode cL_pushed 155 = .ok (.iconst 1, 1) := by decide +kernel
theorem dL_pushed_156 : decode cL_pushed 156 = .ok (.invokestatic 91, 3) := by decide +kernel
theorem dL_pushed_159 : decode cL_pushed 159 = .ok (.ifCond .ne 67, 3) := by decide +kernel
theorem dL_pushed_162 : decode cL_pushed 162 = .ok (.aload_n 0, 1) := by decide +kernel
theorem dL_pushed_163 : decode cL_pushed 163 = .ok (.iconst 1, 1) := by decide +kernel
theorem dL_pushed_164 : decode cL_pushed 164 = .ok (.iload_n 3, 1) := by decide +kernel
theorem dL_pushed_165 : decode cL_pushed 165 = .ok (.invokestatic 85, 3) := by decide +kernel
theorem dL_pushed_168 : decode cL_pushed 168 = .ok (.iload 7, 2) := by decide +kernel
theorem dL_pushed_170 : decode cL_pushed 170 = .ok (.if_icmp .ne 56, 3) := by decide +kernel
theorem dL_pushed_173 : decode cL_pushed 173 = .ok (.aload_n 0, 1) := by decide +kernel
theorem dL_pushed_174 : decode cL_pushed 174 = .ok (.iload_n 3, 1) := by decide +kernel
theorem dL_pushed_175 : decode cL_pushed 175 = .ok (.iload 8, 2) := by decide +kernel
theorem dL_pushed_177 : decode cL_pushed 177 = .ok (.iload 7, 2) := by decide +kernel
theorem dL_pushed_179 : decode cL_pushed 179 = .ok (.invokestatic 106, 3) := by decide +kernel
theorem dL_pushed_182 : decode cL_pushed 182 = .ok (.iconst 1, 1) := by decide +kernel
theorem dL_pushed_183 : decode cL_pushed 183 = .ok (.if_icmp .ne 43, 3) := by decide +kernel
theorem dL_pushed_186 : decode cL_pushed 186 = .ok (.aload_n 0, 1) := by decide +kernel
theorem dL_pushed_187 : decode cL_pushed 187 = .ok (.invokevirtual 125, 3) := by decide +kernel
theorem dL_pushed_190 : decode cL_pushed 190 = .ok (.iload 8, 2) := by decide +kernel
theorem dL_pushed_192 : decode cL_pushed 192 = .ok (.iload 7, 2) := by decide +kernel
theorem dL_pushed_194 : decode cL_pushed 194 = .ok (.if_icmp .ne 7, 3) := by decide +kernel
theorem dL_pushed_197 : decode cL_pushed 197 = .ok (.iconst 0, 1) := by decide +kernel
theorem dL_pushed_198 : decode cL_pushed 198 = .ok (.goto 5, 3) := by decide +kernel
theorem dL_pushed_201 : decode cL_pushed 201 = .ok (.bipush (-2), 2) := by decide +kernel
theorem dL_pushed_203 : decode cL_pushed 203 = .ok (.if_icmp .ne 23, 3) := by decide +kernel
theorem dL_pushed_206 : decode cL_pushed 206 = .ok (.iload 4, 2) := by decide +kernel
theorem dL_pushed_208 : decode cL_pushed 208 = .ok (.ifCond .lt 14, 3) := by decide +kernel
theorem dL_pushed_211 : decode cL_pushed 211 = .ok (.aload_n 0, 1) := by decide +kernel
theorem dL_pushed_212 : decode cL_pushed 212 = .ok (.iconst 1, 1) := by decide +kernel
theorem dL_pushed_213 : decode cL_pushed 213 = .ok (.iload 4, 2) := by decide +kernel
theorem dL_pushed_215 : decode cL_pushed 215 = .ok (.invokestatic 112, 3) := by decide +kernel
theorem dL_pushed_218 : decode cL_pushed 218 = .ok (.iconst 1, 1) := by decide +kernel
theorem dL_pushed_219 : decode cL_pushed 219 = .ok (.if_icmp .ne 7, 3) := by decide +kernel
theorem dL_pushed_222 : decode cL_pushed 222 = .ok (.iconst 1, 1) := by decide +kernel
theorem dL_pushed_223 : decode cL_pushed 223 = .ok (.goto 4, 3) := by decide +kernel
theorem dL_pushed_226 : decode cL_pushed 226 = .ok (.iconst 0, 1) := by decide +kernel
theorem dL_pushed_227 : decode cL_pushed 227 = .ok (.istore 5, 2) := by decide +kernel
theorem dL_pushed_229 : decode cL_pushed 229 = .ok (.iload 5, 2) := by decide +kernel
theorem dL_pushed_231 : decode cL_pushed 231 = .ok (.ireturn, 1) := by decide +kernel
set_option maxRecDepth 20000 in
theorem ggL_ends_L_sets : GoodIn wsL_ends wsL_sets := goodIn_ca (goodIn_r _ [4, 5, 6, 7, 8, 9, 10, 11, 12, 13, 14, 15, 16, 17, 18, 19, 20, 21, 22, 23, 24, 25, 26, 27, 28, 29, 30, 31, 32, 33, 34, 35, 36, 37, 38, 39, 40, 41, 42, 43, 44, 164, 165, 166, 167, 168, 169, 170, 171, 172, 173, 174, 175] (by decide +kernel) (by decide +kernel)) (goodIn_sub (fun _ h => List.mem_cons_of_mem _ (List.mem_append_left _ (List.mem_append_right _ h))) (by decide +kernel))
set_option maxRecDepth 20000 in
theorem gL_ends_L_sets : GoodIn wsL_ends (va_wsS RL 81 yL_sets wsL_sets) := goodIn_app (goodIn_of _ (by decide +kernel)) ggL_ends_L_sets
set_option maxRecDepth 20000 in
theorem ggL_ends_L_collects : GoodIn wsL_ends wsL_collects := goodIn_ca (goodIn_r _ [47, 5, 6, 48, 49, 50, 10, 51, 52, 53, 12, 13, 14, 15, 16, 17, 18, 19, 54, 55, 56, 38, 57, 40, 33, 34, 58, 59, 60, 61, 62, 63, 64, 65, 66, 67, 68, 30, 31, 32, 69, 70, 71, 72, 73, 74, 75, 76, 77, 78, 79, 80, 81, 82, 83, 84, 85, 86, 87, 88, 89, 90, 91, 92, 93, 94, 95, 96, 97, 98, 99, 100, 101, 102, 103, 104, 105, 106, 107, 108, 164, 165, 166, 167, 168, 169, 170, 171, 172, 173, 174, 175, 176, 177, 178, 179, 180, 181] (by decide +kernel) (by decide +kernel)) (goodIn_sub (fun _ h => List.mem_cons_of_mem _ (List.mem_append_left _ (List.mem_append_right _ h))) (by decide +kernel))
set_option maxRecDepth 20000 in
theorem gL_ends_L_collects : GoodIn wsL_ends (va_wsS RL 109 yL_collects wsL_collects) := goodIn_app (goodIn_of _ (by decide +kernel)) ggL_ends_L_collects
set_option maxRecDepth 20000 in
theorem ggL_ends_X2_missing : GoodIn wsL_ends wsX2_missing := goodIn_r _ [112, 19, 52, 86, 87, 88, 61, 89, 90, 63, 30, 10, 31, 32, 33, 34, 91, 92, 93, 94, 95, 96, 97, 98, 99, 75, 76, 77, 78, 100, 101, 102, 103, 113, 114, 115, 38, 116, 108, 164, 165, 166, 167, 168, 169, 170, 171, 172, 173, 174, 175, 176, 177, 178, 179, 180, 181] (by decide +kernel) (by decide +kernel)
set_option maxRecDepth 20000 in
theorem gL_ends_X2_missing : GoodIn wsL_ends (wsV RL 128 RX2 yX2_missing wsX2_missing) := goodIn_app (goodIn_of _ (by decide +kernel)) ggL_ends_X2_missing
set_option maxRecDepth 20000 in
theorem ggL_ends_X2_commits : GoodIn wsL_ends wsX2_commits := goodIn_r _ [120, 52, 121, 122, 123, 61, 124, 63, 164, 165, 166, 167, 168, 169, 170, 171, 172, 176, 177, 178, 179, 180, 181] (by decide +kernel) (by decide +kernel)
set_option maxRecDepth 20000 in
theorem gL_ends_X2_commits : GoodIn wsL_ends (wsV RL 71 RX2 yX2_commits wsX2_commits) := goodIn_app (goodIn_of _ (by decide +kernel)) ggL_ends_X2_commits
set_option maxRecDepth 20000 in
theorem ggL_ends_L_has : GoodIn wsL_ends wsL_has := goodIn_ca (goodIn_r _ [127, 5, 6, 128, 129, 130, 10, 131, 12, 13, 14, 15, 16, 17, 18, 19, 132, 133, 134, 135, 52, 136, 76, 77, 61, 78, 63, 29, 30, 31, 32, 33, 34, 173, 174, 175, 164, 165, 166, 167, 168, 169, 170, 171, 172, 176, 177, 178, 179, 180, 181] (by decide +kernel) (by decide +kernel)) (goodIn_sub (fun _ h => List.mem_cons_of_mem _ (List.mem_append_left _ (List.mem_append_right _ h))) (by decide +kernel))
set_option maxRecDepth 20000 in
theorem gL_ends_L_has : GoodIn wsL_ends (va_wsS RL 112 yL_has wsL_has) := goodIn_app (goodIn_of _ (by decide +kernel)) ggL_ends_L_has
set_option maxRecDepth 20000 in
theorem ggL_ends_L_shallow : GoodIn wsL_ends wsL_shallow := goodIn_ca (goodIn_r _ [139, 5, 6, 140, 141, 142, 10, 143, 52, 19, 132, 133, 134, 135, 16, 17, 136, 76, 77, 61, 78, 63, 144, 66, 67, 68, 64, 30, 31, 32, 33, 34, 69, 70, 71, 72, 73, 74, 75, 29, 164, 165, 166, 167, 168, 169, 170, 171, 172, 173, 174, 175, 176, 177, 178, 179, 180, 181] (by decide +kernel) (by decide +kernel)) (goodIn_sub (fun _ h => List.mem_cons_of_mem _ (List.mem_append_left _ (List.mem_append_right _ h))) (by decide +kernel))
set_option maxRecDepth 20000 in
theorem gL_ends_L_shallow : GoodIn wsL_ends (va_wsS RL 116 yL_shallow wsL_shallow) := goodIn_app (goodIn_of _ (by decide +kernel)) ggL_ends_L_shallow
set_option maxRecDepth 20000 in
theorem ggL_ends_L_hasFile : GoodIn wsL_ends wsL_hasFile := goodIn_ca (goodIn_ca (goodIn_r _ [147, 5, 148, 6, 149, 150, 151, 152, 10, 153, 12, 13, 14, 15, 16, 17, 18, 19, 154, 155, 156, 157, 158, 159, 102, 103, 160, 161, 162, 38, 163, 108, 164, 165, 166, 167, 168, 169, 170, 171, 172, 173, 174, 175] (by decide +kernel) (by decide +kernel)) (goodIn_sub (fun _ h => List.mem_cons_of_mem _ (List.mem_append_left _ (List.mem_append_right _ h))) (by decide +kernel))) (goodIn_sub (fun _ h => List.mem_cons_of_mem _ (List.mem_append_right _ h)) (by decide +kernel))
set_option maxRecDepth 20000 in
theorem gL_ends_L_hasFile : GoodIn wsL_ends (va_wsS RL 114 yL_hasFile wsL_hasFile) := goodIn_app (goodIn_of _ (by decide +kernel)) ggL_ends_L_hasFile
theorem dL_ends_0 : decode cL_ends 0 = .ok (.iconst 1, 1) := by decide +kernel
theorem dL_ends_1 : decode cL_ends 1 = .ok (.istore_n 1, 1) := by decide +kernel
theorem dL_ends_2 : decode cL_ends 2 = .ok (.iconst 0, 1) := by decide +kernel
theorem dL_ends_3 : decode cL_ends 3 = .ok (.istore_n 2, 1) := by decide +kernel
theorem dL_ends_4 : decode cL_ends 4 = .ok (.iload_n 2, 1) := by decide +kernel
theorem dL_ends_5 : decode cL_ends 5 = .ok (.bipush 8, 2) := by decide +kernel
theorem dL_ends_7 : decode cL_ends 7 = .ok (.if_icmp .ge 34, 3) := by decide +kernel
theorem dL_ends_10 : decode cL_ends 10 = .ok (.iload_n 1, 1) := by decide +kernel
theorem dL_ends_11 : decode cL_ends 11 = .ok (.ifCond .eq 30, 3) := by decide +kernel
theorem dL_ends_14 : decode cL_ends 14 = .ok (.aload_n 0, 1) := by decide +kernel
theorem dL_ends_15 : decode cL_ends 15 = .ok (.iload_n 2, 1) := by decide +kernel
theorem dL_ends_16 : decode cL_ends 16 = .ok (.iconst 4, 1) := by decide +kernel
theorem dL_ends_17 : decode cL_ends 17 = .ok (.idiv, 1) := by decide +kernel
theorem dL_ends_18 : decode cL_ends 18 = .ok (.iload_n 2, 1) := by decide +kernel
theorem dL_ends_19 : decode cL_ends 19 = .ok (.iconst 4, 1) := by decide +kernel
theorem dL_ends_20 : decode cL_ends 20 = .ok (.irem, 1) := by decide +kernel
theorem dL_ends_21 : decode cL_ends 21 = .ok (.iconst (-1), 1) := by decide +kernel
theorem dL_ends_22 : decode cL_ends 22 = .ok (.invokestatic 81, 3) := by decide +kernel
theorem dL_ends_25 : decode cL_ends 25 = .ok (.iconst (-1), 1) := by decide +kernel
theorem dL_ends_26 : decode cL_ends 26 = .ok (.if_icmp .lt 7, 3) := by decide +kernel
theorem dL_ends_29 : decode cL_ends 29 = .ok (.iconst 1, 1) := by decide +kernel
theorem dL_ends_30 : decode cL_ends 30 = .ok (.goto 4, 3) := by decide +kernel
theorem dL_ends_33 : decode cL_ends 33 = .ok (.iconst 0, 1) := by decide +kernel
theorem dL_ends_34 : decode cL_ends 34 = .ok (.istore_n 1, 1) := by decide +kernel
theorem dL_ends_35 : decode cL_ends 35 = .ok (.iinc 2 1, 3) := by decide +kernel
theorem dL_ends_38 : decode cL_ends 38 = .ok (.goto (-34), 3) := by decide +kernel
theorem dL_ends_41 : decode cL_ends 41 = .ok (.iload_n 1, 1) := by decide +kernel
theorem dL_ends_42 : decode cL_ends 42 = .ok (.ifCond .eq 38, 3) := by decide +kernel
theorem dL_ends_45 : decode cL_ends 45 = .ok (.aload_n 0, 1) := by decide +kernel
theorem dL_ends_46 : decode cL_ends 46 = .ok (.iconst 0, 1) := by decide +kernel
theorem dL_ends_47 : decode cL_ends 47 = .ok (.invokestatic 109, 3) := by decide +kernel
theorem dL_ends_50 : decode cL_ends 50 = .ok (.ifCond .lt 30, 3) := by decide +kernel
theorem dL_ends_53 : decode cL_ends 53 = .ok (.aload_n 0, 1) := by decide +kernel
theorem dL_ends_54 : decode cL_ends 54 = .ok (.iconst 1, 1) := by decide +kernel
theorem dL_ends_55 : decode cL_ends 55 = .ok (.invokestatic 109, 3) := by decide +kernel
theorem dL_ends_58 : decode cL_ends 58 = .ok (.ifCond .lt 22, 3) := by decide +kernel
theorem dL_ends_61 : decode cL_ends 61 = .ok (.aload_n 0, 1) := by decide +kernel
theorem dL_ends_62 : decode cL_ends 62 = .ok (.iconst 0, 1) := by decide +kernel
theorem dL_ends_63 : decode cL_ends 63 = .ok (.invokestatic 109, 3) := by decide +kernel
theorem dL_ends_66 : decode cL_ends 66 = .ok (.ifCond .ne 14, 3) := by decide +kernel
theorem dL_ends_69 : decode cL_ends 69 = .ok (.aload_n 0, 1) := by decide +kernel
theorem dL_ends_70 : decode cL_ends 70 = .ok (.invokevirtual 128, 3) := by decide +kernel
theorem dL_ends_73 : decode cL_ends 73 = .ok (.ifCond .ne 7, 3) := by decide +kernel
theorem dL_ends_76 : decode cL_ends 76 = .ok (.iconst 1, 1) := by decide +kernel
theorem dL_ends_77 : decode cL_ends 77 = .ok (.goto 4, 3) := by decide +kernel
theorem dL_ends_80 : decode cL_ends 80 = .ok (.iconst 0, 1) := by decide +kernel
theorem dL_ends_81 : decode cL_ends 81 = .ok (.istore_n 1, 1) := by decide +kernel
theorem dL_ends_82 : decode cL_ends 82 = .ok (.iconst 0, 1) := by decide +kernel
theorem dL_ends_83 : decode cL_ends 83 = .ok (.istore_n 2, 1) := by decide +kernel
theorem dL_ends_84 : decode cL_ends 84 = .ok (.iload_n 2, 1) := by decide +kernel
theorem dL_ends_85 : decode cL_ends 85 = .ok (.aload_n 0, 1) := by decide +kernel
theorem dL_ends_86 : decode cL_ends 86 = .ok (.invokevirtual 71, 3) := by decide +kernel
theorem dL_ends_89 : decode cL_ends 89 = .ok (.if_icmp .ge 45, 3) := by decide +kernel
theorem dL_ends_92 : decode cL_ends 92 = .ok (.iload_n 1, 1) := by decide +kernel
theorem dL_ends_93 : decode cL_ends 93 = .ok (.ifCond .eq 41, 3) := by decide +kernel
theorem dL_ends_96 : decode cL_ends 96 = .ok (.aload_n 0, 1) := by decide +kernel
theorem dL_ends_97 : decode cL_ends 97 = .ok (.iconst 0, 1) := by decide +kernel
theorem dL_ends_98 : decode cL_ends 98 = .ok (.iload_n 2, 1) := by decide +kernel
theorem dL_ends_99 : decode cL_ends 99 = .ok (.invokestatic 112, 3) := by decide +kernel
theorem dL_ends_102 : decode cL_ends 102 = .ok (.ifCond .ne 24, 3) := by decide +kernel
theorem dL_ends_105 : decode cL_ends 105 = .ok (.aload_n 0, 1) := by decide +kernel
theorem dL_ends_106 : decode cL_ends 106 = .ok (.iconst 1, 1) := by decide +kernel
theorem dL_ends_107 : decode cL_ends 107 = .ok (.iload_n 2, 1) := by decide +kernel
theorem dL_ends_108 : decode cL_ends 108 = .ok (.invokestatic 112, 3) := by decide +kernel
theorem dL_ends_111 : decode cL_ends 111 = .ok (.ifCond .ne 15, 3) := by decide +kernel
theorem dL_ends_114 : decode cL_ends 114 = .ok (.aload_n 0, 1) := by decide +kernel
theorem dL_ends_115 : decode cL_ends 115 = .ok (.iload_n 2, 1) := by decide +kernel
theorem dL_ends_116 : decode cL_ends 116 = .ok (.invokestatic 116, 3) := by decide +kernel
theorem dL_ends_119 : decode cL_ends 119 = .ok (.ifCond .ne 7, 3) := by decide +kernel
theorem dL_ends_122 : decode cL_ends 122 = .ok (.iconst 1, 1) := by decide +kernel
theorem dL_ends_123 : decode cL_ends 123 = .ok (.goto 4, 3) := by decide +kernel
theorem dL_ends_126 : decode cL_ends 126 = .ok (.iconst 0, 1) := by decide +kernel
theorem dL_ends_127 : decode cL_ends 127 = .ok (.istore_n 1, 1) := by decide +kernel
theorem dL_ends_128 : decode cL_ends 128 = .ok (.iinc 2 1, 3) := by decide +kernel
theorem dL_ends_131 : decode cL_ends 131 = .ok (.goto (-47), 3) := by decide +kernel
theorem dL_ends_134 : decode cL_ends 134 = .ok (.iconst 0, 1) := by decide +kernel
theorem dL_ends_135 : decode cL_ends 135 = .ok (.istore_n 2, 1) := by decide +kernel
theorem dL_ends_136 : decode cL_ends 136 = .ok (.iload_n 2, 1) := by decide +kernel
theorem dL_ends_137 : decode cL_ends 137 = .ok (.bipush 30, 2) := by decide +kernel
theorem dL_ends_139 : decode cL_ends 139 = .ok (.if_icmp .ge 37, 3) := by decide +kernel
theorem dL_ends_142 : decode cL_ends 142 = .ok (.iload_n 1, 1) := by decide +kernel
theorem dL_ends_143 : decode cL_ends 143 = .ok (.ifCond .eq 33, 3) := by decide +kernel
theorem dL_ends_146 : decode cL_ends 146 = .ok (.aload_n 0, 1) := by decide +kernel
theorem dL_ends_147 : decode cL_ends 147 = .ok (.iconst 0, 1) := by decide +kernel
theorem dL_ends_148 : decode cL_ends 148 = .ok (.iload_n 2, 1) := by decide +kernel
theorem dL_ends_149 : decode cL_ends 149 = .ok (.invokestatic 114, 3) := by decide +kernel
theorem dL_ends_152 : decode cL_ends 152 = .ok (.ifCond .ne 16, 3) := by decide +kernel
theorem dL_ends_155 : decode cL_ends 155 = .ok (.aload_n 0, 1) := by decide +kernel
theorem dL_ends_156 : decode cL_ends 156 = .ok (.iconst 1, 1) := by decide +kernel
theorem dL_ends_157 : decode cL_ends 157 = .ok (.iload_n 2, 1) := by decide +kernel
theorem dL_ends_158 : decode cL_ends 158 = .ok (.invokestatic 114, 3) := by decide +kernel
theorem dL_ends_161 : decode cL_ends 161 = .ok (.ifCond .ne 7, 3) := by decide +kernel
theorem dL_ends_164 : decode cL_ends 164 = .ok (.iconst 1, 1) := by decide +kernel
theorem dL_ends_165 : decode cL_ends 165 = .ok (.goto 4, 3) := by decide +kernel
theorem dL_ends_168 : decode cL_ends 168 = .ok (.iconst 0, 1) := by decide +kernel
theorem dL_ends_169 : decode cL_ends 169 = .ok (.istore_n 1, 1) := by decide +kernel
theorem dL_ends_170 : decode cL_ends 170 = .ok (.iinc 2 1, 3) := by decide +kernel
theorem dL_ends_173 : decode cL_ends 173 = .ok (.goto (-37), 3) := by decide +kernel
theorem dL_ends_176 : decode cL_ends 176 = .ok (.iload_n 1, 1) := by decide +kernel
theorem dL_ends_177 : decode cL_ends 177 = .ok (.ireturn, 1) := by decide +kernel
set_option maxRecDepth 20000 in
theorem ggL_law_X2_init : GoodIn wsL_law wsX2_init := goodIn_r _ [6, 7, 8, 9, 10, 11, 12, 13, 14, 15, 16, 17, 18, 19, 20, 3, 21, 22, 23, 24, 25, 26, 27, 28, 29, 30, 31, 32, 33, 34, 35, 36, 37, 38, 39, 40, 41, 375, 376, 377, 378, 379, 380, 366, 367, 368, 369, 370, 371, 372, 373, 374, 381, 382, 383] (by decide +kernel) (by decide +kernel)
set_option maxRecDepth 20000 in
theorem gL_law_X2_init : GoodIn wsL_law (wsX2_init) := ggL_law_X2_init
set_option maxRecDepth 20000 in
theorem ggL_law_L_drawn : GoodIn wsL_law wsL_drawn := goodIn_r _ [45, 46, 47] (by decide +kernel) (by decide +kernel)
set_option maxRecDepth 20000 in
theorem gL_law_L_drawn : GoodIn wsL_law (va_wsS RL 135 yL_drawn wsL_drawn) := goodIn_app (goodIn_of _ (by decide +kernel)) ggL_law_L_drawn
set_option maxRecDepth 20000 in
theorem ggL_law_L_act : GoodIn wsL_law wsL_act := goodIn_ca (goodIn_ca (goodIn_ca (goodIn_r _ [50, 51, 52, 44, 53, 54, 55, 56, 2, 57, 13, 58, 59, 60, 12, 61, 62, 63, 64, 65, 66, 67, 68, 69, 70, 71, 72, 73, 74, 75, 76, 77, 17, 18, 78, 79, 80, 81, 82, 83, 84, 85, 86, 87, 88, 89, 90, 91, 92, 93, 94, 95, 96, 97, 98, 99, 100, 101, 102, 103, 104, 105, 106, 107, 108, 109, 110, 111, 112, 113, 114, 115, 116, 117, 118, 119, 120, 121, 122, 123, 124, 125, 126, 127, 128, 129, 27, 28, 29, 130, 131, 132, 133, 134, 135, 136, 137, 138, 16, 139, 36, 140, 141, 142, 143, 144, 145, 146, 147, 148, 149, 150, 151, 152, 153, 154, 155, 156, 37, 157, 158, 159, 160, 161, 162, 163, 164, 165, 166, 167, 168, 169, 170, 171, 172, 173, 174, 175, 176, 177, 178, 179, 180, 181, 182, 183, 184, 185, 186, 187, 188, 189, 190, 191, 192, 193, 194, 195, 196, 197, 30, 198, 39, 40, 41, 199, 200, 201, 202, 203, 204, 205, 206, 31, 207, 208, 209, 210, 211, 212, 213, 214, 215, 216, 217, 218, 219, 220, 221, 222, 223, 224, 225, 226, 227, 228, 229, 230, 231, 232, 233, 234, 235, 236, 237, 238, 239, 240, 20, 241, 242, 243, 244, 245, 246, 247, 248, 249, 250, 251, 252, 253, 254, 255, 21, 22, 23, 256, 257, 258, 259, 260, 261, 262, 263, 264, 265, 266, 267, 268, 269, 270, 271, 272, 273, 274, 275, 276, 277, 278, 279, 280, 281, 282, 283, 284, 285, 286, 287, 288, 289, 290, 291, 292, 293, 294, 295, 296, 297, 298, 299, 300, 301, 302, 303, 304, 305, 306, 307, 366, 367, 368, 369, 370, 371, 372, 373, 374, 375, 376, 377, 378, 379, 380, 381, 382, 383] (by decide +kernel) (by decide +kernel)) (goodIn_sub (fun _ h => List.mem_append_left _ (List.mem_append_left _ (List.mem_append_right _ h))) (by decide +kernel))) (goodIn_sub (fun _ h => List.mem_append_left _ (List.mem_append_right _ h)) (by decide +kernel))) (goodIn_sub (fun _ h => List.mem_append_right _ h) (by decide +kernel))
set_option maxRecDepth 20000 in
theorem gL_law_L_act : GoodIn wsL_law (va_wsS RL 139 yL_act wsL_act) := goodIn_app (goodIn_of _ (by decide +kernel)) ggL_law_L_act
theorem goodIn_hd {big : List Cond} {y : MethodName} {b : ByteArray} {n : Nat} {r : Option FieldType} {a : List Cond} (hc : Cond.code y b n r ∈ big) (ha : GoodIn big a) : GoodIn big (Cond.code y b n r :: a) := fun w h => (List.mem_cons.mp h).elim (fun e => by subst e; exact ⟨hc, Or.inl rfl⟩) (ha w)
theorem mem_ref13 : Cond.code yL_refuses cL_refuses 12 (some .boolean) ∈ wsL_law0_r13 := List.mem_of_getElem? (i := 22) rfl
theorem mem_refL : Cond.code yL_refuses cL_refuses 12 (some .boolean) ∈ wsL_law := List.mem_append_left _ (List.mem_append_left _ (List.mem_append_left _ (List.mem_append_left _ (List.mem_append_left _ (List.mem_append_left _ (List.mem_append_left _ (List.mem_append_right _ (List.mem_append_right _ (List.mem_append_right _ (List.mem_append_right _ (List.mem_append_right _ (List.mem_append_right _ (List.mem_append_right _ (List.mem_append_right _ (List.mem_append_right _ (List.mem_append_right _ (List.mem_append_right _ (List.mem_append_right _ (List.mem_append_left _ mem_ref13)))))))))))))))))))
set_option maxRecDepth 20000 in
theorem ggL_law_L_refuses : GoodIn wsL_law wsL_refuses := goodIn_hd mem_refL (goodIn_app (goodIn_app (goodIn_app (goodIn_r _ [67, 97, 98, 54, 55, 56, 2, 57, 13, 58, 59, 60, 12, 61, 62, 92, 93, 44, 94, 66, 95, 96, 99, 100, 101, 102, 103, 104, 105, 106, 72, 73, 74, 75, 76, 77, 17, 18, 107, 108, 109, 110, 111, 112, 113, 114, 115, 86, 87, 88, 89, 90, 91, 116, 117, 118, 119, 120, 121, 122, 123, 124, 125, 126, 127, 128, 129, 27, 28, 29, 130, 131, 132, 133, 134, 135, 83, 84, 85, 136, 137, 138, 16, 139, 36, 140, 141, 142, 143, 144, 145, 146, 147, 148, 149, 150, 151, 152, 153, 154, 155, 156, 37, 157, 158, 159, 160, 241, 242, 243, 244, 245, 246, 247, 311, 312, 313, 314, 315, 316, 317, 78, 79, 80, 81, 82, 318, 161, 162, 163, 164, 165, 166, 167, 168, 169, 170, 171, 172, 173, 174, 175, 176, 177, 178, 179, 180, 181, 182, 183, 184, 185, 186, 187, 188, 189, 190, 191, 192, 193, 194, 195, 196, 197, 30, 198, 39, 40, 41, 199, 200, 201, 202, 203, 204, 205, 206, 31, 207, 208, 209, 210, 211, 212, 213, 214, 215, 216, 217, 218, 219, 220, 221, 222, 223, 224, 225, 319, 320, 321, 322, 323, 324, 325, 226, 227, 228, 229, 230, 231, 232, 233, 234, 235, 236, 237, 238, 239, 240, 20, 248, 249, 250, 251, 252, 253, 254, 255, 21, 22, 23, 256, 257, 258, 259, 293, 294, 295, 296, 297, 298, 299, 300, 301, 302, 303, 304, 305, 306, 307, 63, 64, 65, 68, 69, 70, 71, 326, 327, 328, 329, 330, 331, 332, 333, 334, 335, 336, 337, 338, 339, 280, 340, 341, 342, 343, 344, 345, 346, 366, 367, 368, 369, 370, 371, 372, 373, 374, 375, 376, 377, 378, 379, 380, 381, 382, 383] (by decide +kernel) (by decide +kernel)) (goodIn_sub (fun _ h => List.mem_append_left _ (List.mem_append_right _ h)) (by decide +kernel))) (goodIn_sub (fun _ h => List.mem_append_right _ h) (by decide +kernel))) (goodIn_sub (fun _ h => List.mem_append_left _ (List.mem_append_left _ (List.mem_append_right _ h))) (by decide +kernel)))
set_option maxRecDepth 20000 in
theorem gL_law_L_refuses : GoodIn wsL_law (va_wsS RL 142 yL_refuses wsL_refuses) := goodIn_app (goodIn_of _ (by decide +kernel)) ggL_law_L_refuses
set_option maxRecDepth 20000 in
theorem ggL_law_L_alike : GoodIn wsL_law wsL_alike := goodIn_ca (goodIn_ca (goodIn_r _ [349, 54, 55, 56, 2, 57, 13, 58, 59, 60, 12, 61, 62, 350, 351, 352, 353, 177, 285, 286, 287, 288, 18, 203, 204, 205, 206, 31, 87, 88, 89, 90, 91, 207, 208, 209, 210, 131, 132, 133, 134, 29, 135, 83, 84, 85, 111, 112, 120, 121, 289, 290, 291, 16, 292, 36, 241, 242, 44, 243, 66, 67, 244, 245, 246, 247, 72, 73, 74, 75, 76, 77, 17, 147, 148, 149, 150, 151, 152, 153, 154, 155, 156, 37, 63, 64, 65, 68, 69, 70, 71, 78, 79, 80, 81, 82, 86, 333, 334, 335, 336, 337, 338, 339, 280, 187, 188, 189, 185, 190, 191, 192, 193, 27, 28, 311, 312, 313, 314, 315, 316, 317, 107, 108, 109, 110, 318, 326, 327, 328, 95, 97, 329, 330, 331, 332, 116, 117, 118, 103, 104, 119, 233, 216, 217, 218, 366, 367, 368, 369, 370, 371, 372, 373, 374, 375, 376, 377, 378, 379, 380, 381, 382, 383] (by decide +kernel) (by decide +kernel)) (goodIn_sub (fun _ h => List.mem_append_left _ (List.mem_append_left _ (List.mem_append_right _ h))) (by decide +kernel))) (goodIn_sub (fun _ h => List.mem_append_left _ (List.mem_append_right _ h)) (by decide +kernel))
set_option maxRecDepth 20000 in
theorem gL_law_L_alike : GoodIn wsL_law (va_wsS RL 146 yL_alike wsL_alike) := goodIn_app (goodIn_of _ (by decide +kernel)) ggL_law_L_alike
set_option maxRecDepth 20000 in
theorem ggL_law_L_holds : GoodIn wsL_law wsL_holds := goodIn_ca (goodIn_ca (goodIn_ca (goodIn_r _ [356, 54, 55, 56, 2, 57, 13, 58, 59, 60, 12, 61, 62, 285, 286, 287, 288, 18, 203, 204, 205, 206, 31, 87, 88, 89, 90, 91, 207, 208, 209, 210, 131, 132, 133, 134, 29, 135, 83, 84, 85, 111, 112, 120, 121, 289, 290, 291, 16, 292, 36, 340, 341, 44, 342, 66, 67, 343, 344, 345, 346, 72, 73, 74, 75, 76, 77, 17, 78, 79, 80, 81, 82, 181, 182, 183, 184, 185, 186, 187, 188, 189, 190, 191, 192, 193, 27, 28, 86, 63, 64, 65, 68, 69, 70, 71, 333, 334, 335, 336, 337, 338, 339, 280, 241, 242, 243, 244, 245, 246, 247, 147, 148, 149, 150, 151, 152, 153, 154, 155, 156, 37, 319, 320, 321, 95, 96, 97, 98, 322, 323, 324, 325, 168, 169, 170, 171, 172, 103, 104, 105, 106, 194, 195, 196, 197, 30, 198, 39, 40, 41, 199, 200, 201, 202, 219, 220, 221, 222, 223, 224, 225, 366, 367, 368, 369, 370, 371, 372, 373, 374, 375, 376, 377, 378, 379, 380, 381, 382, 383] (by decide +kernel) (by decide +kernel)) (goodIn_sub (fun _ h => List.mem_append_left _ (List.mem_append_left _ (List.mem_append_right _ h))) (by decide +kernel))) (goodIn_sub (fun _ h => List.mem_append_left _ (List.mem_append_right _ h)) (by decide +kernel))) (goodIn_sub (fun _ h => List.mem_append_right _ h) (by decide +kernel))
set_option maxRecDepth 20000 in
theorem gL_law_L_holds : GoodIn wsL_law (va_wsS RL 150 yL_holds wsL_holds) := goodIn_app (goodIn_of _ (by decide +kernel)) ggL_law_L_holds
set_option maxRecDepth 20000 in
theorem ggL_law_L_pushed : GoodIn wsL_law wsL_pushed := goodIn_ca (goodIn_ca (goodIn_ca (goodIn_r _ [359, 51, 52, 44, 53, 54, 55, 56, 2, 57, 13, 58, 59, 60, 12, 61, 62, 63, 64, 65, 66, 67, 68, 69, 70, 71, 72, 73, 74, 75, 76, 77, 17, 18, 78, 79, 80, 81, 82, 83, 84, 85, 86, 87, 88, 89, 90, 91, 260, 261, 262, 263, 255, 264, 265, 266, 267, 21, 22, 23, 268, 269, 270, 271, 153, 154, 155, 16, 156, 37, 151, 152, 181, 182, 183, 184, 185, 186, 187, 188, 189, 190, 191, 192, 193, 27, 28, 135, 272, 273, 274, 275, 20, 150, 276, 277, 278, 279, 168, 280, 281, 282, 283, 284, 157, 158, 159, 160, 219, 220, 221, 222, 223, 224, 225, 203, 204, 205, 206, 31, 207, 208, 209, 210, 131, 132, 133, 134, 29, 111, 112, 120, 121, 211, 212, 213, 214, 36, 215, 216, 217, 218, 234, 235, 236, 237, 238, 239, 240, 147, 148, 149, 92, 93, 94, 95, 96, 97, 98, 99, 100, 101, 102, 103, 104, 105, 106, 107, 108, 109, 110, 113, 114, 115, 116, 117, 118, 119, 122, 123, 124, 125, 126, 127, 128, 129, 130, 136, 137, 138, 139, 241, 242, 243, 244, 245, 246, 247, 248, 249, 250, 251, 252, 253, 254, 256, 257, 258, 259, 326, 327, 328, 329, 330, 331, 332, 233, 319, 320, 321, 322, 323, 324, 325, 169, 170, 171, 172, 194, 195, 196, 197, 30, 198, 39, 40, 41, 199, 200, 201, 202, 161, 162, 163, 164, 165, 166, 167, 173, 174, 175, 176, 177, 178, 179, 180, 366, 367, 368, 369, 370, 371, 372, 373, 374, 375, 376, 377, 378, 379, 380, 381, 382, 383] (by decide +kernel) (by decide +kernel)) (goodIn_sub (fun _ h => List.mem_append_left _ (List.mem_append_left _ (List.mem_append_right _ h))) (by decide +kernel))) (goodIn_sub (fun _ h => List.mem_append_left _ (List.mem_append_right _ h)) (by decide +kernel))) (goodIn_sub (fun _ h => List.mem_append_right _ h) (by decide +kernel))
set_option maxRecDepth 20000 in
theorem gL_law_L_pushed : GoodIn wsL_law (va_wsS RL 154 yL_pushed wsL_pushed) := goodIn_app (goodIn_of _ (by decide +kernel)) ggL_law_L_pushed
set_option maxRecDepth 20000 in
theorem ggL_law_L_fetched : GoodIn wsL_law wsL_fetched := goodIn_ca (goodIn_ca (goodIn_ca (goodIn_r _ [362, 241, 242, 44, 243, 66, 67, 244, 245, 246, 2, 247, 72, 73, 74, 75, 76, 77, 17, 18, 147, 148, 149, 150, 151, 152, 153, 154, 155, 16, 156, 37, 319, 320, 321, 95, 96, 97, 98, 322, 323, 324, 325, 13, 168, 169, 170, 171, 172, 103, 104, 105, 106, 194, 195, 196, 12, 197, 30, 27, 28, 135, 83, 84, 85, 62, 198, 39, 40, 41, 90, 91, 199, 200, 201, 202, 219, 220, 221, 222, 223, 224, 225, 285, 286, 287, 288, 203, 204, 205, 206, 31, 87, 88, 89, 207, 208, 209, 210, 131, 132, 133, 134, 29, 111, 112, 120, 121, 289, 290, 291, 292, 36, 161, 162, 163, 164, 165, 166, 167, 173, 174, 175, 176, 177, 178, 179, 180, 86, 181, 182, 183, 184, 185, 186, 187, 188, 189, 190, 191, 192, 193, 211, 212, 213, 214, 215, 216, 217, 218, 157, 158, 159, 160, 350, 351, 352, 353, 340, 341, 342, 343, 344, 345, 346, 78, 79, 80, 81, 82, 63, 64, 65, 68, 69, 70, 71, 333, 334, 335, 336, 337, 338, 339, 280, 311, 312, 313, 314, 315, 316, 317, 107, 108, 109, 110, 318, 326, 327, 328, 329, 330, 331, 332, 116, 117, 118, 119, 233, 226, 227, 228, 229, 230, 231, 232, 136, 137, 138, 139, 366, 367, 368, 369, 370, 371, 372, 373, 374, 381, 382, 383, 375, 376, 377, 378, 379, 380] (by decide +kernel) (by decide +kernel)) (goodIn_sub (fun _ h => List.mem_append_left _ (List.mem_append_left _ (List.mem_append_right _ h))) (by decide +kernel))) (goodIn_sub (fun _ h => List.mem_append_left _ (List.mem_append_right _ h)) (by decide +kernel))) (goodIn_sub (fun _ h => List.mem_append_right _ h) (by decide +kernel))
set_option maxRecDepth 20000 in
theorem gL_law_L_fetched : GoodIn wsL_law (va_wsS RL 157 yL_fetched wsL_fetched) := goodIn_app (goodIn_of _ (by decide +kernel)) ggL_law_L_fetched
set_option maxRecDepth 20000 in
theorem ggL_law_L_ends : GoodIn wsL_law wsL_ends := goodIn_ca (goodIn_ca (goodIn_r _ [365, 140, 141, 44, 142, 66, 67, 143, 144, 145, 2, 146, 72, 73, 74, 75, 76, 77, 17, 18, 147, 148, 149, 150, 151, 152, 113, 114, 115, 86, 87, 88, 89, 90, 91, 153, 154, 155, 16, 156, 37, 157, 158, 159, 160, 293, 294, 295, 296, 297, 298, 299, 13, 168, 300, 301, 302, 303, 181, 182, 183, 12, 184, 62, 185, 186, 187, 188, 189, 190, 191, 192, 193, 27, 28, 135, 83, 84, 85, 219, 220, 221, 222, 223, 224, 225, 203, 204, 205, 206, 31, 207, 208, 209, 210, 131, 132, 133, 134, 29, 111, 112, 120, 121, 304, 305, 306, 307, 36, 285, 286, 287, 288, 289, 290, 291, 292, 54, 55, 56, 57, 58, 59, 60, 61, 63, 64, 65, 68, 69, 70, 71, 78, 79, 80, 81, 82, 333, 334, 335, 336, 337, 338, 339, 280, 326, 327, 328, 95, 97, 329, 330, 331, 332, 116, 117, 118, 103, 104, 119, 233, 216, 217, 218, 366, 367, 368, 369, 370, 371, 372, 373, 374, 381, 382, 383, 375, 376, 377, 378, 379, 380] (by decide +kernel) (by decide +kernel)) (goodIn_sub (fun _ h => List.mem_append_left _ (List.mem_append_left _ (List.mem_append_right _ h))) (by decide +kernel))) (goodIn_sub (fun _ h => List.mem_append_left _ (List.mem_append_right _ h)) (by decide +kernel))
set_option maxRecDepth 20000 in
theorem gL_law_L_ends : GoodIn wsL_law (va_wsS RL 160 yL_ends wsL_ends) := goodIn_app (goodIn_of _ (by decide +kernel)) ggL_law_L_ends
theorem dL_law_0 : decode cL_law 0 = .ok (.new 8, 3) := by decide +kernel
theorem dL_law_3 : decode cL_law 3 = .ok (.dup, 1) := by decide +kernel
theorem dL_law_4 : decode cL_law 4 = .ok (.invokespecial 134, 3) := by decide +kernel
