theorem dL_alike_145 : decode cL_alike 145 = .ok (.invokestatic 116, 3) := by decide +kernel
theorem dL_alike_148 : decode cL_alike 148 = .ok (.aload_n 1, 1) := by decide +kernel
theorem dL_alike_149 : decode cL_alike 149 = .ok (.iload 4, 2) := by decide +kernel
theorem dL_alike_151 : decode cL_alike 151 = .ok (.invokestatic 116, 3) := by decide +kernel
theorem dL_alike_154 : decode cL_alike 154 = .ok (.if_icmp .ne 28, 3) := by decide +kernel
theorem dL_alike_157 : decode cL_alike 157 = .ok (.aload_n 0, 1) := by decide +kernel
theorem dL_alike_158 : decode cL_alike 158 = .ok (.iload 4, 2) := by decide +kernel
theorem dL_alike_160 : decode cL_alike 160 = .ok (.iload_n 2, 1) := by decide +kernel
theorem dL_alike_161 : decode cL_alike 161 = .ok (.iconst 4, 1) := by decide +kernel
theorem dL_alike_162 : decode cL_alike 162 = .ok (.irem, 1) := by decide +kernel
theorem dL_alike_163 : decode cL_alike 163 = .ok (.invokestatic 88, 3) := by decide +kernel
theorem dL_alike_166 : decode cL_alike 166 = .ok (.aload_n 1, 1) := by decide +kernel
theorem dL_alike_167 : decode cL_alike 167 = .ok (.iload 4, 2) := by decide +kernel
theorem dL_alike_169 : decode cL_alike 169 = .ok (.iload_n 2, 1) := by decide +kernel
theorem dL_alike_170 : decode cL_alike 170 = .ok (.iconst 4, 1) := by decide +kernel
theorem dL_alike_171 : decode cL_alike 171 = .ok (.irem, 1) := by decide +kernel
theorem dL_alike_172 : decode cL_alike 172 = .ok (.invokestatic 88, 3) := by decide +kernel
theorem dL_alike_175 : decode cL_alike 175 = .ok (.if_icmp .ne 7, 3) := by decide +kernel
theorem dL_alike_178 : decode cL_alike 178 = .ok (.iconst 1, 1) := by decide +kernel
theorem dL_alike_179 : decode cL_alike 179 = .ok (.goto 4, 3) := by decide +kernel
theorem dL_alike_182 : decode cL_alike 182 = .ok (.iconst 0, 1) := by decide +kernel
theorem dL_alike_183 : decode cL_alike 183 = .ok (.istore_n 3, 1) := by decide +kernel
theorem dL_alike_184 : decode cL_alike 184 = .ok (.iinc 4 1, 3) := by decide +kernel
theorem dL_alike_187 : decode cL_alike 187 = .ok (.goto (-92), 3) := by decide +kernel
theorem dL_alike_190 : decode cL_alike 190 = .ok (.iload_n 2, 1) := by decide +kernel
theorem dL_alike_191 : decode cL_alike 191 = .ok (.iconst 4, 1) := by decide +kernel
theorem dL_alike_192 : decode cL_alike 192 = .ok (.irem, 1) := by decide +kernel
theorem dL_alike_193 : decode cL_alike 193 = .ok (.istore 4, 2) := by decide +kernel
theorem dL_alike_195 : decode cL_alike 195 = .ok (.iload 4, 2) := by decide +kernel
theorem dL_alike_197 : decode cL_alike 197 = .ok (.bipush 30, 2) := by decide +kernel
theorem dL_alike_199 : decode cL_alike 199 = .ok (.if_icmp .ge 53, 3) := by decide +kernel
theorem dL_alike_202 : decode cL_alike 202 = .ok (.iload_n 3, 1) := by decide +kernel
theorem dL_alike_203 : decode cL_alike 203 = .ok (.ifCond .eq 49, 3) := by decide +kernel
theorem dL_alike_206 : decode cL_alike 206 = .ok (.aload_n 0, 1) := by decide +kernel
theorem dL_alike_207 : decode cL_alike 207 = .ok (.iconst 0, 1) := by decide +kernel
theorem dL_alike_208 : decode cL_alike 208 = .ok (.iload 4, 2) := by decide +kernel
theorem dL_alike_210 : decode cL_alike 210 = .ok (.invokestatic 114, 3) := by decide +kernel
theorem dL_alike_213 : decode cL_alike 213 = .ok (.aload_n 1, 1) := by decide +kernel
theorem dL_alike_214 : decode cL_alike 214 = .ok (.iconst 0, 1) := by decide +kernel
theorem dL_alike_215 : decode cL_alike 215 = .ok (.iload 4, 2) := by decide +kernel
theorem dL_alike_217 : decode cL_alike 217 = .ok (.invokestatic 114, 3) := by decide +kernel
theorem dL_alike_220 : decode cL_alike 220 = .ok (.if_icmp .ne 24, 3) := by decide +kernel
theorem dL_alike_223 : decode cL_alike 223 = .ok (.aload_n 0, 1) := by decide +kernel
theorem dL_alike_224 : decode cL_alike 224 = .ok (.iconst 1, 1) := by decide +kernel
theorem dL_alike_225 : decode cL_alike 225 = .ok (.iload 4, 2) := by decide +kernel
theorem dL_alike_227 : decode cL_alike 227 = .ok (.invokestatic 114, 3) := by decide +kernel
theorem dL_alike_230 : decode cL_alike 230 = .ok (.aload_n 1, 1) := by decide +kernel
theorem dL_alike_231 : decode cL_alike 231 = .ok (.iconst 1, 1) := by decide +kernel
theorem dL_alike_232 : decode cL_alike 232 = .ok (.iload 4, 2) := by decide +kernel
theorem dL_alike_234 : decode cL_alike 234 = .ok (.invokestatic 114, 3) := by decide +kernel
theorem dL_alike_237 : decode cL_alike 237 = .ok (.if_icmp .ne 7, 3) := by decide +kernel
theorem dL_alike_240 : decode cL_alike 240 = .ok (.iconst 1, 1) := by decide +kernel
theorem dL_alike_241 : decode cL_alike 241 = .ok (.goto 4, 3) := by decide +kernel
theorem dL_alike_244 : decode cL_alike 244 = .ok (.iconst 0, 1) := by decide +kernel
theorem dL_alike_245 : decode cL_alike 245 = .ok (.istore_n 3, 1) := by decide +kernel
theorem dL_alike_246 : decode cL_alike 246 = .ok (.iinc 4 4, 3) := by decide +kernel
theorem dL_alike_249 : decode cL_alike 249 = .ok (.goto (-54), 3) := by decide +kernel
theorem dL_alike_252 : decode cL_alike 252 = .ok (.iload_n 3, 1) := by decide +kernel
theorem dL_alike_253 : decode cL_alike 253 = .ok (.ireturn, 1) := by decide +kernel
set_option maxRecDepth 20000 in
theorem ggL_holds_X2_commits : GoodIn wsL_holds wsX2_commits := goodIn_r _ [5, 6, 7, 8, 9, 10, 11, 12, 162, 163, 164, 165, 166, 167, 168, 169, 170, 171, 172, 173, 174, 175, 176] (by decide +kernel) (by decide +kernel)
set_option maxRecDepth 20000 in
theorem gL_holds_X2_commits : GoodIn wsL_holds (wsV RL 71 RX2 yX2_commits wsX2_commits) := goodIn_app (goodIn_of _ (by decide +kernel)) ggL_holds_X2_commits
set_option maxRecDepth 20000 in
theorem ggL_holds_X2_missing : GoodIn wsL_holds wsX2_missing := goodIn_r _ [16, 17, 6, 18, 19, 20, 10, 21, 22, 12, 23, 4, 24, 25, 26, 27, 28, 29, 30, 31, 32, 33, 34, 35, 36, 37, 38, 39, 40, 41, 42, 43, 44, 45, 46, 47, 48, 49, 50, 162, 163, 164, 165, 166, 167, 168, 169, 170, 177, 178, 179, 171, 172, 173, 174, 175, 176] (by decide +kernel) (by decide +kernel)
set_option maxRecDepth 20000 in
theorem gL_holds_X2_missing : GoodIn wsL_holds (wsV RL 128 RX2 yX2_missing wsX2_missing) := goodIn_app (goodIn_of _ (by decide +kernel)) ggL_holds_X2_missing
set_option maxRecDepth 20000 in
theorem ggL_holds_L_ancestor : GoodIn wsL_holds wsL_ancestor := goodIn_ca (goodIn_r _ [54, 55, 56, 57, 58, 59, 4, 60, 6, 61, 62, 63, 64, 65, 66, 67, 17, 68, 69, 70, 71, 72, 38, 39, 10, 40, 12, 25, 26, 27, 73, 74, 75, 76, 77, 78, 79, 80, 81, 23, 24, 82, 83, 84, 85, 86, 87, 37, 88, 162, 163, 164, 165, 166, 167, 168, 169, 170, 177, 178, 179, 171, 172, 173, 174, 175, 176] (by decide +kernel) (by decide +kernel)) (goodIn_sub (fun _ h => List.mem_cons_of_mem _ (List.mem_append_left _ (List.mem_append_left _ (List.mem_append_right _ h)))) (by decide +kernel))
set_option maxRecDepth 20000 in
theorem gL_holds_L_ancestor : GoodIn wsL_holds (va_wsS RL 119 yL_ancestor wsL_ancestor) := goodIn_app (goodIn_of _ (by decide +kernel)) ggL_holds_L_ancestor
set_option maxRecDepth 20000 in
theorem ggL_holds_L_has : GoodIn wsL_holds wsL_has := goodIn_ca (goodIn_r _ [91, 55, 56, 92, 93, 94, 4, 95, 61, 62, 63, 64, 65, 66, 67, 17, 68, 69, 70, 71, 6, 72, 38, 39, 10, 40, 12, 88, 23, 24, 25, 26, 27, 177, 178, 179, 162, 163, 164, 165, 166, 167, 168, 169, 170, 171, 172, 173, 174, 175, 176] (by decide +kernel) (by decide +kernel)) (goodIn_sub (fun _ h => List.mem_cons_of_mem _ (List.mem_append_left _ (List.mem_append_left _ (List.mem_append_right _ h)))) (by decide +kernel))
set_option maxRecDepth 20000 in
theorem gL_holds_L_has : GoodIn wsL_holds (va_wsS RL 112 yL_has wsL_has) := goodIn_app (goodIn_of _ (by decide +kernel)) ggL_holds_L_has
set_option maxRecDepth 20000 in
theorem ggL_holds_L_shallow : GoodIn wsL_holds wsL_shallow := goodIn_ca (goodIn_r _ [98, 55, 56, 99, 100, 101, 4, 102, 6, 17, 68, 69, 70, 71, 65, 66, 72, 38, 39, 10, 40, 12, 103, 79, 80, 81, 77, 23, 24, 25, 26, 27, 82, 83, 84, 85, 86, 87, 37, 88, 162, 163, 164, 165, 166, 167, 168, 169, 170, 177, 178, 179, 171, 172, 173, 174, 175, 176] (by decide +kernel) (by decide +kernel)) (goodIn_sub (fun _ h => List.mem_cons_of_mem _ (List.mem_append_left _ (List.mem_append_left _ (List.mem_append_right _ h)))) (by decide +kernel))
set_option maxRecDepth 20000 in
theorem gL_holds_L_shallow : GoodIn wsL_holds (va_wsS RL 116 yL_shallow wsL_shallow) := goodIn_app (goodIn_of _ (by decide +kernel)) ggL_holds_L_shallow
set_option maxRecDepth 20000 in
theorem ggL_holds_L_ref : GoodIn wsL_holds wsL_ref := goodIn_ca (goodIn_r _ [106, 55, 56, 107, 108, 109, 4, 110, 61, 62, 63, 64, 65, 66, 67, 17, 111, 112, 113, 114, 115, 116, 117, 118, 119, 48, 120, 121, 162, 163, 164, 165, 166, 167, 168, 169, 170, 177, 178, 179] (by decide +kernel) (by decide +kernel)) (goodIn_sub (fun _ h => List.mem_cons_of_mem _ (List.mem_append_left _ (List.mem_append_left _ (List.mem_append_right _ h)))) (by decide +kernel))
set_option maxRecDepth 20000 in
theorem gL_holds_L_ref : GoodIn wsL_holds (va_wsS RL 85 yL_ref wsL_ref) := goodIn_app (goodIn_of _ (by decide +kernel)) ggL_holds_L_ref
set_option maxRecDepth 20000 in
theorem ggL_holds_L_would : GoodIn wsL_holds wsL_would := goodIn_ca (goodIn_ca (goodIn_ca (goodIn_r _ [124, 55, 125, 126, 56, 127, 128, 129, 130, 131, 4, 132, 6, 17, 133, 134, 135, 136, 137, 138, 139, 140, 141, 67, 111, 112, 113, 65, 66, 114, 115, 116, 117, 118, 119, 48, 120, 121, 142, 143, 144, 10, 145, 146, 86, 87, 37, 38, 39, 40, 12, 147, 148, 149, 150, 26, 27, 151, 152, 153, 154, 155, 156, 157, 158, 159, 160, 161, 162, 163, 164, 165, 166, 167, 168, 169, 170, 177, 178, 179, 171, 172, 173, 174, 175, 176] (by decide +kernel) (by decide +kernel)) (goodIn_sub (fun _ h => List.mem_cons_of_mem _ (List.mem_append_left _ (List.mem_append_right _ h))) (by decide +kernel))) (goodIn_sub (fun _ h => List.mem_cons_of_mem _ (List.mem_append_right _ h)) (by decide +kernel))) (goodIn_sub (fun _ h => List.mem_cons_of_mem _ (List.mem_append_left _ (List.mem_append_left _ (List.mem_append_right _ h)))) (by decide +kernel))
set_option maxRecDepth 20000 in
theorem gL_holds_L_would : GoodIn wsL_holds (va_wsS RL 95 yL_would wsL_would) := goodIn_app (goodIn_of _ (by decide +kernel)) ggL_holds_L_would
theorem dL_holds_0 : decode cL_holds 0 = .ok (.aload_n 0, 1) := by decide +kernel
theorem dL_holds_1 : decode cL_holds 1 = .ok (.invokevirtual 71, 3) := by decide +kernel
theorem dL_holds_4 : decode cL_holds 4 = .ok (.istore_n 2, 1) := by decide +kernel
theorem dL_holds_5 : decode cL_holds 5 = .ok (.aload_n 0, 1) := by decide +kernel
theorem dL_holds_6 : decode cL_holds 6 = .ok (.invokevirtual 128, 3) := by decide +kernel
theorem dL_holds_9 : decode cL_holds 9 = .ok (.ifCond .lt 16, 3) := by decide +kernel
theorem dL_holds_12 : decode cL_holds 12 = .ok (.aload_n 0, 1) := by decide +kernel
theorem dL_holds_13 : decode cL_holds 13 = .ok (.invokevirtual 128, 3) := by decide +kernel
theorem dL_holds_16 : decode cL_holds 16 = .ok (.bipush 100, 2) := by decide +kernel
theorem dL_holds_18 : decode cL_holds 18 = .ok (.if_icmp .gt 7, 3) := by decide +kernel
theorem dL_holds_21 : decode cL_holds 21 = .ok (.iconst 1, 1) := by decide +kernel
theorem dL_holds_22 : decode cL_holds 22 = .ok (.goto 4, 3) := by decide +kernel
theorem dL_holds_25 : decode cL_holds 25 = .ok (.iconst 0, 1) := by decide +kernel
theorem dL_holds_26 : decode cL_holds 26 = .ok (.istore_n 3, 1) := by decide +kernel
theorem dL_holds_27 : decode cL_holds 27 = .ok (.iload_n 2, 1) := by decide +kernel
theorem dL_holds_28 : decode cL_holds 28 = .ok (.ifCond .ne 7, 3) := by decide +kernel
theorem dL_holds_31 : decode cL_holds 31 = .ok (.iconst 0, 1) := by decide +kernel
theorem dL_holds_32 : decode cL_holds 32 = .ok (.goto 6, 3) := by decide +kernel
theorem dL_holds_35 : decode cL_holds 35 = .ok (.iload_n 1, 1) := by decide +kernel
theorem dL_holds_36 : decode cL_holds 36 = .ok (.iload_n 2, 1) := by decide +kernel
theorem dL_holds_37 : decode cL_holds 37 = .ok (.irem, 1) := by decide +kernel
theorem dL_holds_38 : decode cL_holds 38 = .ok (.istore 4, 2) := by decide +kernel
theorem dL_holds_40 : decode cL_holds 40 = .ok (.iconst 0, 1) := by decide +kernel
theorem dL_holds_41 : decode cL_holds 41 = .ok (.istore 5, 2) := by decide +kernel
theorem dL_holds_43 : decode cL_holds 43 = .ok (.iload 5, 2) := by decide +kernel
theorem dL_holds_45 : decode cL_holds 45 = .ok (.iload_n 2, 1) := by decide +kernel
theorem dL_holds_46 : decode cL_holds 46 = .ok (.if_icmp .ge 188, 3) := by decide +kernel
theorem dL_holds_49 : decode cL_holds 49 = .ok (.iload_n 3, 1) := by decide +kernel
theorem dL_holds_50 : decode cL_holds 50 = .ok (.ifCond .eq 184, 3) := by decide +kernel
theorem dL_holds_53 : decode cL_holds 53 = .ok (.aload_n 0, 1) := by decide +kernel
theorem dL_holds_54 : decode cL_holds 54 = .ok (.iconst 0, 1) := by decide +kernel
theorem dL_holds_55 : decode cL_holds 55 = .ok (.iload 5, 2) := by decide +kernel
theorem dL_holds_57 : decode cL_holds 57 = .ok (.iload 4, 2) := by decide +kernel
theorem dL_holds_59 : decode cL_holds 59 = .ok (.invokestatic 119, 3) := by decide +kernel
theorem dL_holds_62 : decode cL_holds 62 = .ok (.istore 6, 2) := by decide +kernel
theorem dL_holds_64 : decode cL_holds 64 = .ok (.aload_n 0, 1) := by decide +kernel
theorem dL_holds_65 : decode cL_holds 65 = .ok (.iconst 1, 1) := by decide +kernel
theorem dL_holds_66 : decode cL_holds 66 = .ok (.iload 5, 2) := by decide +kernel
theorem dL_holds_68 : decode cL_holds 68 = .ok (.iload 4, 2) := by decide +kernel
theorem dL_holds_70 : decode cL_holds 70 = .ok (.invokestatic 119, 3) := by decide +kernel
theorem dL_holds_73 : decode cL_holds 73 = .ok (.istore 7, 2) := by decide +kernel
theorem dL_holds_75 : decode cL_holds 75 = .ok (.iload 6, 2) := by decide +kernel
theorem dL_holds_77 : decode cL_holds 77 = .ok (.ifCond .eq 32, 3) := by decide +kernel
theorem dL_holds_80 : decode cL_holds 80 = .ok (.aload_n 0, 1) := by decide +kernel
theorem dL_holds_81 : decode cL_holds 81 = .ok (.iconst 0, 1) := by decide +kernel
theorem dL_holds_82 : decode cL_holds 82 = .ok (.iload 5, 2) := by decide +kernel
theorem dL_holds_84 : decode cL_holds 84 = .ok (.invokestatic 112, 3) := by decide +kernel
theorem dL_holds_87 : decode cL_holds 87 = .ok (.iconst 1, 1) := by decide +kernel
theorem dL_holds_88 : decode cL_holds 88 = .ok (.if_icmp .ne 138, 3) := by decide +kernel
theorem dL_holds_91 : decode cL_holds 91 = .ok (.aload_n 0, 1) := by decide +kernel
theorem dL_holds_92 : decode cL_holds 92 = .ok (.iconst 0, 1) := by decide +kernel
theorem dL_holds_93 : decode cL_holds 93 = .ok (.iload 4, 2) := by decide +kernel
theorem dL_holds_95 : decode cL_holds 95 = .ok (.invokestatic 112, 3) := by decide +kernel
theorem dL_holds_98 : decode cL_holds 98 = .ok (.iconst 1, 1) := by decide +kernel
theorem dL_holds_99 : decode cL_holds 99 = .ok (.if_icmp .ne 127, 3) := by decide +kernel
theorem dL_holds_102 : decode cL_holds 102 = .ok (.iload 5, 2) := by decide +kernel
theorem dL_holds_104 : decode cL_holds 104 = .ok (.iload 4, 2) := by decide +kernel
theorem dL_holds_106 : decode cL_holds 106 = .ok (.if_icmp .gt 120, 3) := by decide +kernel
theorem dL_holds_109 : decode cL_holds 109 = .ok (.iload 7, 2) := by decide +kernel
theorem dL_holds_111 : decode cL_holds 111 = .ok (.ifCond .eq 32, 3) := by decide +kernel
theorem dL_holds_114 : decode cL_holds 114 = .ok (.aload_n 0, 1) := by decide +kernel
theorem dL_holds_115 : decode cL_holds 115 = .ok (.iconst 1, 1) := by decide +kernel
theorem dL_holds_116 : decode cL_holds 116 = .ok (.iload 5, 2) := by decide +kernel
theorem dL_holds_118 : decode cL_holds 118 = .ok (.invokestatic 112, 3) := by decide +kernel
theorem dL_holds_121 : decode cL_holds 121 = .ok (.iconst 1, 1) := by decide +kernel
theorem dL_holds_122 : decode cL_holds 122 = .ok (.if_icmp .ne 104, 3) := by decide +kernel
theorem dL_holds_125 : decode cL_holds 125 = .ok (.aload_n 0, 1) := by decide +kernel
theorem dL_holds_126 : decode cL_holds 126 = .ok (.iconst 1, 1) := by decide +kernel
theorem dL_holds_127 : decode cL_holds 127 = .ok (.iload 4, 2) := by decide +kernel
theorem dL_holds_129 : decode cL_holds 129 = .ok (.invokestatic 112, 3) := by decide +kernel
theorem dL_holds_132 : decode cL_holds 132 = .ok (.iconst 1, 1) := by decide +kernel
theorem dL_holds_133 : decode cL_holds 133 = .ok (.if_icmp .ne 93, 3) := by decide +kernel
theorem dL_holds_136 : decode cL_holds 136 = .ok (.iload 5, 2) := by decide +kernel
theorem dL_holds_138 : decode cL_holds 138 = .ok (.iload 4, 2) := by decide +kernel
theorem dL_holds_140 : decode cL_holds 140 = .ok (.if_icmp .gt 86, 3) := by decide +kernel
theorem dL_holds_143 : decode cL_holds 143 = .ok (.iload 5, 2) := by decide +kernel
theorem dL_holds_145 : decode cL_holds 145 = .ok (.iload 4, 2) := by decide +kernel
theorem dL_holds_147 : decode cL_holds 147 = .ok (.if_icmp .ne 27, 3) := by decide +kernel
theorem dL_holds_150 : decode cL_holds 150 = .ok (.iload 6, 2) := by decide +kernel
theorem dL_holds_152 : decode cL_holds 152 = .ok (.aload_n 0, 1) := by decide +kernel
theorem dL_holds_153 : decode cL_holds 153 = .ok (.iconst 0, 1) := by decide +kernel
theorem dL_holds_154 : decode cL_holds 154 = .ok (.iload 5, 2) := by decide +kernel
theorem dL_holds_156 : decode cL_holds 156 = .ok (.invokestatic 112, 3) := by decide +kernel
theorem dL_holds_159 : decode cL_holds 159 = .ok (.if_icmp .ne 67, 3) := by decide +kernel
theorem dL_holds_162 : decode cL_holds 162 = .ok (.iload 7, 2) := by decide +kernel
theorem dL_holds_164 : decode cL_holds 164 = .ok (.aload_n 0, 1) := by decide +kernel
theorem dL_holds_165 : decode cL_holds 165 = .ok (.iconst 1, 1) := by decide +kernel
theorem dL_holds_166 : decode cL_holds 166 = .ok (.iload 5, 2) := by decide +kernel
theorem dL_holds_168 : decode cL_holds 168 = .ok (.invokestatic 112, 3) := by decide +kernel
theorem dL_holds_171 : decode cL_holds 171 = .ok (.if_icmp .ne 55, 3) := by decide +kernel
theorem dL_holds_174 : decode cL_holds 174 = .ok (.aload_n 0, 1) := by decide +kernel
theorem dL_holds_175 : decode cL_holds 175 = .ok (.iload 5, 2) := by decide +kernel
theorem dL_holds_177 : decode cL_holds 177 = .ok (.invokestatic 116, 3) := by decide +kernel
theorem dL_holds_180 : decode cL_holds 180 = .ok (.ifCond .eq 14, 3) := by decide +kernel
theorem dL_holds_183 : decode cL_holds 183 = .ok (.aload_n 0, 1) := by decide +kernel
theorem dL_holds_184 : decode cL_holds 184 = .ok (.iconst 1, 1) := by decide +kernel
theorem dL_holds_185 : decode cL_holds 185 = .ok (.iload 5, 2) := by decide +kernel
theorem dL_holds_187 : decode cL_holds 187 = .ok (.invokestatic 112, 3) := by decide +kernel
theorem dL_holds_190 : decode cL_holds 190 = .ok (.iconst 1, 1) := by decide +kernel
theorem dL_holds_191 : decode cL_holds 191 = .ok (.if_icmp .ne 35, 3) := by decide +kernel
theorem dL_holds_194 : decode cL_holds 194 = .ok (.iload 7, 2) := by decide +kernel
theorem dL_holds_196 : decode cL_holds 196 = .ok (.ifCond .eq 26, 3) := by decide +kernel
theorem dL_holds_199 : decode cL_holds 199 = .ok (.aload_n 0, 1) := by decide +kernel
theorem dL_holds_200 : decode cL_holds 200 = .ok (.iconst 0, 1) := by decide +kernel
theorem dL_holds_201 : decode cL_holds 201 = .ok (.iload 4, 2) := by decide +kernel
theorem dL_holds_203 : decode cL_holds 203 = .ok (.invokestatic 112, 3) := by decide +kernel
theorem dL_holds_206 : decode cL_holds 206 = .ok (.ifCond .eq 16, 3) := by decide +kernel
theorem dL_holds_209 : decode cL_holds 209 = .ok (.aload_n 0, 1) := by decide +kernel
theorem dL_holds_210 : decode cL_holds 210 = .ok (.iconst 0, 1) := by decide +kernel
theorem dL_holds_211 : decode cL_holds 211 = .ok (.iload 5, 2) := by decide +kernel
theorem dL_holds_213 : decode cL_holds 213 = .ok (.iload 4, 2) := by decide +kernel
theorem dL_holds_215 : decode cL_holds 215 = .ok (.invokestatic 119, 3) := by decide +kernel
theorem dL_holds_218 : decode cL_holds 218 = .ok (.iconst 1, 1) := by decide +kernel
theorem dL_holds_219 : decode cL_holds 219 = .ok (.if_icmp .ne 7, 3) := by decide +kernel
theorem dL_holds_222 : decode cL_holds 222 = .ok (.iconst 1, 1) := by decide +kernel
theorem dL_holds_223 : decode cL_holds 223 = .ok (.goto 4, 3) := by decide +kernel
theorem dL_holds_226 : decode cL_holds 226 = .ok (.iconst 0, 1) := by decide +kernel
theorem dL_holds_227 : decode cL_holds 227 = .ok (.istore_n 3, 1) := by decide +kernel
theorem dL_holds_228 : decode cL_holds 228 = .ok (.iinc 5 1, 3) := by decide +kernel
theorem dL_holds_231 : decode cL_holds 231 = .ok (.goto (-188), 3) := by decide +kernel
theorem dL_holds_234 : decode cL_holds 234 = .ok (.iconst 0, 1) := by decide +kernel
theorem dL_holds_235 : decode cL_holds 235 = .ok (.istore 5, 2) := by decide +kernel
theorem dL_holds_237 : decode cL_holds 237 = .ok (.iload 5, 2) := by decide +kernel
theorem dL_holds_239 : decode cL_holds 239 = .ok (.iconst 4, 1) := by decide +kernel
theorem dL_holds_240 : decode cL_holds 240 = .ok (.if_icmp .ge 212, 3) := by decide +kernel
theorem dL_holds_243 : decode cL_holds 243 = .ok (.iload_n 3, 1) := by decide +kernel
theorem dL_holds_244 : decode cL_holds 244 = .ok (.ifCond .eq 208, 3) := by decide +kernel
theorem dL_holds_247 : decode cL_holds 247 = .ok (.aload_n 0, 1) := by decide +kernel
theorem dL_holds_248 : decode cL_holds 248 = .ok (.iconst 0, 1) := by decide +kernel
theorem dL_holds_249 : decode cL_holds 249 = .ok (.iload 5, 2) := by decide +kernel
theorem dL_holds_251 : decode cL_holds 251 = .ok (.invokestatic 85, 3) := by decide +kernel
theorem dL_holds_254 : decode cL_holds 254 = .ok (.istore 6, 2) := by decide +kernel
theorem dL_holds_256 : decode cL_holds 256 = .ok (.aload_n 0, 1) := by decide +kernel
theorem dL_holds_257 : decode cL_holds 257 = .ok (.iconst 1, 1) := by decide +kernel
theorem dL_holds_258 : decode cL_holds 258 = .ok (.iload 5, 2) := by decide +kernel
theorem dL_holds_260 : decode cL_holds 260 = .ok (.invokestatic 85, 3) := by decide +kernel
theorem dL_holds_263 : decode cL_holds 263 = .ok (.istore 7, 2) := by decide +kernel
theorem dL_holds_265 : decode cL_holds 265 = .ok (.iload 6, 2) := by decide +kernel
theorem dL_holds_267 : decode cL_holds 267 = .ok (.ifCond .lt 14, 3) := by decide +kernel
theorem dL_holds_270 : decode cL_holds 270 = .ok (.aload_n 0, 1) := by decide +kernel
theorem dL_holds_271 : decode cL_holds 271 = .ok (.iconst 0, 1) := by decide +kernel
theorem dL_holds_272 : decode cL_holds 272 = .ok (.iload 6, 2) := by decide +kernel
theorem dL_holds_274 : decode cL_holds 274 = .ok (.invokestatic 112, 3) := by decide +kernel
theorem dL_holds_277 : decode cL_holds 277 = .ok (.iconst 1, 1) := by decide +kernel
theorem dL_holds_278 : decode cL_holds 278 = .ok (.if_icmp .ne 23, 3) := by decide +kernel
theorem dL_holds_281 : decode cL_holds 281 = .ok (.iload 7, 2) := by decide +kernel
theorem dL_holds_283 : decode cL_holds 283 = .ok (.ifCond .lt 14, 3) := by decide +kernel
theorem dL_holds_286 : decode cL_holds 286 = .ok (.aload_n 0, 1) := by decide +kernel
theorem dL_holds_287 : decode cL_holds 287 = .ok (.iconst 1, 1) := by decide +kernel
theorem dL_holds_288 : decode cL_holds 288 = .ok (.iload 7, 2) := by decide +kernel
theorem dL_holds_290 : decode cL_holds 290 = .ok (.invokestatic 112, 3) := by decide +kernel
theorem dL_holds_293 : decode cL_holds 293 = .ok (.iconst 1, 1) := by decide +kernel
theorem dL_holds_294 : decode cL_holds 294 = .ok (.if_icmp .ne 7, 3) := by decide +kernel
theorem dL_holds_297 : decode cL_holds 297 = .ok (.iconst 1, 1) := by decide +kernel
theorem dL_holds_298 : decode cL_holds 298 = .ok (.goto 4, 3) := by decide +kernel
theorem dL_holds_301 : decode cL_holds 301 = .ok (.iconst 0, 1) := by decide +kernel
theorem dL_holds_302 : decode cL_holds 302 = .ok (.istore_n 3, 1) := by decide +kernel
theorem dL_holds_303 : decode cL_holds 303 = .ok (.iload_n 3, 1) := by decide +kernel
theorem dL_holds_304 : decode cL_holds 304 = .ok (.ifCond .eq 142, 3) := by decide +kernel
theorem dL_holds_307 : decode cL_holds 307 = .ok (.iload 6, 2) := by decide +kernel
theorem dL_holds_309 : decode cL_holds 309 = .ok (.ifCond .lt 137, 3) := by decide +kernel
theorem dL_holds_312 : decode cL_holds 312 = .ok (.iconst 0, 1) := by decide +kernel
theorem dL_holds_313 : decode cL_holds 313 = .ok (.istore 8, 2) := by decide +kernel
theorem dL_holds_315 : decode cL_holds 315 = .ok (.iconst 0, 1) := by decide +kernel
theorem dL_holds_316 : decode cL_holds 316 = .ok (.istore 9, 2) := by decide +kernel
theorem dL_holds_318 : decode cL_holds 318 = .ok (.iload 9, 2) := by decide +kernel
theorem dL_holds_320 : decode cL_holds 320 = .ok (.iload 6, 2) := by decide +kernel
theorem dL_holds_322 : decode cL_holds 322 = .ok (.if_icmp .gt 42, 3) := by decide +kernel
theorem dL_holds_325 : decode cL_holds 325 = .ok (.iload 8, 2) := by decide +kernel
theorem dL_holds_327 : decode cL_holds 327 = .ok (.aload_n 0, 1) := by decide +kernel
theorem dL_holds_328 : decode cL_holds 328 = .ok (.iconst 0, 1) := by decide +kernel
theorem dL_holds_329 : decode cL_holds 329 = .ok (.iload 9, 2) := by decide +kernel
theorem dL_holds_331 : decode cL_holds 331 = .ok (.iload 6, 2) := by decide +kernel
theorem dL_holds_333 : decode cL_holds 333 = .ok (.invokestatic 119, 3) := by decide +kernel
theorem dL_holds_336 : decode cL_holds 336 = .ok (.iconst 1, 1) := by decide +kernel
theorem dL_holds_337 : decode cL_holds 337 = .ok (.if_icmp .ne 17, 3) := by decide +kernel
theorem dL_holds_340 : decode cL_holds 340 = .ok (.aload_n 0, 1) := by decide +kernel
theorem dL_holds_341 : decode cL_holds 341 = .ok (.iconst 1, 1) := by decide +kernel
theorem dL_holds_342 : decode cL_holds 342 = .ok (.iload 9, 2) := by decide +kernel
theorem dL_holds_344 : decode cL_holds 344 = .ok (.invokestatic 112, 3) := by decide +kernel
theorem dL_holds_347 : decode cL_holds 347 = .ok (.ifCond .ne 7, 3) := by decide +kernel
theorem dL_holds_350 : decode cL_holds 350 = .ok (.iconst 1, 1) := by decide +kernel
theorem dL_holds_351 : decode cL_holds 351 = .ok (.goto 4, 3) := by decide +kernel
theorem dL_holds_354 : decode cL_holds 354 = .ok (.iconst 0, 1) := by decide +kernel
theorem dL_holds_355 : decode cL_holds 355 = .ok (.iadd, 1) := by decide +kernel
theorem dL_holds_356 : decode cL_holds 356 = .ok (.istore 8, 2) := by decide +kernel
theorem dL_holds_358 : decode cL_holds 358 = .ok (.iinc 9 1, 3) := by decide +kernel
