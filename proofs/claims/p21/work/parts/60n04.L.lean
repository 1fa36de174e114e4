theorem dL_act_12 : decode cL_act 12 = .ok (.iconst 4, 1) := by decide +kernel
theorem dL_act_13 : decode cL_act 13 = .ok (.irem, 1) := by decide +kernel
theorem dL_act_14 : decode cL_act 14 = .ok (.istore 4, 2) := by decide +kernel
theorem dL_act_16 : decode cL_act 16 = .ok (.iload_n 1, 1) := by decide +kernel
theorem dL_act_17 : decode cL_act 17 = .ok (.bipush 32, 2) := by decide +kernel
theorem dL_act_19 : decode cL_act 19 = .ok (.irem, 1) := by decide +kernel
theorem dL_act_20 : decode cL_act 20 = .ok (.tableswitch 358 0 27 #[128, 128, 128, 128, 128, 128, 128, 128, 194, 194, 194, 194, 227, 227, 227, 227, 227, 269, 278, 299, 299, 299, 299, 299, 353, 353, 353, 353], 128) := by decide +kernel
theorem dL_act_148 : decode cL_act 148 = .ok (.aload_n 0, 1) := by decide +kernel
theorem dL_act_149 : decode cL_act 149 = .ok (.iload_n 3, 1) := by decide +kernel
theorem dL_act_150 : decode cL_act 150 = .ok (.iload_n 2, 1) := by decide +kernel
theorem dL_act_151 : decode cL_act 151 = .ok (.iconst 2, 1) := by decide +kernel
theorem dL_act_152 : decode cL_act 152 = .ok (.idiv, 1) := by decide +kernel
theorem dL_act_153 : decode cL_act 153 = .ok (.bipush 9, 2) := by decide +kernel
theorem dL_act_155 : decode cL_act 155 = .ok (.irem, 1) := by decide +kernel
theorem dL_act_156 : decode cL_act 156 = .ok (.invokestatic 122, 3) := by decide +kernel
theorem dL_act_159 : decode cL_act 159 = .ok (.istore 5, 2) := by decide +kernel
theorem dL_act_161 : decode cL_act 161 = .ok (.aload_n 0, 1) := by decide +kernel
theorem dL_act_162 : decode cL_act 162 = .ok (.iload_n 3, 1) := by decide +kernel
theorem dL_act_163 : decode cL_act 163 = .ok (.iload 5, 2) := by decide +kernel
theorem dL_act_165 : decode cL_act 165 = .ok (.iload_n 2, 1) := by decide +kernel
theorem dL_act_166 : decode cL_act 166 = .ok (.bipush 18, 2) := by decide +kernel
theorem dL_act_168 : decode cL_act 168 = .ok (.idiv, 1) := by decide +kernel
theorem dL_act_169 : decode cL_act 169 = .ok (.iconst 3, 1) := by decide +kernel
theorem dL_act_170 : decode cL_act 170 = .ok (.irem, 1) := by decide +kernel
theorem dL_act_171 : decode cL_act 171 = .ok (.ifCond .gt 8, 3) := by decide +kernel
theorem dL_act_174 : decode cL_act 174 = .ok (.iload 5, 2) := by decide +kernel
theorem dL_act_176 : decode cL_act 176 = .ok (.ifCond .ge 7, 3) := by decide +kernel
theorem dL_act_179 : decode cL_act 179 = .ok (.iconst (-1), 1) := by decide +kernel
theorem dL_act_180 : decode cL_act 180 = .ok (.goto 15, 3) := by decide +kernel
theorem dL_act_183 : decode cL_act 183 = .ok (.aload_n 0, 1) := by decide +kernel
theorem dL_act_184 : decode cL_act 184 = .ok (.iload_n 3, 1) := by decide +kernel
theorem dL_act_185 : decode cL_act 185 = .ok (.iload_n 2, 1) := by decide +kernel
theorem dL_act_186 : decode cL_act 186 = .ok (.bipush 54, 2) := by decide +kernel
theorem dL_act_188 : decode cL_act 188 = .ok (.idiv, 1) := by decide +kernel
theorem dL_act_189 : decode cL_act 189 = .ok (.bipush 9, 2) := by decide +kernel
theorem dL_act_191 : decode cL_act 191 = .ok (.irem, 1) := by decide +kernel
theorem dL_act_192 : decode cL_act 192 = .ok (.invokestatic 122, 3) := by decide +kernel
theorem dL_act_195 : decode cL_act 195 = .ok (.iload_n 2, 1) := by decide +kernel
theorem dL_act_196 : decode cL_act 196 = .ok (.bipush 7, 2) := by decide +kernel
theorem dL_act_198 : decode cL_act 198 = .ok (.idiv, 1) := by decide +kernel
theorem dL_act_199 : decode cL_act 199 = .ok (.iconst 4, 1) := by decide +kernel
theorem dL_act_200 : decode cL_act 200 = .ok (.irem, 1) := by decide +kernel
theorem dL_act_201 : decode cL_act 201 = .ok (.iload_n 2, 1) := by decide +kernel
theorem dL_act_202 : decode cL_act 202 = .ok (.bipush 28, 2) := by decide +kernel
theorem dL_act_204 : decode cL_act 204 = .ok (.idiv, 1) := by decide +kernel
theorem dL_act_205 : decode cL_act 205 = .ok (.bipush 31, 2) := by decide +kernel
theorem dL_act_207 : decode cL_act 207 = .ok (.irem, 1) := by decide +kernel
theorem dL_act_208 : decode cL_act 208 = .ok (.iconst 1, 1) := by decide +kernel
theorem dL_act_209 : decode cL_act 209 = .ok (.isub, 1) := by decide +kernel
theorem dL_act_210 : decode cL_act 210 = .ok (.invokestatic 75, 3) := by decide +kernel
theorem dL_act_213 : decode cL_act 213 = .ok (.ireturn, 1) := by decide +kernel
theorem dL_act_214 : decode cL_act 214 = .ok (.aload_n 0, 1) := by decide +kernel
theorem dL_act_215 : decode cL_act 215 = .ok (.iload_n 3, 1) := by decide +kernel
theorem dL_act_216 : decode cL_act 216 = .ok (.iload 4, 2) := by decide +kernel
theorem dL_act_218 : decode cL_act 218 = .ok (.iload_n 2, 1) := by decide +kernel
theorem dL_act_219 : decode cL_act 219 = .ok (.bipush 8, 2) := by decide +kernel
theorem dL_act_221 : decode cL_act 221 = .ok (.idiv, 1) := by decide +kernel
theorem dL_act_222 : decode cL_act 222 = .ok (.iconst 5, 1) := by decide +kernel
theorem dL_act_223 : decode cL_act 223 = .ok (.irem, 1) := by decide +kernel
theorem dL_act_224 : decode cL_act 224 = .ok (.ifCond .ne 7, 3) := by decide +kernel
theorem dL_act_227 : decode cL_act 227 = .ok (.iconst (-1), 1) := by decide +kernel
theorem dL_act_228 : decode cL_act 228 = .ok (.goto 15, 3) := by decide +kernel
theorem dL_act_231 : decode cL_act 231 = .ok (.aload_n 0, 1) := by decide +kernel
theorem dL_act_232 : decode cL_act 232 = .ok (.iload_n 3, 1) := by decide +kernel
theorem dL_act_233 : decode cL_act 233 = .ok (.iload_n 2, 1) := by decide +kernel
theorem dL_act_234 : decode cL_act 234 = .ok (.bipush 40, 2) := by decide +kernel
theorem dL_act_236 : decode cL_act 236 = .ok (.idiv, 1) := by decide +kernel
theorem dL_act_237 : decode cL_act 237 = .ok (.bipush 9, 2) := by decide +kernel
theorem dL_act_239 : decode cL_act 239 = .ok (.irem, 1) := by decide +kernel
theorem dL_act_240 : decode cL_act 240 = .ok (.invokestatic 122, 3) := by decide +kernel
theorem dL_act_243 : decode cL_act 243 = .ok (.invokestatic 81, 3) := by decide +kernel
theorem dL_act_246 : decode cL_act 246 = .ok (.ireturn, 1) := by decide +kernel
theorem dL_act_247 : decode cL_act 247 = .ok (.aload_n 0, 1) := by decide +kernel
theorem dL_act_248 : decode cL_act 248 = .ok (.iload 4, 2) := by decide +kernel
theorem dL_act_250 : decode cL_act 250 = .ok (.iload_n 2, 1) := by decide +kernel
theorem dL_act_251 : decode cL_act 251 = .ok (.bipush 8, 2) := by decide +kernel
theorem dL_act_253 : decode cL_act 253 = .ok (.idiv, 1) := by decide +kernel
theorem dL_act_254 : decode cL_act 254 = .ok (.iconst 3, 1) := by decide +kernel
theorem dL_act_255 : decode cL_act 255 = .ok (.irem, 1) := by decide +kernel
theorem dL_act_256 : decode cL_act 256 = .ok (.ifCond .ne 7, 3) := by decide +kernel
theorem dL_act_259 : decode cL_act 259 = .ok (.iconst 0, 1) := by decide +kernel
theorem dL_act_260 : decode cL_act 260 = .ok (.goto 10, 3) := by decide +kernel
theorem dL_act_263 : decode cL_act 263 = .ok (.iload_n 2, 1) := by decide +kernel
theorem dL_act_264 : decode cL_act 264 = .ok (.bipush 24, 2) := by decide +kernel
theorem dL_act_266 : decode cL_act 266 = .ok (.idiv, 1) := by decide +kernel
theorem dL_act_267 : decode cL_act 267 = .ok (.bipush 6, 2) := by decide +kernel
theorem dL_act_269 : decode cL_act 269 = .ok (.irem, 1) := by decide +kernel
theorem dL_act_270 : decode cL_act 270 = .ok (.iload_n 2, 1) := by decide +kernel
theorem dL_act_271 : decode cL_act 271 = .ok (.sipush 144, 3) := by decide +kernel
theorem dL_act_274 : decode cL_act 274 = .ok (.idiv, 1) := by decide +kernel
theorem dL_act_275 : decode cL_act 275 = .ok (.iconst 2, 1) := by decide +kernel
theorem dL_act_276 : decode cL_act 276 = .ok (.irem, 1) := by decide +kernel
theorem dL_act_277 : decode cL_act 277 = .ok (.ifCond .ne 7, 3) := by decide +kernel
theorem dL_act_280 : decode cL_act 280 = .ok (.iconst 1, 1) := by decide +kernel
theorem dL_act_281 : decode cL_act 281 = .ok (.goto 4, 3) := by decide +kernel
theorem dL_act_284 : decode cL_act 284 = .ok (.iconst 0, 1) := by decide +kernel
theorem dL_act_285 : decode cL_act 285 = .ok (.invokestatic 91, 3) := by decide +kernel
theorem dL_act_288 : decode cL_act 288 = .ok (.ireturn, 1) := by decide +kernel
theorem dL_act_289 : decode cL_act 289 = .ok (.aload_n 0, 1) := by decide +kernel
theorem dL_act_290 : decode cL_act 290 = .ok (.iload_n 2, 1) := by decide +kernel
theorem dL_act_291 : decode cL_act 291 = .ok (.bipush 30, 2) := by decide +kernel
theorem dL_act_293 : decode cL_act 293 = .ok (.irem, 1) := by decide +kernel
theorem dL_act_294 : decode cL_act 294 = .ok (.invokestatic 98, 3) := by decide +kernel
theorem dL_act_297 : decode cL_act 297 = .ok (.ireturn, 1) := by decide +kernel
theorem dL_act_298 : decode cL_act 298 = .ok (.aload_n 0, 1) := by decide +kernel
theorem dL_act_299 : decode cL_act 299 = .ok (.iload 4, 2) := by decide +kernel
theorem dL_act_301 : decode cL_act 301 = .ok (.iload_n 2, 1) := by decide +kernel
theorem dL_act_302 : decode cL_act 302 = .ok (.bipush 8, 2) := by decide +kernel
theorem dL_act_304 : decode cL_act 304 = .ok (.idiv, 1) := by decide +kernel
theorem dL_act_305 : decode cL_act 305 = .ok (.iconst 2, 1) := by decide +kernel
theorem dL_act_306 : decode cL_act 306 = .ok (.irem, 1) := by decide +kernel
theorem dL_act_307 : decode cL_act 307 = .ok (.ifCond .ne 7, 3) := by decide +kernel
theorem dL_act_310 : decode cL_act 310 = .ok (.iconst 1, 1) := by decide +kernel
theorem dL_act_311 : decode cL_act 311 = .ok (.goto 4, 3) := by decide +kernel
theorem dL_act_314 : decode cL_act 314 = .ok (.iconst 0, 1) := by decide +kernel
theorem dL_act_315 : decode cL_act 315 = .ok (.invokestatic 102, 3) := by decide +kernel
theorem dL_act_318 : decode cL_act 318 = .ok (.ireturn, 1) := by decide +kernel
theorem dL_act_319 : decode cL_act 319 = .ok (.aload_n 0, 1) := by decide +kernel
theorem dL_act_320 : decode cL_act 320 = .ok (.iload 4, 2) := by decide +kernel
theorem dL_act_322 : decode cL_act 322 = .ok (.iload_n 2, 1) := by decide +kernel
theorem dL_act_323 : decode cL_act 323 = .ok (.bipush 8, 2) := by decide +kernel
theorem dL_act_325 : decode cL_act 325 = .ok (.idiv, 1) := by decide +kernel
theorem dL_act_326 : decode cL_act 326 = .ok (.bipush 6, 2) := by decide +kernel
theorem dL_act_328 : decode cL_act 328 = .ok (.irem, 1) := by decide +kernel
theorem dL_act_329 : decode cL_act 329 = .ok (.ifCond .ne 7, 3) := by decide +kernel
theorem dL_act_332 : decode cL_act 332 = .ok (.iconst (-1), 1) := by decide +kernel
theorem dL_act_333 : decode cL_act 333 = .ok (.goto 10, 3) := by decide +kernel
theorem dL_act_336 : decode cL_act 336 = .ok (.aload_n 0, 1) := by decide +kernel
theorem dL_act_337 : decode cL_act 337 = .ok (.iconst 0, 1) := by decide +kernel
theorem dL_act_338 : decode cL_act 338 = .ok (.iload 4, 2) := by decide +kernel
theorem dL_act_340 : decode cL_act 340 = .ok (.invokestatic 85, 3) := by decide +kernel
theorem dL_act_343 : decode cL_act 343 = .ok (.iload_n 2, 1) := by decide +kernel
theorem dL_act_344 : decode cL_act 344 = .ok (.bipush 96, 2) := by decide +kernel
theorem dL_act_346 : decode cL_act 346 = .ok (.idiv, 1) := by decide +kernel
theorem dL_act_347 : decode cL_act 347 = .ok (.bipush 7, 2) := by decide +kernel
theorem dL_act_349 : decode cL_act 349 = .ok (.irem, 1) := by decide +kernel
theorem dL_act_350 : decode cL_act 350 = .ok (.ifCond .ne 7, 3) := by decide +kernel
theorem dL_act_353 : decode cL_act 353 = .ok (.iconst (-1), 1) := by decide +kernel
theorem dL_act_354 : decode cL_act 354 = .ok (.goto 15, 3) := by decide +kernel
theorem dL_act_357 : decode cL_act 357 = .ok (.aload_n 0, 1) := by decide +kernel
theorem dL_act_358 : decode cL_act 358 = .ok (.iconst 1, 1) := by decide +kernel
theorem dL_act_359 : decode cL_act 359 = .ok (.iload_n 2, 1) := by decide +kernel
theorem dL_act_360 : decode cL_act 360 = .ok (.bipush 13, 2) := by decide +kernel
theorem dL_act_362 : decode cL_act 362 = .ok (.idiv, 1) := by decide +kernel
theorem dL_act_363 : decode cL_act 363 = .ok (.bipush 9, 2) := by decide +kernel
theorem dL_act_365 : decode cL_act 365 = .ok (.irem, 1) := by decide +kernel
theorem dL_act_366 : decode cL_act 366 = .ok (.invokestatic 122, 3) := by decide +kernel
theorem dL_act_369 : decode cL_act 369 = .ok (.invokestatic 106, 3) := by decide +kernel
theorem dL_act_372 : decode cL_act 372 = .ok (.ireturn, 1) := by decide +kernel
theorem dL_act_373 : decode cL_act 373 = .ok (.aload_n 0, 1) := by decide +kernel
theorem dL_act_374 : decode cL_act 374 = .ok (.invokevirtual 125, 3) := by decide +kernel
theorem dL_act_377 : decode cL_act 377 = .ok (.ireturn, 1) := by decide +kernel
theorem dL_act_378 : decode cL_act 378 = .ok (.iload_n 2, 1) := by decide +kernel
theorem dL_act_379 : decode cL_act 379 = .ok (.iconst 3, 1) := by decide +kernel
theorem dL_act_380 : decode cL_act 380 = .ok (.irem, 1) := by decide +kernel
theorem dL_act_381 : decode cL_act 381 = .ok (.ifCond .le 10, 3) := by decide +kernel
theorem dL_act_384 : decode cL_act 384 = .ok (.aload_n 0, 1) := by decide +kernel
theorem dL_act_385 : decode cL_act 385 = .ok (.invokevirtual 128, 3) := by decide +kernel
theorem dL_act_388 : decode cL_act 388 = .ok (.goto 12, 3) := by decide +kernel
theorem dL_act_391 : decode cL_act 391 = .ok (.aload_n 0, 1) := by decide +kernel
theorem dL_act_392 : decode cL_act 392 = .ok (.iload_n 2, 1) := by decide +kernel
theorem dL_act_393 : decode cL_act 393 = .ok (.iconst 3, 1) := by decide +kernel
theorem dL_act_394 : decode cL_act 394 = .ok (.idiv, 1) := by decide +kernel
theorem dL_act_395 : decode cL_act 395 = .ok (.iconst 2, 1) := by decide +kernel
theorem dL_act_396 : decode cL_act 396 = .ok (.irem, 1) := by decide +kernel
theorem dL_act_397 : decode cL_act 397 = .ok (.invokestatic 109, 3) := by decide +kernel
theorem dL_act_400 : decode cL_act 400 = .ok (.ireturn, 1) := by decide +kernel
set_option maxRecDepth 20000 in
theorem ggL_alike_X2_commits : GoodIn wsL_alike wsX2_commits := goodIn_r _ [5, 6, 7, 8, 9, 10, 11, 12, 146, 147, 148, 149, 150, 151, 152, 153, 154, 155, 156, 157, 158, 159, 160] (by decide +kernel) (by decide +kernel)
set_option maxRecDepth 20000 in
theorem gL_alike_X2_commits : GoodIn wsL_alike (wsV RL 71 RX2 yX2_commits wsX2_commits) := goodIn_app (goodIn_of _ (by decide +kernel)) ggL_alike_X2_commits
set_option maxRecDepth 20000 in
theorem ggL_alike_X2_rounds : GoodIn wsL_alike wsX2_rounds := goodIn_r _ [16, 17, 146, 147, 148, 149, 150, 151, 152, 153, 154] (by decide +kernel) (by decide +kernel)
set_option maxRecDepth 20000 in
theorem gL_alike_X2_rounds : GoodIn wsL_alike (wsV RL 131 RX2 yX2_rounds wsX2_rounds) := goodIn_app (goodIn_of _ (by decide +kernel)) ggL_alike_X2_rounds
set_option maxRecDepth 20000 in
theorem ggL_alike_X2_missing : GoodIn wsL_alike wsX2_missing := goodIn_r _ [21, 22, 6, 23, 24, 25, 10, 26, 27, 12, 28, 4, 29, 30, 31, 32, 33, 34, 35, 36, 37, 38, 39, 40, 41, 42, 43, 44, 45, 46, 47, 48, 49, 50, 51, 52, 53, 54, 55, 146, 147, 148, 149, 150, 151, 152, 153, 154, 161, 162, 163, 155, 156, 157, 158, 159, 160] (by decide +kernel) (by decide +kernel)
set_option maxRecDepth 20000 in
theorem gL_alike_X2_missing : GoodIn wsL_alike (wsV RL 128 RX2 yX2_missing wsX2_missing) := goodIn_app (goodIn_of _ (by decide +kernel)) ggL_alike_X2_missing
set_option maxRecDepth 20000 in
theorem ggL_alike_L_ref : GoodIn wsL_alike wsL_ref := goodIn_ca (goodIn_r _ [59, 60, 61, 62, 63, 64, 4, 65, 66, 67, 68, 69, 70, 71, 72, 22, 73, 74, 75, 76, 77, 78, 79, 80, 81, 53, 82, 83, 146, 147, 148, 149, 150, 151, 152, 153, 154, 161, 162, 163] (by decide +kernel) (by decide +kernel)) (goodIn_sub (fun _ h => List.mem_cons_of_mem _ (List.mem_append_left _ (List.mem_append_right _ h))) (by decide +kernel))
set_option maxRecDepth 20000 in
theorem gL_alike_L_ref : GoodIn wsL_alike (va_wsS RL 85 yL_ref wsL_ref) := goodIn_app (goodIn_of _ (by decide +kernel)) ggL_alike_L_ref
set_option maxRecDepth 20000 in
theorem ggL_alike_L_has : GoodIn wsL_alike wsL_has := goodIn_ca (goodIn_r _ [86, 60, 61, 87, 88, 89, 4, 90, 66, 67, 68, 69, 70, 71, 72, 22, 91, 92, 93, 94, 6, 95, 43, 44, 10, 45, 12, 96, 28, 29, 30, 31, 32, 161, 162, 163, 146, 147, 148, 149, 150, 151, 152, 153, 154, 155, 156, 157, 158, 159, 160] (by decide +kernel) (by decide +kernel)) (goodIn_sub (fun _ h => List.mem_cons_of_mem _ (List.mem_append_left _ (List.mem_append_right _ h))) (by decide +kernel))
set_option maxRecDepth 20000 in
theorem gL_alike_L_has : GoodIn wsL_alike (va_wsS RL 112 yL_has wsL_has) := goodIn_app (goodIn_of _ (by decide +kernel)) ggL_alike_L_has
set_option maxRecDepth 20000 in
theorem ggL_alike_L_shallow : GoodIn wsL_alike wsL_shallow := goodIn_ca (goodIn_r _ [99, 60, 61, 100, 101, 102, 4, 103, 6, 22, 91, 92, 93, 94, 70, 71, 95, 43, 44, 10, 45, 12, 104, 105, 106, 107, 108, 28, 29, 30, 31, 32, 109, 110, 111, 112, 113, 114, 42, 96, 146, 147, 148, 149, 150, 151, 152, 153, 154, 161, 162, 163, 155, 156, 157, 158, 159, 160] (by decide +kernel) (by decide +kernel)) (goodIn_sub (fun _ h => List.mem_cons_of_mem _ (List.mem_append_left _ (List.mem_append_right _ h))) (by decide +kernel))
set_option maxRecDepth 20000 in
theorem gL_alike_L_shallow : GoodIn wsL_alike (va_wsS RL 116 yL_shallow wsL_shallow) := goodIn_app (goodIn_of _ (by decide +kernel)) ggL_alike_L_shallow
set_option maxRecDepth 20000 in
theorem ggL_alike_L_file : GoodIn wsL_alike wsL_file := goodIn_ca (goodIn_r _ [117, 60, 61, 118, 119, 120, 4, 121, 6, 91, 92, 93, 94, 70, 71, 95, 43, 44, 10, 45, 12, 122, 123, 124, 125, 46, 47, 126, 38, 39, 40, 41, 42, 146, 147, 148, 149, 150, 151, 152, 153, 154, 155, 156, 157, 158, 159, 160] (by decide +kernel) (by decide +kernel)) (goodIn_sub (fun _ h => List.mem_cons_of_mem _ (List.mem_append_left _ (List.mem_append_right _ h))) (by decide +kernel))
set_option maxRecDepth 20000 in
theorem gL_alike_L_file : GoodIn wsL_alike (va_wsS RL 88 yL_file wsL_file) := goodIn_app (goodIn_of _ (by decide +kernel)) ggL_alike_L_file
set_option maxRecDepth 20000 in
theorem ggL_alike_L_hasFile : GoodIn wsL_alike wsL_hasFile := goodIn_ca (goodIn_ca (goodIn_r _ [129, 60, 130, 61, 131, 132, 133, 134, 4, 135, 66, 67, 68, 69, 70, 71, 72, 22, 136, 137, 138, 139, 140, 141, 48, 49, 142, 143, 144, 53, 145, 55, 146, 147, 148, 149, 150, 151, 152, 153, 154, 161, 162, 163] (by decide +kernel) (by decide +kernel)) (goodIn_sub (fun _ h => List.mem_cons_of_mem _ (List.mem_append_left _ (List.mem_append_right _ h))) (by decide +kernel))) (goodIn_sub (fun _ h => List.mem_cons_of_mem _ (List.mem_append_right _ h)) (by decide +kernel))
set_option maxRecDepth 20000 in
theorem gL_alike_L_hasFile : GoodIn wsL_alike (va_wsS RL 114 yL_hasFile wsL_hasFile) := goodIn_app (goodIn_of _ (by decide +kernel)) ggL_alike_L_hasFile
theorem dL_alike_0 : decode cL_alike 0 = .ok (.aload_n 0, 1) := by decide +kernel
theorem dL_alike_1 : decode cL_alike 1 = .ok (.invokevirtual 71, 3) := by decide +kernel
theorem dL_alike_4 : decode cL_alike 4 = .ok (.aload_n 1, 1) := by decide +kernel
theorem dL_alike_5 : decode cL_alike 5 = .ok (.invokevirtual 71, 3) := by decide +kernel
theorem dL_alike_8 : decode cL_alike 8 = .ok (.if_icmp .ne 29, 3) := by decide +kernel
theorem dL_alike_11 : decode cL_alike 11 = .ok (.aload_n 0, 1) := by decide +kernel
theorem dL_alike_12 : decode cL_alike 12 = .ok (.invokevirtual 131, 3) := by decide +kernel
theorem dL_alike_15 : decode cL_alike 15 = .ok (.aload_n 1, 1) := by decide +kernel
theorem dL_alike_16 : decode cL_alike 16 = .ok (.invokevirtual 131, 3) := by decide +kernel
theorem dL_alike_19 : decode cL_alike 19 = .ok (.if_icmp .ne 18, 3) := by decide +kernel
theorem dL_alike_22 : decode cL_alike 22 = .ok (.aload_n 0, 1) := by decide +kernel
theorem dL_alike_23 : decode cL_alike 23 = .ok (.invokevirtual 128, 3) := by decide +kernel
theorem dL_alike_26 : decode cL_alike 26 = .ok (.aload_n 1, 1) := by decide +kernel
theorem dL_alike_27 : decode cL_alike 27 = .ok (.invokevirtual 128, 3) := by decide +kernel
theorem dL_alike_30 : decode cL_alike 30 = .ok (.if_icmp .ne 7, 3) := by decide +kernel
theorem dL_alike_33 : decode cL_alike 33 = .ok (.iconst 1, 1) := by decide +kernel
theorem dL_alike_34 : decode cL_alike 34 = .ok (.goto 4, 3) := by decide +kernel
theorem dL_alike_37 : decode cL_alike 37 = .ok (.iconst 0, 1) := by decide +kernel
theorem dL_alike_38 : decode cL_alike 38 = .ok (.istore_n 3, 1) := by decide +kernel
theorem dL_alike_39 : decode cL_alike 39 = .ok (.iconst 0, 1) := by decide +kernel
theorem dL_alike_40 : decode cL_alike 40 = .ok (.istore 4, 2) := by decide +kernel
theorem dL_alike_42 : decode cL_alike 42 = .ok (.iload 4, 2) := by decide +kernel
theorem dL_alike_44 : decode cL_alike 44 = .ok (.bipush 8, 2) := by decide +kernel
theorem dL_alike_46 : decode cL_alike 46 = .ok (.if_icmp .ge 46, 3) := by decide +kernel
theorem dL_alike_49 : decode cL_alike 49 = .ok (.iload_n 3, 1) := by decide +kernel
theorem dL_alike_50 : decode cL_alike 50 = .ok (.ifCond .eq 42, 3) := by decide +kernel
theorem dL_alike_53 : decode cL_alike 53 = .ok (.aload_n 0, 1) := by decide +kernel
theorem dL_alike_54 : decode cL_alike 54 = .ok (.iload 4, 2) := by decide +kernel
theorem dL_alike_56 : decode cL_alike 56 = .ok (.iconst 4, 1) := by decide +kernel
theorem dL_alike_57 : decode cL_alike 57 = .ok (.idiv, 1) := by decide +kernel
theorem dL_alike_58 : decode cL_alike 58 = .ok (.iload 4, 2) := by decide +kernel
theorem dL_alike_60 : decode cL_alike 60 = .ok (.iconst 4, 1) := by decide +kernel
theorem dL_alike_61 : decode cL_alike 61 = .ok (.irem, 1) := by decide +kernel
theorem dL_alike_62 : decode cL_alike 62 = .ok (.invokestatic 85, 3) := by decide +kernel
theorem dL_alike_65 : decode cL_alike 65 = .ok (.aload_n 1, 1) := by decide +kernel
theorem dL_alike_66 : decode cL_alike 66 = .ok (.iload 4, 2) := by decide +kernel
theorem dL_alike_68 : decode cL_alike 68 = .ok (.iconst 4, 1) := by decide +kernel
theorem dL_alike_69 : decode cL_alike 69 = .ok (.idiv, 1) := by decide +kernel
theorem dL_alike_70 : decode cL_alike 70 = .ok (.iload 4, 2) := by decide +kernel
theorem dL_alike_72 : decode cL_alike 72 = .ok (.iconst 4, 1) := by decide +kernel
theorem dL_alike_73 : decode cL_alike 73 = .ok (.irem, 1) := by decide +kernel
theorem dL_alike_74 : decode cL_alike 74 = .ok (.invokestatic 85, 3) := by decide +kernel
theorem dL_alike_77 : decode cL_alike 77 = .ok (.if_icmp .ne 7, 3) := by decide +kernel
theorem dL_alike_80 : decode cL_alike 80 = .ok (.iconst 1, 1) := by decide +kernel
theorem dL_alike_81 : decode cL_alike 81 = .ok (.goto 4, 3) := by decide +kernel
theorem dL_alike_84 : decode cL_alike 84 = .ok (.iconst 0, 1) := by decide +kernel
theorem dL_alike_85 : decode cL_alike 85 = .ok (.istore_n 3, 1) := by decide +kernel
theorem dL_alike_86 : decode cL_alike 86 = .ok (.iinc 4 1, 3) := by decide +kernel
theorem dL_alike_89 : decode cL_alike 89 = .ok (.goto (-47), 3) := by decide +kernel
theorem dL_alike_92 : decode cL_alike 92 = .ok (.iconst 0, 1) := by decide +kernel
theorem dL_alike_93 : decode cL_alike 93 = .ok (.istore 4, 2) := by decide +kernel
theorem dL_alike_95 : decode cL_alike 95 = .ok (.iload 4, 2) := by decide +kernel
theorem dL_alike_97 : decode cL_alike 97 = .ok (.aload_n 0, 1) := by decide +kernel
theorem dL_alike_98 : decode cL_alike 98 = .ok (.invokevirtual 71, 3) := by decide +kernel
theorem dL_alike_101 : decode cL_alike 101 = .ok (.if_icmp .ge 89, 3) := by decide +kernel
theorem dL_alike_104 : decode cL_alike 104 = .ok (.iload_n 3, 1) := by decide +kernel
theorem dL_alike_105 : decode cL_alike 105 = .ok (.ifCond .eq 85, 3) := by decide +kernel
theorem dL_alike_108 : decode cL_alike 108 = .ok (.aload_n 0, 1) := by decide +kernel
theorem dL_alike_109 : decode cL_alike 109 = .ok (.iconst 0, 1) := by decide +kernel
theorem dL_alike_110 : decode cL_alike 110 = .ok (.iload 4, 2) := by decide +kernel
theorem dL_alike_112 : decode cL_alike 112 = .ok (.invokestatic 112, 3) := by decide +kernel
theorem dL_alike_115 : decode cL_alike 115 = .ok (.aload_n 1, 1) := by decide +kernel
theorem dL_alike_116 : decode cL_alike 116 = .ok (.iconst 0, 1) := by decide +kernel
theorem dL_alike_117 : decode cL_alike 117 = .ok (.iload 4, 2) := by decide +kernel
theorem dL_alike_119 : decode cL_alike 119 = .ok (.invokestatic 112, 3) := by decide +kernel
theorem dL_alike_122 : decode cL_alike 122 = .ok (.if_icmp .ne 60, 3) := by decide +kernel
theorem dL_alike_125 : decode cL_alike 125 = .ok (.aload_n 0, 1) := by decide +kernel
theorem dL_alike_126 : decode cL_alike 126 = .ok (.iconst 1, 1) := by decide +kernel
theorem dL_alike_127 : decode cL_alike 127 = .ok (.iload 4, 2) := by decide +kernel
theorem dL_alike_129 : decode cL_alike 129 = .ok (.invokestatic 112, 3) := by decide +kernel
theorem dL_alike_132 : decode cL_alike 132 = .ok (.aload_n 1, 1) := by decide +kernel
theorem dL_alike_133 : decode cL_alike 133 = .ok (.iconst 1, 1) := by decide +kernel
theorem dL_alike_134 : decode cL_alike 134 = .ok (.iload 4, 2) := by decide +kernel
theorem dL_alike_136 : decode cL_alike 136 = .ok (.invokestatic 112, 3) := by decide +kernel
theorem dL_alike_139 : decode cL_alike 139 = .ok (.if_icmp .ne 43, 3) := by decide +kernel
theorem dL_alike_142 : decode cL_alike 142 = .ok (.aload_n 0, 1) := by decide +kernel
theorem dL_alike_143 : decode cL_alike 143 = .ok (.iload 4, 2) := by decide +kernel
