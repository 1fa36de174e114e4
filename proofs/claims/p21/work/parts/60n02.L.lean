theorem dL_refuses_28 : decode cL_refuses 28 = .ok (.isub, 1) := by decide +kernel
theorem dL_refuses_29 : decode cL_refuses 29 = .ok (.goto 10, 3) := by decide +kernel
theorem dL_refuses_32 : decode cL_refuses 32 = .ok (.iload 4, 2) := by decide +kernel
theorem dL_refuses_34 : decode cL_refuses 34 = .ok (.iload_n 2, 1) := by decide +kernel
theorem dL_refuses_35 : decode cL_refuses 35 = .ok (.bipush 50, 2) := by decide +kernel
theorem dL_refuses_37 : decode cL_refuses 37 = .ok (.irem, 1) := by decide +kernel
theorem dL_refuses_38 : decode cL_refuses 38 = .ok (.iadd, 1) := by decide +kernel
theorem dL_refuses_39 : decode cL_refuses 39 = .ok (.istore 5, 2) := by decide +kernel
theorem dL_refuses_41 : decode cL_refuses 41 = .ok (.iload_n 3, 1) := by decide +kernel
theorem dL_refuses_42 : decode cL_refuses 42 = .ok (.ifCond .eq 12, 3) := by decide +kernel
theorem dL_refuses_45 : decode cL_refuses 45 = .ok (.iconst (-1), 1) := by decide +kernel
theorem dL_refuses_46 : decode cL_refuses 46 = .ok (.iload_n 2, 1) := by decide +kernel
theorem dL_refuses_47 : decode cL_refuses 47 = .ok (.bipush 50, 2) := by decide +kernel
theorem dL_refuses_49 : decode cL_refuses 49 = .ok (.irem, 1) := by decide +kernel
theorem dL_refuses_50 : decode cL_refuses 50 = .ok (.isub, 1) := by decide +kernel
theorem dL_refuses_51 : decode cL_refuses 51 = .ok (.goto 9, 3) := by decide +kernel
theorem dL_refuses_54 : decode cL_refuses 54 = .ok (.iconst 2, 1) := by decide +kernel
theorem dL_refuses_55 : decode cL_refuses 55 = .ok (.iload_n 2, 1) := by decide +kernel
theorem dL_refuses_56 : decode cL_refuses 56 = .ok (.bipush 50, 2) := by decide +kernel
theorem dL_refuses_58 : decode cL_refuses 58 = .ok (.irem, 1) := by decide +kernel
theorem dL_refuses_59 : decode cL_refuses 59 = .ok (.iadd, 1) := by decide +kernel
theorem dL_refuses_60 : decode cL_refuses 60 = .ok (.istore 6, 2) := by decide +kernel
theorem dL_refuses_62 : decode cL_refuses 62 = .ok (.iload_n 3, 1) := by decide +kernel
theorem dL_refuses_63 : decode cL_refuses 63 = .ok (.ifCond .eq 12, 3) := by decide +kernel
theorem dL_refuses_66 : decode cL_refuses 66 = .ok (.iconst (-1), 1) := by decide +kernel
theorem dL_refuses_67 : decode cL_refuses 67 = .ok (.iload_n 2, 1) := by decide +kernel
theorem dL_refuses_68 : decode cL_refuses 68 = .ok (.bipush 50, 2) := by decide +kernel
theorem dL_refuses_70 : decode cL_refuses 70 = .ok (.irem, 1) := by decide +kernel
theorem dL_refuses_71 : decode cL_refuses 71 = .ok (.isub, 1) := by decide +kernel
theorem dL_refuses_72 : decode cL_refuses 72 = .ok (.goto 9, 3) := by decide +kernel
theorem dL_refuses_75 : decode cL_refuses 75 = .ok (.iconst 4, 1) := by decide +kernel
theorem dL_refuses_76 : decode cL_refuses 76 = .ok (.iload_n 2, 1) := by decide +kernel
theorem dL_refuses_77 : decode cL_refuses 77 = .ok (.bipush 50, 2) := by decide +kernel
theorem dL_refuses_79 : decode cL_refuses 79 = .ok (.irem, 1) := by decide +kernel
theorem dL_refuses_80 : decode cL_refuses 80 = .ok (.iadd, 1) := by decide +kernel
theorem dL_refuses_81 : decode cL_refuses 81 = .ok (.istore 7, 2) := by decide +kernel
theorem dL_refuses_83 : decode cL_refuses 83 = .ok (.aload_n 0, 1) := by decide +kernel
theorem dL_refuses_84 : decode cL_refuses 84 = .ok (.iload 6, 2) := by decide +kernel
theorem dL_refuses_86 : decode cL_refuses 86 = .ok (.iconst (-1), 1) := by decide +kernel
theorem dL_refuses_87 : decode cL_refuses 87 = .ok (.iconst (-1), 1) := by decide +kernel
theorem dL_refuses_88 : decode cL_refuses 88 = .ok (.iconst 0, 1) := by decide +kernel
theorem dL_refuses_89 : decode cL_refuses 89 = .ok (.iconst 0, 1) := by decide +kernel
theorem dL_refuses_90 : decode cL_refuses 90 = .ok (.invokestatic 75, 3) := by decide +kernel
theorem dL_refuses_93 : decode cL_refuses 93 = .ok (.ldc 15, 2) := by decide +kernel
theorem dL_refuses_95 : decode cL_refuses 95 = .ok (.if_icmp .ne 575, 3) := by decide +kernel
theorem dL_refuses_98 : decode cL_refuses 98 = .ok (.aload_n 0, 1) := by decide +kernel
theorem dL_refuses_99 : decode cL_refuses 99 = .ok (.iload_n 2, 1) := by decide +kernel
theorem dL_refuses_100 : decode cL_refuses 100 = .ok (.iconst 2, 1) := by decide +kernel
theorem dL_refuses_101 : decode cL_refuses 101 = .ok (.irem, 1) := by decide +kernel
theorem dL_refuses_102 : decode cL_refuses 102 = .ok (.iload 5, 2) := by decide +kernel
theorem dL_refuses_104 : decode cL_refuses 104 = .ok (.iconst (-1), 1) := by decide +kernel
theorem dL_refuses_105 : decode cL_refuses 105 = .ok (.iconst 0, 1) := by decide +kernel
theorem dL_refuses_106 : decode cL_refuses 106 = .ok (.iconst 0, 1) := by decide +kernel
theorem dL_refuses_107 : decode cL_refuses 107 = .ok (.invokestatic 75, 3) := by decide +kernel
theorem dL_refuses_110 : decode cL_refuses 110 = .ok (.ldc 15, 2) := by decide +kernel
theorem dL_refuses_112 : decode cL_refuses 112 = .ok (.if_icmp .ne 558, 3) := by decide +kernel
theorem dL_refuses_115 : decode cL_refuses 115 = .ok (.aload_n 0, 1) := by decide +kernel
theorem dL_refuses_116 : decode cL_refuses 116 = .ok (.iload_n 2, 1) := by decide +kernel
theorem dL_refuses_117 : decode cL_refuses 117 = .ok (.iconst 2, 1) := by decide +kernel
theorem dL_refuses_118 : decode cL_refuses 118 = .ok (.irem, 1) := by decide +kernel
theorem dL_refuses_119 : decode cL_refuses 119 = .ok (.iconst (-1), 1) := by decide +kernel
theorem dL_refuses_120 : decode cL_refuses 120 = .ok (.iload 5, 2) := by decide +kernel
theorem dL_refuses_122 : decode cL_refuses 122 = .ok (.iconst 0, 1) := by decide +kernel
theorem dL_refuses_123 : decode cL_refuses 123 = .ok (.iconst 0, 1) := by decide +kernel
theorem dL_refuses_124 : decode cL_refuses 124 = .ok (.invokestatic 75, 3) := by decide +kernel
theorem dL_refuses_127 : decode cL_refuses 127 = .ok (.ldc 15, 2) := by decide +kernel
theorem dL_refuses_129 : decode cL_refuses 129 = .ok (.if_icmp .ne 541, 3) := by decide +kernel
theorem dL_refuses_132 : decode cL_refuses 132 = .ok (.aload_n 0, 1) := by decide +kernel
theorem dL_refuses_133 : decode cL_refuses 133 = .ok (.iload_n 2, 1) := by decide +kernel
theorem dL_refuses_134 : decode cL_refuses 134 = .ok (.iconst 2, 1) := by decide +kernel
theorem dL_refuses_135 : decode cL_refuses 135 = .ok (.irem, 1) := by decide +kernel
theorem dL_refuses_136 : decode cL_refuses 136 = .ok (.iconst (-1), 1) := by decide +kernel
theorem dL_refuses_137 : decode cL_refuses 137 = .ok (.iconst (-1), 1) := by decide +kernel
theorem dL_refuses_138 : decode cL_refuses 138 = .ok (.iload 7, 2) := by decide +kernel
theorem dL_refuses_140 : decode cL_refuses 140 = .ok (.bipush 100, 2) := by decide +kernel
theorem dL_refuses_142 : decode cL_refuses 142 = .ok (.invokestatic 75, 3) := by decide +kernel
theorem dL_refuses_145 : decode cL_refuses 145 = .ok (.ldc 15, 2) := by decide +kernel
theorem dL_refuses_147 : decode cL_refuses 147 = .ok (.if_icmp .ne 523, 3) := by decide +kernel
theorem dL_refuses_150 : decode cL_refuses 150 = .ok (.aload_n 0, 1) := by decide +kernel
theorem dL_refuses_151 : decode cL_refuses 151 = .ok (.iload_n 2, 1) := by decide +kernel
theorem dL_refuses_152 : decode cL_refuses 152 = .ok (.iconst 2, 1) := by decide +kernel
theorem dL_refuses_153 : decode cL_refuses 153 = .ok (.irem, 1) := by decide +kernel
theorem dL_refuses_154 : decode cL_refuses 154 = .ok (.iconst (-1), 1) := by decide +kernel
theorem dL_refuses_155 : decode cL_refuses 155 = .ok (.iconst (-1), 1) := by decide +kernel
theorem dL_refuses_156 : decode cL_refuses 156 = .ok (.iload_n 2, 1) := by decide +kernel
theorem dL_refuses_157 : decode cL_refuses 157 = .ok (.iconst 4, 1) := by decide +kernel
theorem dL_refuses_158 : decode cL_refuses 158 = .ok (.irem, 1) := by decide +kernel
theorem dL_refuses_159 : decode cL_refuses 159 = .ok (.bipush 100, 2) := by decide +kernel
theorem dL_refuses_161 : decode cL_refuses 161 = .ok (.iload_n 2, 1) := by decide +kernel
theorem dL_refuses_162 : decode cL_refuses 162 = .ok (.iadd, 1) := by decide +kernel
theorem dL_refuses_163 : decode cL_refuses 163 = .ok (.invokestatic 75, 3) := by decide +kernel
theorem dL_refuses_166 : decode cL_refuses 166 = .ok (.ldc 18, 2) := by decide +kernel
theorem dL_refuses_168 : decode cL_refuses 168 = .ok (.if_icmp .ne 502, 3) := by decide +kernel
theorem dL_refuses_171 : decode cL_refuses 171 = .ok (.aload_n 0, 1) := by decide +kernel
theorem dL_refuses_172 : decode cL_refuses 172 = .ok (.iload_n 2, 1) := by decide +kernel
theorem dL_refuses_173 : decode cL_refuses 173 = .ok (.iconst 2, 1) := by decide +kernel
theorem dL_refuses_174 : decode cL_refuses 174 = .ok (.irem, 1) := by decide +kernel
theorem dL_refuses_175 : decode cL_refuses 175 = .ok (.iconst (-1), 1) := by decide +kernel
theorem dL_refuses_176 : decode cL_refuses 176 = .ok (.iconst (-1), 1) := by decide +kernel
theorem dL_refuses_177 : decode cL_refuses 177 = .ok (.iload_n 2, 1) := by decide +kernel
theorem dL_refuses_178 : decode cL_refuses 178 = .ok (.iconst 4, 1) := by decide +kernel
theorem dL_refuses_179 : decode cL_refuses 179 = .ok (.irem, 1) := by decide +kernel
theorem dL_refuses_180 : decode cL_refuses 180 = .ok (.bipush (-2), 2) := by decide +kernel
theorem dL_refuses_182 : decode cL_refuses 182 = .ok (.iload_n 2, 1) := by decide +kernel
theorem dL_refuses_183 : decode cL_refuses 183 = .ok (.isub, 1) := by decide +kernel
theorem dL_refuses_184 : decode cL_refuses 184 = .ok (.invokestatic 75, 3) := by decide +kernel
theorem dL_refuses_187 : decode cL_refuses 187 = .ok (.ldc 18, 2) := by decide +kernel
theorem dL_refuses_189 : decode cL_refuses 189 = .ok (.if_icmp .ne 481, 3) := by decide +kernel
theorem dL_refuses_192 : decode cL_refuses 192 = .ok (.aload_n 0, 1) := by decide +kernel
theorem dL_refuses_193 : decode cL_refuses 193 = .ok (.iload 6, 2) := by decide +kernel
theorem dL_refuses_195 : decode cL_refuses 195 = .ok (.iconst 0, 1) := by decide +kernel
theorem dL_refuses_196 : decode cL_refuses 196 = .ok (.iconst (-1), 1) := by decide +kernel
theorem dL_refuses_197 : decode cL_refuses 197 = .ok (.invokestatic 81, 3) := by decide +kernel
theorem dL_refuses_200 : decode cL_refuses 200 = .ok (.ldc 15, 2) := by decide +kernel
theorem dL_refuses_202 : decode cL_refuses 202 = .ok (.if_icmp .ne 468, 3) := by decide +kernel
theorem dL_refuses_205 : decode cL_refuses 205 = .ok (.aload_n 0, 1) := by decide +kernel
theorem dL_refuses_206 : decode cL_refuses 206 = .ok (.iload_n 2, 1) := by decide +kernel
theorem dL_refuses_207 : decode cL_refuses 207 = .ok (.iconst 2, 1) := by decide +kernel
theorem dL_refuses_208 : decode cL_refuses 208 = .ok (.irem, 1) := by decide +kernel
theorem dL_refuses_209 : decode cL_refuses 209 = .ok (.iload 7, 2) := by decide +kernel
theorem dL_refuses_211 : decode cL_refuses 211 = .ok (.iconst (-1), 1) := by decide +kernel
theorem dL_refuses_212 : decode cL_refuses 212 = .ok (.invokestatic 81, 3) := by decide +kernel
theorem dL_refuses_215 : decode cL_refuses 215 = .ok (.ldc 15, 2) := by decide +kernel
theorem dL_refuses_217 : decode cL_refuses 217 = .ok (.if_icmp .ne 453, 3) := by decide +kernel
theorem dL_refuses_220 : decode cL_refuses 220 = .ok (.aload_n 0, 1) := by decide +kernel
theorem dL_refuses_221 : decode cL_refuses 221 = .ok (.iload_n 2, 1) := by decide +kernel
theorem dL_refuses_222 : decode cL_refuses 222 = .ok (.iconst 2, 1) := by decide +kernel
theorem dL_refuses_223 : decode cL_refuses 223 = .ok (.irem, 1) := by decide +kernel
theorem dL_refuses_224 : decode cL_refuses 224 = .ok (.iconst 0, 1) := by decide +kernel
theorem dL_refuses_225 : decode cL_refuses 225 = .ok (.iload 5, 2) := by decide +kernel
theorem dL_refuses_227 : decode cL_refuses 227 = .ok (.invokestatic 81, 3) := by decide +kernel
theorem dL_refuses_230 : decode cL_refuses 230 = .ok (.ldc 15, 2) := by decide +kernel
theorem dL_refuses_232 : decode cL_refuses 232 = .ok (.if_icmp .ne 438, 3) := by decide +kernel
theorem dL_refuses_235 : decode cL_refuses 235 = .ok (.aload_n 0, 1) := by decide +kernel
theorem dL_refuses_236 : decode cL_refuses 236 = .ok (.iload 6, 2) := by decide +kernel
theorem dL_refuses_238 : decode cL_refuses 238 = .ok (.iconst 0, 1) := by decide +kernel
theorem dL_refuses_239 : decode cL_refuses 239 = .ok (.invokestatic 85, 3) := by decide +kernel
theorem dL_refuses_242 : decode cL_refuses 242 = .ok (.ldc 15, 2) := by decide +kernel
theorem dL_refuses_244 : decode cL_refuses 244 = .ok (.if_icmp .ne 426, 3) := by decide +kernel
theorem dL_refuses_247 : decode cL_refuses 247 = .ok (.aload_n 0, 1) := by decide +kernel
theorem dL_refuses_248 : decode cL_refuses 248 = .ok (.iload_n 2, 1) := by decide +kernel
theorem dL_refuses_249 : decode cL_refuses 249 = .ok (.iconst 2, 1) := by decide +kernel
theorem dL_refuses_250 : decode cL_refuses 250 = .ok (.irem, 1) := by decide +kernel
theorem dL_refuses_251 : decode cL_refuses 251 = .ok (.iload 7, 2) := by decide +kernel
theorem dL_refuses_253 : decode cL_refuses 253 = .ok (.invokestatic 85, 3) := by decide +kernel
theorem dL_refuses_256 : decode cL_refuses 256 = .ok (.ldc 15, 2) := by decide +kernel
theorem dL_refuses_258 : decode cL_refuses 258 = .ok (.if_icmp .ne 412, 3) := by decide +kernel
theorem dL_refuses_261 : decode cL_refuses 261 = .ok (.aload_n 0, 1) := by decide +kernel
theorem dL_refuses_262 : decode cL_refuses 262 = .ok (.iload 5, 2) := by decide +kernel
theorem dL_refuses_264 : decode cL_refuses 264 = .ok (.iconst 0, 1) := by decide +kernel
theorem dL_refuses_265 : decode cL_refuses 265 = .ok (.invokestatic 88, 3) := by decide +kernel
theorem dL_refuses_268 : decode cL_refuses 268 = .ok (.ldc 15, 2) := by decide +kernel
theorem dL_refuses_270 : decode cL_refuses 270 = .ok (.if_icmp .ne 400, 3) := by decide +kernel
theorem dL_refuses_273 : decode cL_refuses 273 = .ok (.aload_n 0, 1) := by decide +kernel
theorem dL_refuses_274 : decode cL_refuses 274 = .ok (.iconst 0, 1) := by decide +kernel
theorem dL_refuses_275 : decode cL_refuses 275 = .ok (.iload 7, 2) := by decide +kernel
theorem dL_refuses_277 : decode cL_refuses 277 = .ok (.invokestatic 88, 3) := by decide +kernel
theorem dL_refuses_280 : decode cL_refuses 280 = .ok (.ldc 15, 2) := by decide +kernel
theorem dL_refuses_282 : decode cL_refuses 282 = .ok (.if_icmp .ne 388, 3) := by decide +kernel
theorem dL_refuses_285 : decode cL_refuses 285 = .ok (.aload_n 0, 1) := by decide +kernel
theorem dL_refuses_286 : decode cL_refuses 286 = .ok (.iload 7, 2) := by decide +kernel
theorem dL_refuses_288 : decode cL_refuses 288 = .ok (.bipush 99, 2) := by decide +kernel
theorem dL_refuses_290 : decode cL_refuses 290 = .ok (.iconst 1, 1) := by decide +kernel
theorem dL_refuses_291 : decode cL_refuses 291 = .ok (.invokestatic 91, 3) := by decide +kernel
theorem dL_refuses_294 : decode cL_refuses 294 = .ok (.ldc 15, 2) := by decide +kernel
theorem dL_refuses_296 : decode cL_refuses 296 = .ok (.if_icmp .ne 374, 3) := by decide +kernel
theorem dL_refuses_299 : decode cL_refuses 299 = .ok (.aload_n 0, 1) := by decide +kernel
theorem dL_refuses_300 : decode cL_refuses 300 = .ok (.iload_n 2, 1) := by decide +kernel
theorem dL_refuses_301 : decode cL_refuses 301 = .ok (.iconst 4, 1) := by decide +kernel
theorem dL_refuses_302 : decode cL_refuses 302 = .ok (.irem, 1) := by decide +kernel
theorem dL_refuses_303 : decode cL_refuses 303 = .ok (.bipush 61, 2) := by decide +kernel
theorem dL_refuses_305 : decode cL_refuses 305 = .ok (.iload_n 2, 1) := by decide +kernel
theorem dL_refuses_306 : decode cL_refuses 306 = .ok (.iadd, 1) := by decide +kernel
theorem dL_refuses_307 : decode cL_refuses 307 = .ok (.iconst 0, 1) := by decide +kernel
theorem dL_refuses_308 : decode cL_refuses 308 = .ok (.invokestatic 91, 3) := by decide +kernel
theorem dL_refuses_311 : decode cL_refuses 311 = .ok (.ldc 18, 2) := by decide +kernel
theorem dL_refuses_313 : decode cL_refuses 313 = .ok (.if_icmp .ne 357, 3) := by decide +kernel
theorem dL_refuses_316 : decode cL_refuses 316 = .ok (.aload_n 0, 1) := by decide +kernel
theorem dL_refuses_317 : decode cL_refuses 317 = .ok (.iload 7, 2) := by decide +kernel
theorem dL_refuses_319 : decode cL_refuses 319 = .ok (.iconst (-1), 1) := by decide +kernel
theorem dL_refuses_320 : decode cL_refuses 320 = .ok (.invokestatic 95, 3) := by decide +kernel
theorem dL_refuses_323 : decode cL_refuses 323 = .ok (.ldc 15, 2) := by decide +kernel
theorem dL_refuses_325 : decode cL_refuses 325 = .ok (.if_icmp .ne 345, 3) := by decide +kernel
theorem dL_refuses_328 : decode cL_refuses 328 = .ok (.aload_n 0, 1) := by decide +kernel
theorem dL_refuses_329 : decode cL_refuses 329 = .ok (.iload_n 2, 1) := by decide +kernel
theorem dL_refuses_330 : decode cL_refuses 330 = .ok (.iconst 4, 1) := by decide +kernel
theorem dL_refuses_331 : decode cL_refuses 331 = .ok (.irem, 1) := by decide +kernel
theorem dL_refuses_332 : decode cL_refuses 332 = .ok (.iconst (-1), 1) := by decide +kernel
theorem dL_refuses_333 : decode cL_refuses 333 = .ok (.iload_n 2, 1) := by decide +kernel
theorem dL_refuses_334 : decode cL_refuses 334 = .ok (.isub, 1) := by decide +kernel
theorem dL_refuses_335 : decode cL_refuses 335 = .ok (.invokestatic 95, 3) := by decide +kernel
theorem dL_refuses_338 : decode cL_refuses 338 = .ok (.ldc 18, 2) := by decide +kernel
theorem dL_refuses_340 : decode cL_refuses 340 = .ok (.if_icmp .ne 330, 3) := by decide +kernel
theorem dL_refuses_343 : decode cL_refuses 343 = .ok (.aload_n 0, 1) := by decide +kernel
theorem dL_refuses_344 : decode cL_refuses 344 = .ok (.bipush 100, 2) := by decide +kernel
theorem dL_refuses_346 : decode cL_refuses 346 = .ok (.iload_n 2, 1) := by decide +kernel
theorem dL_refuses_347 : decode cL_refuses 347 = .ok (.iadd, 1) := by decide +kernel
theorem dL_refuses_348 : decode cL_refuses 348 = .ok (.invokestatic 98, 3) := by decide +kernel
theorem dL_refuses_351 : decode cL_refuses 351 = .ok (.ldc 18, 2) := by decide +kernel
theorem dL_refuses_353 : decode cL_refuses 353 = .ok (.if_icmp .ne 317, 3) := by decide +kernel
theorem dL_refuses_356 : decode cL_refuses 356 = .ok (.aload_n 0, 1) := by decide +kernel
theorem dL_refuses_357 : decode cL_refuses 357 = .ok (.iconst (-1), 1) := by decide +kernel
theorem dL_refuses_358 : decode cL_refuses 358 = .ok (.iload_n 2, 1) := by decide +kernel
theorem dL_refuses_359 : decode cL_refuses 359 = .ok (.isub, 1) := by decide +kernel
theorem dL_refuses_360 : decode cL_refuses 360 = .ok (.invokestatic 98, 3) := by decide +kernel
theorem dL_refuses_363 : decode cL_refuses 363 = .ok (.ldc 18, 2) := by decide +kernel
theorem dL_refuses_365 : decode cL_refuses 365 = .ok (.if_icmp .ne 305, 3) := by decide +kernel
theorem dL_refuses_368 : decode cL_refuses 368 = .ok (.aload_n 0, 1) := by decide +kernel
theorem dL_refuses_369 : decode cL_refuses 369 = .ok (.iload 7, 2) := by decide +kernel
theorem dL_refuses_371 : decode cL_refuses 371 = .ok (.iconst 1, 1) := by decide +kernel
theorem dL_refuses_372 : decode cL_refuses 372 = .ok (.invokestatic 102, 3) := by decide +kernel
theorem dL_refuses_375 : decode cL_refuses 375 = .ok (.ldc 15, 2) := by decide +kernel
theorem dL_refuses_377 : decode cL_refuses 377 = .ok (.if_icmp .ne 293, 3) := by decide +kernel
theorem dL_refuses_380 : decode cL_refuses 380 = .ok (.aload_n 0, 1) := by decide +kernel
theorem dL_refuses_381 : decode cL_refuses 381 = .ok (.iload 7, 2) := by decide +kernel
theorem dL_refuses_383 : decode cL_refuses 383 = .ok (.iconst (-1), 1) := by decide +kernel
theorem dL_refuses_384 : decode cL_refuses 384 = .ok (.iconst (-1), 1) := by decide +kernel
theorem dL_refuses_385 : decode cL_refuses 385 = .ok (.invokestatic 106, 3) := by decide +kernel
theorem dL_refuses_388 : decode cL_refuses 388 = .ok (.ldc 15, 2) := by decide +kernel
theorem dL_refuses_390 : decode cL_refuses 390 = .ok (.if_icmp .ne 280, 3) := by decide +kernel
theorem dL_refuses_393 : decode cL_refuses 393 = .ok (.aload_n 0, 1) := by decide +kernel
theorem dL_refuses_394 : decode cL_refuses 394 = .ok (.iload_n 2, 1) := by decide +kernel
theorem dL_refuses_395 : decode cL_refuses 395 = .ok (.iconst 4, 1) := by decide +kernel
theorem dL_refuses_396 : decode cL_refuses 396 = .ok (.irem, 1) := by decide +kernel
theorem dL_refuses_397 : decode cL_refuses 397 = .ok (.iload 5, 2) := by decide +kernel
theorem dL_refuses_399 : decode cL_refuses 399 = .ok (.iconst (-1), 1) := by decide +kernel
theorem dL_refuses_400 : decode cL_refuses 400 = .ok (.invokestatic 106, 3) := by decide +kernel
theorem dL_refuses_403 : decode cL_refuses 403 = .ok (.ldc 15, 2) := by decide +kernel
theorem dL_refuses_405 : decode cL_refuses 405 = .ok (.if_icmp .ne 265, 3) := by decide +kernel
theorem dL_refuses_408 : decode cL_refuses 408 = .ok (.aload_n 0, 1) := by decide +kernel
theorem dL_refuses_409 : decode cL_refuses 409 = .ok (.iload_n 2, 1) := by decide +kernel
theorem dL_refuses_410 : decode cL_refuses 410 = .ok (.iconst 4, 1) := by decide +kernel
theorem dL_refuses_411 : decode cL_refuses 411 = .ok (.irem, 1) := by decide +kernel
theorem dL_refuses_412 : decode cL_refuses 412 = .ok (.iconst (-1), 1) := by decide +kernel
theorem dL_refuses_413 : decode cL_refuses 413 = .ok (.iload 5, 2) := by decide +kernel
theorem dL_refuses_415 : decode cL_refuses 415 = .ok (.invokestatic 106, 3) := by decide +kernel
theorem dL_refuses_418 : decode cL_refuses 418 = .ok (.ldc 15, 2) := by decide +kernel
theorem dL_refuses_420 : decode cL_refuses 420 = .ok (.if_icmp .ne 250, 3) := by decide +kernel
theorem dL_refuses_423 : decode cL_refuses 423 = .ok (.aload_n 0, 1) := by decide +kernel
theorem dL_refuses_424 : decode cL_refuses 424 = .ok (.iload 6, 2) := by decide +kernel
theorem dL_refuses_426 : decode cL_refuses 426 = .ok (.invokestatic 109, 3) := by decide +kernel
theorem dL_refuses_429 : decode cL_refuses 429 = .ok (.ldc 15, 2) := by decide +kernel
theorem dL_refuses_431 : decode cL_refuses 431 = .ok (.if_icmp .ne 239, 3) := by decide +kernel
theorem dL_refuses_434 : decode cL_refuses 434 = .ok (.aload_n 0, 1) := by decide +kernel
theorem dL_refuses_435 : decode cL_refuses 435 = .ok (.iload 6, 2) := by decide +kernel
theorem dL_refuses_437 : decode cL_refuses 437 = .ok (.iconst 0, 1) := by decide +kernel
theorem dL_refuses_438 : decode cL_refuses 438 = .ok (.invokestatic 112, 3) := by decide +kernel
theorem dL_refuses_441 : decode cL_refuses 441 = .ok (.ldc 15, 2) := by decide +kernel
theorem dL_refuses_443 : decode cL_refuses 443 = .ok (.if_icmp .ne 227, 3) := by decide +kernel
theorem dL_refuses_446 : decode cL_refuses 446 = .ok (.aload_n 0, 1) := by decide +kernel
theorem dL_refuses_447 : decode cL_refuses 447 = .ok (.iconst 0, 1) := by decide +kernel
theorem dL_refuses_448 : decode cL_refuses 448 = .ok (.iload 5, 2) := by decide +kernel
theorem dL_refuses_450 : decode cL_refuses 450 = .ok (.invokestatic 112, 3) := by decide +kernel
theorem dL_refuses_453 : decode cL_refuses 453 = .ok (.ldc 15, 2) := by decide +kernel
theorem dL_refuses_455 : decode cL_refuses 455 = .ok (.if_icmp .ne 215, 3) := by decide +kernel
theorem dL_refuses_458 : decode cL_refuses 458 = .ok (.aload_n 0, 1) := by decide +kernel
theorem dL_refuses_459 : decode cL_refuses 459 = .ok (.iload 6, 2) := by decide +kernel
theorem dL_refuses_461 : decode cL_refuses 461 = .ok (.sipush 999, 3) := by decide +kernel
theorem dL_refuses_464 : decode cL_refuses 464 = .ok (.invokestatic 114, 3) := by decide +kernel
theorem dL_refuses_467 : decode cL_refuses 467 = .ok (.ldc 15, 2) := by decide +kernel
