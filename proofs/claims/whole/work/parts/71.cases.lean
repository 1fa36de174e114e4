set_option maxHeartbeats 4000000 in
set_option maxRecDepth 100000 in
theorem law_make {p : Program} {l : Launch} {e : Env} {s : State} {mm : MethodId} {below : List Frame} {meth : Method} {c : Code} {b L : Nat} {xs : Nat → Int32} {D : va_G} {cI cZ cL : ClassId} {q qm : Nat → Nat} {qo : Nat} {Q : State → Prop} {k : Nat} {x : SX} {m : SM} {g : Nat → Int64} {H : Heap} {locs : List Loc} {ls : Array Slot} (C : LawC p s mm c b L xs D cI cZ cL) (hk : 6 * k + 6 ≤ L) (hL : L ≤ 3072) (hDb : Dbl l D cI cZ cL q qm qo yL_make wsL_make [.ref (q 0), .int (xs (6 * k + 1)), .int (xs (6 * k + 2)), .int (xs (6 * k + 3)), .int (xs (6 * k + 4)), .int (xs (6 * k + 5)), .ref qo] yX3_make wsX3_make [.ref (qm 0), .int (xs (6 * k + 1)), .int (xs (6 * k + 2)), .int (xs (6 * k + 3)), .int (xs (6 * k + 4)), .int (xs (6 * k + 5))] Int32.toInt64 x m g) (hP : va_P D vwCl (LWd cI cZ cL q qm qo x m g) H) (hD : va_D (fun a => s.heap.size ≤ a) (LWd cI cZ cL q qm qo x m g)) (hS : va_S (fun a => s.heap.size ≤ a) s.heap H locs) (hl : lv_has ls 7 [(0, .ref b), (1, .ref (q 0)), (2, .ref (qm 0)), (3, .ref qo), (4, .int (nI (6 * k)))]) (hN : LawN p l e s mm below meth c b D cI cZ cL q qm qo Q k) : W p l e room_1 s mm #[Value.ref b] below meth c H locs (33 + k) (1722 + 6 * k) Q (F0 mm 128 ls []) := by
  obtain ⟨hx, hb, hml, hown, hts, hX, hbl, hLE, hXT, hK⟩ := C
  have hA : ∀ a : Nat, s.heap.size ≤ a → (fun a => s.heap.size ≤ a) a := fun _ h => h
  have hbA : ¬ (fun a : Nat => s.heap.size ≤ a) b := Nat.not_le.mpr hbl
  have hk5 : k < 512 := by omega
  have hK2 := hK.sub (tys' := [(cI, .int), (cZ, .boolean)]) [0, 1] rfl
  obtain ⟨n2, w2, x2, g2, m2, z, v, mc, ms, rL, rM, hW, ⟨r1, r2, r3, r4, r5, r6⟩, hMc, ⟨t1, t2, t3, t4⟩, hz, hans, hSim⟩ := hDb
  refine lv_aload_n hx hb dL_law_128 rfl (lv_at hl 1 rfl) ?_
  refine lv_aload_n hx hb dL_law_129 rfl (lv_at hl 0 rfl) ?_
  refine lv_iload hx hb dL_law_130 (lv_at hl 4 rfl) ?_
  refine lv_iconst (v := 1) hx hb dL_law_132 (by decide +kernel) ?_
  refine lv_iadd hx hb dL_law_133 ?_
  refine g_sld hx hb hX hbl hbA hS (6 * k + 1) (by omega) (by omega) (g_addE rfl rfl) dL_law_134 ?_
  refine lv_aload_n hx hb dL_law_135 rfl (lv_at hl 0 rfl) ?_
  refine lv_iload hx hb dL_law_136 (lv_at hl 4 rfl) ?_
  refine lv_iconst (v := 2) hx hb dL_law_138 (by decide +kernel) ?_
  refine lv_iadd hx hb dL_law_139 ?_
  refine g_sld hx hb hX hbl hbA hS (6 * k + 2) (by omega) (by omega) (g_addE rfl rfl) dL_law_140 ?_
  refine lv_aload_n hx hb dL_law_141 rfl (lv_at hl 0 rfl) ?_
  refine lv_iload hx hb dL_law_142 (lv_at hl 4 rfl) ?_
  refine lv_iconst (v := 3) hx hb dL_law_144 (by decide +kernel) ?_
  refine lv_iadd hx hb dL_law_145 ?_
  refine g_sld hx hb hX hbl hbA hS (6 * k + 3) (by omega) (by omega) (g_addE rfl rfl) dL_law_146 ?_
  refine lv_aload_n hx hb dL_law_147 rfl (lv_at hl 0 rfl) ?_
  refine lv_iload hx hb dL_law_148 (lv_at hl 4 rfl) ?_
  refine lv_iconst (v := 4) hx hb dL_law_150 (by decide +kernel) ?_
  refine lv_iadd hx hb dL_law_151 ?_
  refine g_sld hx hb hX hbl hbA hS (6 * k + 4) (by omega) (by omega) (g_addE rfl rfl) dL_law_152 ?_
  refine lv_aload_n hx hb dL_law_153 rfl (lv_at hl 0 rfl) ?_
  refine lv_iload hx hb dL_law_154 (lv_at hl 4 rfl) ?_
  refine lv_iconst (v := 5) hx hb dL_law_156 (by decide +kernel) ?_
  refine lv_iadd hx hb dL_law_157 ?_
  refine g_sld hx hb hX hbl hbA hS (6 * k + 5) (by omega) (by omega) (g_addE rfl rfl) dL_law_158 ?_
  refine lv_aload_n hx hb dL_law_159 rfl (lv_at hl 3 rfl) ?_
  refine g_callSWF (As := [.ref (q 0), .int (xs (6 * k + 1)), .int (xs (6 * k + 2)), .int (xs (6 * k + 3)), .int (xs (6 * k + 4)), .int (xs (6 * k + 5)), .ref qo]) (rest := []) (wl := LWd cI cZ cL q qm qo x m g) (wr := MW cI cZ qm m) (wn := LWd cI cZ cL q qm qo x2 m g2) hx hb hml hown hts hW gL_law_L_make rfl r1 r2 hdL_make ⟨Nat.le_trans (Nat.succ_le_succ r3) (Nat.le_of_ble_eq_true rfl), Nat.le_trans (Nat.add_le_add_left r4 _) (Nat.le_of_ble_eq_true rfl)⟩ LE_em hLE XT_tm hXT hP hK hD hS hA rfl hl.1 rfl (Nat.le_of_ble_eq_true rfl) dL_law_160 ⟨room1_c hk5 r5, room1_s hk5 r6⟩ [0, 1, 2, 3, 4, 5, 6, 7, 8, 9, 10, 11, 12, 13, 14, 15, 16, 17] [18, 19, 20, 21, 22, 23, 24, 25, 26, 27, 28, 29, 30, 31, 32] [15, 16, 17, 18, 19, 20, 21, 22, 23, 24, 25, 26, 27, 28, 29, 30, 31, 32, 0, 1, 2, 3, 4, 5, 6, 7, 8, 9, 10, 11, 12, 13, 14] (by decide) rfl rfl (by decide) (by decide) (by decide) rfl (fun H locs hP hD hS => ?_)
  refine W.eq (g2 := F0 mm 163 ls [.int z]) rfl ?_
  refine lv_istore (lv' := [(5, .int z), (0, .ref b), (1, .ref (q 0)), (2, .ref (qm 0)), (3, .ref qo), (4, .int (nI (6 * k)))]) hx hb dL_law_163 hl (by decide) rfl (fun ls hl => ?_)
  refine lv_aload_n hx hb dL_law_165 rfl (lv_at hl 3 rfl) ?_
  refine lv_aload_n hx hb dL_law_166 rfl (lv_at hl 1 rfl) ?_
  refine lv_iload hx hb dL_law_167 (lv_at hl 5 rfl) ?_
  refine lv_iconst (v := 1) hx hb dL_law_169 (by decide +kernel) ?_
  refine lv_iadd hx hb dL_law_170 ?_
  refine g_sld hx hb hX hbl hbA hS (6 * k + 1) (by omega) (by omega) (g_addE rfl rfl) dL_law_171 ?_
  refine lv_aload_n hx hb dL_law_172 rfl (lv_at hl 1 rfl) ?_
  refine lv_iload hx hb dL_law_173 (lv_at hl 5 rfl) ?_
  refine lv_iconst (v := 2) hx hb dL_law_175 (by decide +kernel) ?_
  refine lv_iadd hx hb dL_law_176 ?_
  refine g_sld hx hb hX hbl hbA hS (6 * k + 2) (by omega) (by omega) (g_addE rfl rfl) dL_law_177 ?_
  refine lv_aload_n hx hb dL_law_178 rfl (lv_at hl 1 rfl) ?_
  refine lv_iload hx hb dL_law_179 (lv_at hl 5 rfl) ?_
  refine lv_iconst (v := 3) hx hb dL_law_181 (by decide +kernel) ?_
  refine lv_iadd hx hb dL_law_182 ?_
  refine g_sld hx hb hX hbl hbA hS (6 * k + 3) (by omega) (by omega) (g_addE rfl rfl) dL_law_183 ?_
  refine lv_aload_n hx hb dL_law_184 rfl (lv_at hl 1 rfl) ?_
  refine lv_iload hx hb dL_law_185 (lv_at hl 5 rfl) ?_
  refine lv_iconst (v := 4) hx hb dL_law_187 (by decide +kernel) ?_
  refine lv_iadd hx hb dL_law_188 ?_
  refine g_sld hx hb hX hbl hbA hS (6 * k + 4) (by omega) (by omega) (g_addE rfl rfl) dL_law_189 ?_
  refine lv_aload_n hx hb dL_law_190 rfl (lv_at hl 1 rfl) ?_
  refine lv_iload hx hb dL_law_191 (lv_at hl 5 rfl) ?_
  refine lv_iconst (v := 5) hx hb dL_law_193 (by decide +kernel) ?_
  refine lv_iadd hx hb dL_law_194 ?_
  refine g_sld hx hb hX hbl hbA hS (6 * k + 5) (by omega) (by omega) (g_addE rfl rfl) dL_law_195 ?_
  refine g_callVF (As := [.int (xs (6 * k + 1)), .int (xs (6 * k + 2)), .int (xs (6 * k + 3)), .int (xs (6 * k + 4)), .int (xs (6 * k + 5))]) (rest := []) (wl := LWd cI cZ cL q qm qo x2 m g2) (wr := WL cI cZ cL q qo (x2, g2)) (wn := LWd cI cZ cL q qm qo x2 m2 g2) hx hb hml hown hts hMc gL_law_X3_make rfl t1 t2 hdX3_make ⟨Nat.le_trans (Nat.succ_le_succ t3) (Nat.le_of_ble_eq_true rfl), Nat.le_trans (Nat.add_le_add_left t4 _) (Nat.le_of_ble_eq_true rfl)⟩ gEM_true trivial hP hK2 hD hS hA 0 rfl rfl rfl hl.1 rfl (Nat.le_of_ble_eq_true rfl) dL_law_196 ⟨room1_c hk5 r5, room1_s hk5 r6⟩ [18, 19, 20, 21, 22, 23, 24, 25, 26, 27, 28, 29, 30, 31, 32] [0, 1, 2, 3, 4, 5, 6, 7, 8, 9, 10, 11, 12, 13, 14, 15, 16, 17] [0, 1, 2, 3, 4, 5, 6, 7, 8, 9, 10, 11, 12, 13, 14, 15, 16, 17, 18, 19, 20, 21, 22, 23, 24, 25, 26, 27, 28, 29, 30, 31, 32] (by decide) rfl rfl (by decide) (by decide) (by decide) rfl (fun H locs hP hD hS => ?_)
  refine W.eq (g2 := F0 mm 199 ls [.int v]) rfl ?_
  refine lv_istore (lv' := [(6, .int v), (5, .int z), (0, .ref b), (1, .ref (q 0)), (2, .ref (qm 0)), (3, .ref qo), (4, .int (nI (6 * k)))]) hx hb dL_law_199 hl (by decide) rfl (fun ls hl => ?_)
  refine lv_aload_n hx hb dL_law_201 rfl (lv_at hl 4 rfl) ?_
  refine g_callVF (As := []) (rest := []) (wl := LWd cI cZ cL q qm qo x2 m2 g2) (wr := WL cI cZ cL q qo (x2, g2)) (wn := LWd cI cZ cL q qm qo x2 m2 g2) hx hb hml hown hts (ctX3_thrown l D cI cZ qm m2) gL_law_X3_thrown rfl rfl rfl hdX3_thrown ⟨Nat.le_of_ble_eq_true rfl, Nat.le_of_ble_eq_true rfl⟩ gEM_true trivial hP hK2 hD hS hA 0 rfl rfl rfl hl.1 rfl (Nat.le_of_ble_eq_true rfl) dL_law_202 ⟨room1_c hk5 r5, room1_s hk5 r6⟩ [18, 19, 20, 21, 22, 23, 24, 25, 26, 27, 28, 29, 30, 31, 32] [0, 1, 2, 3, 4, 5, 6, 7, 8, 9, 10, 11, 12, 13, 14, 15, 16, 17] [0, 1, 2, 3, 4, 5, 6, 7, 8, 9, 10, 11, 12, 13, 14, 15, 16, 17, 18, 19, 20, 21, 22, 23, 24, 25, 26, 27, 28, 29, 30, 31, 32] (by decide) rfl rfl (by decide) (by decide) (by decide) rfl (fun H locs hP hD hS => ?_)
  refine W.eq (g2 := F0 mm 205 ls [.int (m2 14 0)]) rfl ?_
  refine lv_iload hx hb dL_law_205 (lv_at hl 1 rfl) ?_
  refine lv_icmp_eq (tgt := 212) hx hb dL_law_207 (by decide) (fun _ => ?_) (fun h => absurd hz h)
  refine lv_iload hx hb dL_law_212 (lv_at hl 1 rfl) ?_
  refine lv_if_ne (tgt := 229) hx hb dL_law_214 (by decide) (fun _ => ?_) (fun h0 => ?_)
  · refine lv_goto (tgt := 1254) hx hb dL_law_229 (by decide) ?_
    exact W.widen (by omega) (by omega) (hN n2 w2 x2 m2 g2 _ _ _ hSim hP hD hS (lv_sub hl [2, 3, 4, 5, 6] rfl))
  · refine lv_aload_n hx hb dL_law_217 rfl (lv_at hl 5 rfl) ?_
    refine lv_iconst (v := 0) hx hb dL_law_218 (by decide +kernel) ?_
    refine va_lald (i := 0) hx hb hK hP 0 2 rfl rfl vp_in01 dL_law_219 ?_
    refine W.eq (g2 := F0 mm 220 ls [.long (g2 0)]) rfl ?_
    refine lv_iload hx hb dL_law_220 (lv_at hl 0 rfl) ?_
    refine lv_i2l (v := Int32.toInt64 v) hx hb dL_law_222 rfl ?_
    refine g_lcmpE (tgt := 229) hx hb dL_law_223 dL_law_224 (by decide) (fun _ => ?_) (fun h => absurd (hans h0) h)
    refine lv_goto (tgt := 1254) hx hb dL_law_229 (by decide) ?_
    exact W.widen (by omega) (by omega) (hN n2 w2 x2 m2 g2 _ _ _ hSim hP hD hS (lv_sub hl [2, 3, 4, 5, 6] rfl))
set_option maxHeartbeats 4000000 in
set_option maxRecDepth 100000 in
theorem law_setRef {p : Program} {l : Launch} {e : Env} {s : State} {mm : MethodId} {below : List Frame} {meth : Method} {c : Code} {b L : Nat} {xs : Nat → Int32} {D : va_G} {cI cZ cL : ClassId} {q qm : Nat → Nat} {qo : Nat} {Q : State → Prop} {k : Nat} {x : SX} {m : SM} {g : Nat → Int64} {H : Heap} {locs : List Loc} {ls : Array Slot} (C : LawC p s mm c b L xs D cI cZ cL) (hk : 6 * k + 6 ≤ L) (hL : L ≤ 3072) (hDb : Dbl l D cI cZ cL q qm qo yL_setRef wsL_setRef [.ref (q 0), .int (xs (6 * k + 1)), .int (xs (6 * k + 2)), .int (xs (6 * k + 3)), .ref qo] yX3_setRef wsX3_setRef [.ref (qm 0), .int (xs (6 * k + 1)), .int (xs (6 * k + 2)), .int (xs (6 * k + 3))] Int32.toInt64 x m g) (hP : va_P D vwCl (LWd cI cZ cL q qm qo x m g) H) (hD : va_D (fun a => s.heap.size ≤ a) (LWd cI cZ cL q qm qo x m g)) (hS : va_S (fun a => s.heap.size ≤ a) s.heap H locs) (hl : lv_has ls 7 [(0, .ref b), (1, .ref (q 0)), (2, .ref (qm 0)), (3, .ref qo), (4, .int (nI (6 * k)))]) (hN : LawN p l e s mm below meth c b D cI cZ cL q qm qo Q k) : W p l e room_1 s mm #[Value.ref b] below meth c H locs (33 + k) (1722 + 6 * k) Q (F0 mm 232 ls []) := by
  obtain ⟨hx, hb, hml, hown, hts, hX, hbl, hLE, hXT, hK⟩ := C
  have hA : ∀ a : Nat, s.heap.size ≤ a → (fun a => s.heap.size ≤ a) a := fun _ h => h
  have hbA : ¬ (fun a : Nat => s.heap.size ≤ a) b := Nat.not_le.mpr hbl
  have hk5 : k < 512 := by omega
  have hK2 := hK.sub (tys' := [(cI, .int), (cZ, .boolean)]) [0, 1] rfl
  obtain ⟨n2, w2, x2, g2, m2, z, v, mc, ms, rL, rM, hW, ⟨r1, r2, r3, r4, r5, r6⟩, hMc, ⟨t1, t2, t3, t4⟩, hz, hans, hSim⟩ := hDb
  refine lv_aload_n hx hb dL_law_232 rfl (lv_at hl 1 rfl) ?_
  refine lv_aload_n hx hb dL_law_233 rfl (lv_at hl 0 rfl) ?_
  refine lv_iload hx hb dL_law_234 (lv_at hl 4 rfl) ?_
  refine lv_iconst (v := 1) hx hb dL_law_236 (by decide +kernel) ?_
  refine lv_iadd hx hb dL_law_237 ?_
  refine g_sld hx hb hX hbl hbA hS (6 * k + 1) (by omega) (by omega) (g_addE rfl rfl) dL_law_238 ?_
  refine lv_aload_n hx hb dL_law_239 rfl (lv_at hl 0 rfl) ?_
  refine lv_iload hx hb dL_law_240 (lv_at hl 4 rfl) ?_
  refine lv_iconst (v := 2) hx hb dL_law_242 (by decide +kernel) ?_
  refine lv_iadd hx hb dL_law_243 ?_
  refine g_sld hx hb hX hbl hbA hS (6 * k + 2) (by omega) (by omega) (g_addE rfl rfl) dL_law_244 ?_
  refine lv_aload_n hx hb dL_law_245 rfl (lv_at hl 0 rfl) ?_
  refine lv_iload hx hb dL_law_246 (lv_at hl 4 rfl) ?_
  refine lv_iconst (v := 3) hx hb dL_law_248 (by decide +kernel) ?_
  refine lv_iadd hx hb dL_law_249 ?_
  refine g_sld hx hb hX hbl hbA hS (6 * k + 3) (by omega) (by omega) (g_addE rfl rfl) dL_law_250 ?_
  refine lv_aload_n hx hb dL_law_251 rfl (lv_at hl 3 rfl) ?_
  refine g_callSWF (As := [.ref (q 0), .int (xs (6 * k + 1)), .int (xs (6 * k + 2)), .int (xs (6 * k + 3)), .ref qo]) (rest := []) (wl := LWd cI cZ cL q qm qo x m g) (wr := MW cI cZ qm m) (wn := LWd cI cZ cL q qm qo x2 m g2) hx hb hml hown hts hW gL_law_L_setRef rfl r1 r2 hdL_setRef ⟨Nat.le_trans (Nat.succ_le_succ r3) (Nat.le_of_ble_eq_true rfl), Nat.le_trans (Nat.add_le_add_left r4 _) (Nat.le_of_ble_eq_true rfl)⟩ LE_em hLE XT_tm hXT hP hK hD hS hA rfl hl.1 rfl (Nat.le_of_ble_eq_true rfl) dL_law_252 ⟨room1_c hk5 r5, room1_s hk5 r6⟩ [0, 1, 2, 3, 4, 5, 6, 7, 8, 9, 10, 11, 12, 13, 14, 15, 16, 17] [18, 19, 20, 21, 22, 23, 24, 25, 26, 27, 28, 29, 30, 31, 32] [15, 16, 17, 18, 19, 20, 21, 22, 23, 24, 25, 26, 27, 28, 29, 30, 31, 32, 0, 1, 2, 3, 4, 5, 6, 7, 8, 9, 10, 11, 12, 13, 14] (by decide) rfl rfl (by decide) (by decide) (by decide) rfl (fun H locs hP hD hS => ?_)
  refine W.eq (g2 := F0 mm 255 ls [.int z]) rfl ?_
  refine lv_istore (lv' := [(5, .int z), (0, .ref b), (1, .ref (q 0)), (2, .ref (qm 0)), (3, .ref qo), (4, .int (nI (6 * k)))]) hx hb dL_law_255 hl (by decide) rfl (fun ls hl => ?_)
  refine lv_aload_n hx hb dL_law_257 rfl (lv_at hl 3 rfl) ?_
  refine lv_aload_n hx hb dL_law_258 rfl (lv_at hl 1 rfl) ?_
  refine lv_iload hx hb dL_law_259 (lv_at hl 5 rfl) ?_
  refine lv_iconst (v := 1) hx hb dL_law_261 (by decide +kernel) ?_
  refine lv_iadd hx hb dL_law_262 ?_
  refine g_sld hx hb hX hbl hbA hS (6 * k + 1) (by omega) (by omega) (g_addE rfl rfl) dL_law_263 ?_
  refine lv_aload_n hx hb dL_law_264 rfl (lv_at hl 1 rfl) ?_
  refine lv_iload hx hb dL_law_265 (lv_at hl 5 rfl) ?_
  refine lv_iconst (v := 2) hx hb dL_law_267 (by decide +kernel) ?_
  refine lv_iadd hx hb dL_law_268 ?_
  refine g_sld hx hb hX hbl hbA hS (6 * k + 2) (by omega) (by omega) (g_addE rfl rfl) dL_law_269 ?_
  refine lv_aload_n hx hb dL_law_270 rfl (lv_at hl 1 rfl) ?_
  refine lv_iload hx hb dL_law_271 (lv_at hl 5 rfl) ?_
  refine lv_iconst (v := 3) hx hb dL_law_273 (by decide +kernel) ?_
  refine lv_iadd hx hb dL_law_274 ?_
  refine g_sld hx hb hX hbl hbA hS (6 * k + 3) (by omega) (by omega) (g_addE rfl rfl) dL_law_275 ?_
  refine g_callVF (As := [.int (xs (6 * k + 1)), .int (xs (6 * k + 2)), .int (xs (6 * k + 3))]) (rest := []) (wl := LWd cI cZ cL q qm qo x2 m g2) (wr := WL cI cZ cL q qo (x2, g2)) (wn := LWd cI cZ cL q qm qo x2 m2 g2) hx hb hml hown hts hMc gL_law_X3_setRef rfl t1 t2 hdX3_setRef ⟨Nat.le_trans (Nat.succ_le_succ t3) (Nat.le_of_ble_eq_true rfl), Nat.le_trans (Nat.add_le_add_left t4 _) (Nat.le_of_ble_eq_true rfl)⟩ gEM_true trivial hP hK2 hD hS hA 0 rfl rfl rfl hl.1 rfl (Nat.le_of_ble_eq_true rfl) dL_law_276 ⟨room1_c hk5 r5, room1_s hk5 r6⟩ [18, 19, 20, 21, 22, 23, 24, 25, 26, 27, 28, 29, 30, 31, 32] [0, 1, 2, 3, 4, 5, 6, 7, 8, 9, 10, 11, 12, 13, 14, 15, 16, 17] [0, 1, 2, 3, 4, 5, 6, 7, 8, 9, 10, 11, 12, 13, 14, 15, 16, 17, 18, 19, 20, 21, 22, 23, 24, 25, 26, 27, 28, 29, 30, 31, 32] (by decide) rfl rfl (by decide) (by decide) (by decide) rfl (fun H locs hP hD hS => ?_)
  refine W.eq (g2 := F0 mm 279 ls [.int v]) rfl ?_
  refine lv_istore (lv' := [(6, .int v), (5, .int z), (0, .ref b), (1, .ref (q 0)), (2, .ref (qm 0)), (3, .ref qo), (4, .int (nI (6 * k)))]) hx hb dL_law_279 hl (by decide) rfl (fun ls hl => ?_)
  refine lv_aload_n hx hb dL_law_281 rfl (lv_at hl 4 rfl) ?_
  refine g_callVF (As := []) (rest := []) (wl := LWd cI cZ cL q qm qo x2 m2 g2) (wr := WL cI cZ cL q qo (x2, g2)) (wn := LWd cI cZ cL q qm qo x2 m2 g2) hx hb hml hown hts (ctX3_thrown l D cI cZ qm m2) gL_law_X3_thrown rfl rfl rfl hdX3_thrown ⟨Nat.le_of_ble_eq_true rfl, Nat.le_of_ble_eq_true rfl⟩ gEM_true trivial hP hK2 hD hS hA 0 rfl rfl rfl hl.1 rfl (Nat.le_of_ble_eq_true rfl) dL_law_282 ⟨room1_c hk5 r5, room1_s hk5 r6⟩ [18, 19, 20, 21, 22, 23, 24, 25, 26, 27, 28, 29, 30, 31, 32] [0, 1, 2, 3, 4, 5, 6, 7, 8, 9, 10, 11, 12, 13, 14, 15, 16, 17] [0, 1, 2, 3, 4, 5, 6, 7, 8, 9, 10, 11, 12, 13, 14, 15, 16, 17, 18, 19, 20, 21, 22, 23, 24, 25, 26, 27, 28, 29, 30, 31, 32] (by decide) rfl rfl (by decide) (by decide) (by decide) rfl (fun H locs hP hD hS => ?_)
  refine W.eq (g2 := F0 mm 285 ls [.int (m2 14 0)]) rfl ?_
  refine lv_iload hx hb dL_law_285 (lv_at hl 1 rfl) ?_
  refine lv_icmp_eq (tgt := 292) hx hb dL_law_287 (by decide) (fun _ => ?_) (fun h => absurd hz h)
  refine lv_iload hx hb dL_law_292 (lv_at hl 1 rfl) ?_
  refine lv_if_ne (tgt := 309) hx hb dL_law_294 (by decide) (fun _ => ?_) (fun h0 => ?_)
  · refine lv_goto (tgt := 1254) hx hb dL_law_309 (by decide) ?_
    exact W.widen (by omega) (by omega) (hN n2 w2 x2 m2 g2 _ _ _ hSim hP hD hS (lv_sub hl [2, 3, 4, 5, 6] rfl))
  · refine lv_aload_n hx hb dL_law_297 rfl (lv_at hl 5 rfl) ?_
    refine lv_iconst (v := 0) hx hb dL_law_298 (by decide +kernel) ?_
    refine va_lald (i := 0) hx hb hK hP 0 2 rfl rfl vp_in01 dL_law_299 ?_
    refine W.eq (g2 := F0 mm 300 ls [.long (g2 0)]) rfl ?_
    refine lv_iload hx hb dL_law_300 (lv_at hl 0 rfl) ?_
    refine lv_i2l (v := Int32.toInt64 v) hx hb dL_law_302 rfl ?_
    refine g_lcmpE (tgt := 309) hx hb dL_law_303 dL_law_304 (by decide) (fun _ => ?_) (fun h => absurd (hans h0) h)
    refine lv_goto (tgt := 1254) hx hb dL_law_309 (by decide) ?_
    exact W.widen (by omega) (by omega) (hN n2 w2 x2 m2 g2 _ _ _ hSim hP hD hS (lv_sub hl [2, 3, 4, 5, 6] rfl))
set_option maxHeartbeats 4000000 in
set_option maxRecDepth 100000 in
theorem law_ref {p : Program} {l : Launch} {e : Env} {s : State} {mm : MethodId} {below : List Frame} {meth : Method} {c : Code} {b L : Nat} {xs : Nat → Int32} {D : va_G} {cI cZ cL : ClassId} {q qm : Nat → Nat} {qo : Nat} {Q : State → Prop} {k : Nat} {x : SX} {m : SM} {g : Nat → Int64} {H : Heap} {locs : List Loc} {ls : Array Slot} (C : LawC p s mm c b L xs D cI cZ cL) (hk : 6 * k + 6 ≤ L) (hL : L ≤ 3072) (hDb : Dbl l D cI cZ cL q qm qo yL_ref wsL_ref [.ref (q 0), .int (xs (6 * k + 1)), .int (xs (6 * k + 2)), .ref qo] yX3_ref wsX3_ref [.ref (qm 0), .int (xs (6 * k + 1)), .int (xs (6 * k + 2))] Int32.toInt64 x m g) (hP : va_P D vwCl (LWd cI cZ cL q qm qo x m g) H) (hD : va_D (fun a => s.heap.size ≤ a) (LWd cI cZ cL q qm qo x m g)) (hS : va_S (fun a => s.heap.size ≤ a) s.heap H locs) (hl : lv_has ls 7 [(0, .ref b), (1, .ref (q 0)), (2, .ref (qm 0)), (3, .ref qo), (4, .int (nI (6 * k)))]) (hN : LawN p l e s mm below meth c b D cI cZ cL q qm qo Q k) : W p l e room_1 s mm #[Value.ref b] below meth c H locs (33 + k) (1722 + 6 * k) Q (F0 mm 312 ls []) := by
  obtain ⟨hx, hb, hml, hown, hts, hX, hbl, hLE, hXT, hK⟩ := C
  have hA : ∀ a : Nat, s.heap.size ≤ a → (fun a => s.heap.size ≤ a) a := fun _ h => h
  have hbA : ¬ (fun a : Nat => s.heap.size ≤ a) b := Nat.not_le.mpr hbl
  have hk5 : k < 512 := by omega
  have hK2 := hK.sub (tys' := [(cI, .int), (cZ, .boolean)]) [0, 1] rfl
  obtain ⟨n2, w2, x2, g2, m2, z, v, mc, ms, rL, rM, hW, ⟨r1, r2, r3, r4, r5, r6⟩, hMc, ⟨t1, t2, t3, t4⟩, hz, hans, hSim⟩ := hDb
  refine lv_aload_n hx hb dL_law_312 rfl (lv_at hl 1 rfl) ?_
  refine lv_aload_n hx hb dL_law_313 rfl (lv_at hl 0 rfl) ?_
  refine lv_iload hx hb dL_law_314 (lv_at hl 4 rfl) ?_
  refine lv_iconst (v := 1) hx hb dL_law_316 (by decide +kernel) ?_
  refine lv_iadd hx hb dL_law_317 ?_
  refine g_sld hx hb hX hbl hbA hS (6 * k + 1) (by omega) (by omega) (g_addE rfl rfl) dL_law_318 ?_
  refine lv_aload_n hx hb dL_law_319 rfl (lv_at hl 0 rfl) ?_
  refine lv_iload hx hb dL_law_320 (lv_at hl 4 rfl) ?_
  refine lv_iconst (v := 2) hx hb dL_law_322 (by decide +kernel) ?_
  refine lv_iadd hx hb dL_law_323 ?_
  refine g_sld hx hb hX hbl hbA hS (6 * k + 2) (by omega) (by omega) (g_addE rfl rfl) dL_law_324 ?_
  refine lv_aload_n hx hb dL_law_325 rfl (lv_at hl 3 rfl) ?_
  refine g_callSWF (As := [.ref (q 0), .int (xs (6 * k + 1)), .int (xs (6 * k + 2)), .ref qo]) (rest := []) (wl := LWd cI cZ cL q qm qo x m g) (wr := MW cI cZ qm m) (wn := LWd cI cZ cL q qm qo x2 m g2) hx hb hml hown hts hW gL_law_L_ref rfl r1 r2 hdL_ref ⟨Nat.le_trans (Nat.succ_le_succ r3) (Nat.le_of_ble_eq_true rfl), Nat.le_trans (Nat.add_le_add_left r4 _) (Nat.le_of_ble_eq_true rfl)⟩ LE_em hLE XT_tm hXT hP hK hD hS hA rfl hl.1 rfl (Nat.le_of_ble_eq_true rfl) dL_law_326 ⟨room1_c hk5 r5, room1_s hk5 r6⟩ [0, 1, 2, 3, 4, 5, 6, 7, 8, 9, 10, 11, 12, 13, 14, 15, 16, 17] [18, 19, 20, 21, 22, 23, 24, 25, 26, 27, 28, 29, 30, 31, 32] [15, 16, 17, 18, 19, 20, 21, 22, 23, 24, 25, 26, 27, 28, 29, 30, 31, 32, 0, 1, 2, 3, 4, 5, 6, 7, 8, 9, 10, 11, 12, 13, 14] (by decide) rfl rfl (by decide) (by decide) (by decide) rfl (fun H locs hP hD hS => ?_)
  refine W.eq (g2 := F0 mm 329 ls [.int z]) rfl ?_
  refine lv_istore (lv' := [(5, .int z), (0, .ref b), (1, .ref (q 0)), (2, .ref (qm 0)), (3, .ref qo), (4, .int (nI (6 * k)))]) hx hb dL_law_329 hl (by decide) rfl (fun ls hl => ?_)
  refine lv_aload_n hx hb dL_law_331 rfl (lv_at hl 3 rfl) ?_
  refine lv_aload_n hx hb dL_law_332 rfl (lv_at hl 1 rfl) ?_
  refine lv_iload hx hb dL_law_333 (lv_at hl 5 rfl) ?_
  refine lv_iconst (v := 1) hx hb dL_law_335 (by decide +kernel) ?_
  refine lv_iadd hx hb dL_law_336 ?_
  refine g_sld hx hb hX hbl hbA hS (6 * k + 1) (by omega) (by omega) (g_addE rfl rfl) dL_law_337 ?_
  refine lv_aload_n hx hb dL_law_338 rfl (lv_at hl 1 rfl) ?_
  refine lv_iload hx hb dL_law_339 (lv_at hl 5 rfl) ?_
  refine lv_iconst (v := 2) hx hb dL_law_341 (by decide +kernel) ?_
  refine lv_iadd hx hb dL_law_342 ?_
  refine g_sld hx hb hX hbl hbA hS (6 * k + 2) (by omega) (by omega) (g_addE rfl rfl) dL_law_343 ?_
  refine g_callVF (As := [.int (xs (6 * k + 1)), .int (xs (6 * k + 2))]) (rest := []) (wl := LWd cI cZ cL q qm qo x2 m g2) (wr := WL cI cZ cL q qo (x2, g2)) (wn := LWd cI cZ cL q qm qo x2 m2 g2) hx hb hml hown hts hMc gL_law_X3_ref rfl t1 t2 hdX3_ref ⟨Nat.le_trans (Nat.succ_le_succ t3) (Nat.le_of_ble_eq_true rfl), Nat.le_trans (Nat.add_le_add_left t4 _) (Nat.le_of_ble_eq_true rfl)⟩ gEM_true trivial hP hK2 hD hS hA 0 rfl rfl rfl hl.1 rfl (Nat.le_of_ble_eq_true rfl) dL_law_344 ⟨room1_c hk5 r5, room1_s hk5 r6⟩ [18, 19, 20, 21, 22, 23, 24, 25, 26, 27, 28, 29, 30, 31, 32] [0, 1, 2, 3, 4, 5, 6, 7, 8, 9, 10, 11, 12, 13, 14, 15, 16, 17] [0, 1, 2, 3, 4, 5, 6, 7, 8, 9, 10, 11, 12, 13, 14, 15, 16, 17, 18, 19, 20, 21, 22, 23, 24, 25, 26, 27, 28, 29, 30, 31, 32] (by decide) rfl rfl (by decide) (by decide) (by decide) rfl (fun H locs hP hD hS => ?_)
  refine W.eq (g2 := F0 mm 347 ls [.int v]) rfl ?_
  refine lv_istore (lv' := [(6, .int v), (5, .int z), (0, .ref b), (1, .ref (q 0)), (2, .ref (qm 0)), (3, .ref qo), (4, .int (nI (6 * k)))]) hx hb dL_law_347 hl (by decide) rfl (fun ls hl => ?_)
  refine lv_aload_n hx hb dL_law_349 rfl (lv_at hl 4 rfl) ?_
  refine g_callVF (As := []) (rest := []) (wl := LWd cI cZ cL q qm qo x2 m2 g2) (wr := WL cI cZ cL q qo (x2, g2)) (wn := LWd cI cZ cL q qm qo x2 m2 g2) hx hb hml hown hts (ctX3_thrown l D cI cZ qm m2) gL_law_X3_thrown rfl rfl rfl hdX3_thrown ⟨Nat.le_of_ble_eq_true rfl, Nat.le_of_ble_eq_true rfl⟩ gEM_true trivial hP hK2 hD hS hA 0 rfl rfl rfl hl.1 rfl (Nat.le_of_ble_eq_true rfl) dL_law_350 ⟨room1_c hk5 r5, room1_s hk5 r6⟩ [18, 19, 20, 21, 22, 23, 24, 25, 26, 27, 28, 29, 30, 31, 32] [0, 1, 2, 3, 4, 5, 6, 7, 8, 9, 10, 11, 12, 13, 14, 15, 16, 17] [0, 1, 2, 3, 4, 5, 6, 7, 8, 9, 10, 11, 12, 13, 14, 15, 16, 17, 18, 19, 20, 21, 22, 23, 24, 25, 26, 27, 28, 29, 30, 31, 32] (by decide) rfl rfl (by decide) (by decide) (by decide) rfl (fun H locs hP hD hS => ?_)
  refine W.eq (g2 := F0 mm 353 ls [.int (m2 14 0)]) rfl ?_
  refine lv_iload hx hb dL_law_353 (lv_at hl 1 rfl) ?_
  refine lv_icmp_eq (tgt := 360) hx hb dL_law_355 (by decide) (fun _ => ?_) (fun h => absurd hz h)
  refine lv_iload hx hb dL_law_360 (lv_at hl 1 rfl) ?_
  refine lv_if_ne (tgt := 377) hx hb dL_law_362 (by decide) (fun _ => ?_) (fun h0 => ?_)
  · refine lv_goto (tgt := 1254) hx hb dL_law_377 (by decide) ?_
    exact W.widen (by omega) (by omega) (hN n2 w2 x2 m2 g2 _ _ _ hSim hP hD hS (lv_sub hl [2, 3, 4, 5, 6] rfl))
  · refine lv_aload_n hx hb dL_law_365 rfl (lv_at hl 5 rfl) ?_
    refine lv_iconst (v := 0) hx hb dL_law_366 (by decide +kernel) ?_
    refine va_lald (i := 0) hx hb hK hP 0 2 rfl rfl vp_in01 dL_law_367 ?_
    refine W.eq (g2 := F0 mm 368 ls [.long (g2 0)]) rfl ?_
    refine lv_iload hx hb dL_law_368 (lv_at hl 0 rfl) ?_
    refine lv_i2l (v := Int32.toInt64 v) hx hb dL_law_370 rfl ?_
    refine g_lcmpE (tgt := 377) hx hb dL_law_371 dL_law_372 (by decide) (fun _ => ?_) (fun h => absurd (hans h0) h)
    refine lv_goto (tgt := 1254) hx hb dL_law_377 (by decide) ?_
    exact W.widen (by omega) (by omega) (hN n2 w2 x2 m2 g2 _ _ _ hSim hP hD hS (lv_sub hl [2, 3, 4, 5, 6] rfl))
set_option maxHeartbeats 4000000 in
set_option maxRecDepth 100000 in
theorem law_fileAt {p : Program} {l : Launch} {e : Env} {s : State} {mm : MethodId} {below : List Frame} {meth : Method} {c : Code} {b L : Nat} {xs : Nat → Int32} {D : va_G} {cI cZ cL : ClassId} {q qm : Nat → Nat} {qo : Nat} {Q : State → Prop} {k : Nat} {x : SX} {m : SM} {g : Nat → Int64} {H : Heap} {locs : List Loc} {ls : Array Slot} (C : LawC p s mm c b L xs D cI cZ cL) (hk : 6 * k + 6 ≤ L) (hL : L ≤ 3072) (hDb : Dbl l D cI cZ cL q qm qo yL_fileAt wsL_fileAt [.ref (q 0), .int (xs (6 * k + 1)), .int (xs (6 * k + 2)), .ref qo] yX3_fileAt wsX3_fileAt [.ref (qm 0), .int (xs (6 * k + 1)), .int (xs (6 * k + 2))] Int32.toInt64 x m g) (hP : va_P D vwCl (LWd cI cZ cL q qm qo x m g) H) (hD : va_D (fun a => s.heap.size ≤ a) (LWd cI cZ cL q qm qo x m g)) (hS : va_S (fun a => s.heap.size ≤ a) s.heap H locs) (hl : lv_has ls 7 [(0, .ref b), (1, .ref (q 0)), (2, .ref (qm 0)), (3, .ref qo), (4, .int (nI (6 * k)))]) (hN : LawN p l e s mm below meth c b D cI cZ cL q qm qo Q k) : W p l e room_1 s mm #[Value.ref b] below meth c H locs (33 + k) (1722 + 6 * k) Q (F0 mm 380 ls []) := by
  obtain ⟨hx, hb, hml, hown, hts, hX, hbl, hLE, hXT, hK⟩ := C
  have hA : ∀ a : Nat, s.heap.size ≤ a → (fun a => s.heap.size ≤ a) a := fun _ h => h
  have hbA : ¬ (fun a : Nat => s.heap.size ≤ a) b := Nat.not_le.mpr hbl
  have hk5 : k < 512 := by omega
  have hK2 := hK.sub (tys' := [(cI, .int), (cZ, .boolean)]) [0, 1] rfl
  obtain ⟨n2, w2, x2, g2, m2, z, v, mc, ms, rL, rM, hW, ⟨r1, r2, r3, r4, r5, r6⟩, hMc, ⟨t1, t2, t3, t4⟩, hz, hans, hSim⟩ := hDb
  refine lv_aload_n hx hb dL_law_380 rfl (lv_at hl 1 rfl) ?_
  refine lv_aload_n hx hb dL_law_381 rfl (lv_at hl 0 rfl) ?_
  refine lv_iload hx hb dL_law_382 (lv_at hl 4 rfl) ?_
  refine lv_iconst (v := 1) hx hb dL_law_384 (by decide +kernel) ?_
  refine lv_iadd hx hb dL_law_385 ?_
  refine g_sld hx hb hX hbl hbA hS (6 * k + 1) (by omega) (by omega) (g_addE rfl rfl) dL_law_386 ?_
  refine lv_aload_n hx hb dL_law_387 rfl (lv_at hl 0 rfl) ?_
  refine lv_iload hx hb dL_law_388 (lv_at hl 4 rfl) ?_
  refine lv_iconst (v := 2) hx hb dL_law_390 (by decide +kernel) ?_
  refine lv_iadd hx hb dL_law_391 ?_
  refine g_sld hx hb hX hbl hbA hS (6 * k + 2) (by omega) (by omega) (g_addE rfl rfl) dL_law_392 ?_
  refine lv_aload_n hx hb dL_law_393 rfl (lv_at hl 3 rfl) ?_
  refine g_callSWF (As := [.ref (q 0), .int (xs (6 * k + 1)), .int (xs (6 * k + 2)), .ref qo]) (rest := []) (wl := LWd cI cZ cL q qm qo x m g) (wr := MW cI cZ qm m) (wn := LWd cI cZ cL q qm qo x2 m g2) hx hb hml hown hts hW gL_law_L_fileAt rfl r1 r2 hdL_fileAt ⟨Nat.le_trans (Nat.succ_le_succ r3) (Nat.le_of_ble_eq_true rfl), Nat.le_trans (Nat.add_le_add_left r4 _) (Nat.le_of_ble_eq_true rfl)⟩ LE_em hLE XT_tm hXT hP hK hD hS hA rfl hl.1 rfl (Nat.le_of_ble_eq_true rfl) dL_law_394 ⟨room1_c hk5 r5, room1_s hk5 r6⟩ [0, 1, 2, 3, 4, 5, 6, 7, 8, 9, 10, 11, 12, 13, 14, 15, 16, 17] [18, 19, 20, 21, 22, 23, 24, 25, 26, 27, 28, 29, 30, 31, 32] [15, 16, 17, 18, 19, 20, 21, 22, 23, 24, 25, 26, 27, 28, 29, 30, 31, 32, 0, 1, 2, 3, 4, 5, 6, 7, 8, 9, 10, 11, 12, 13, 14] (by decide) rfl rfl (by decide) (by decide) (by decide) rfl (fun H locs hP hD hS => ?_)
  refine W.eq (g2 := F0 mm 397 ls [.int z]) rfl ?_
  refine lv_istore (lv' := [(5, .int z), (0, .ref b), (1, .ref (q 0)), (2, .ref (qm 0)), (3, .ref qo), (4, .int (nI (6 * k)))]) hx hb dL_law_397 hl (by decide) rfl (fun ls hl => ?_)
  refine lv_aload_n hx hb dL_law_399 rfl (lv_at hl 3 rfl) ?_
  refine lv_aload_n hx hb dL_law_400 rfl (lv_at hl 1 rfl) ?_
  refine lv_iload hx hb dL_law_401 (lv_at hl 5 rfl) ?_
  refine lv_iconst (v := 1) hx hb dL_law_403 (by decide +kernel) ?_
  refine lv_iadd hx hb dL_law_404 ?_
  refine g_sld hx hb hX hbl hbA hS (6 * k + 1) (by omega) (by omega) (g_addE rfl rfl) dL_law_405 ?_
  refine lv_aload_n hx hb dL_law_406 rfl (lv_at hl 1 rfl) ?_
  refine lv_iload hx hb dL_law_407 (lv_at hl 5 rfl) ?_
  refine lv_iconst (v := 2) hx hb dL_law_409 (by decide +kernel) ?_
  refine lv_iadd hx hb dL_law_410 ?_
  refine g_sld hx hb hX hbl hbA hS (6 * k + 2) (by omega) (by omega) (g_addE rfl rfl) dL_law_411 ?_
  refine g_callVF (As := [.int (xs (6 * k + 1)), .int (xs (6 * k + 2))]) (rest := []) (wl := LWd cI cZ cL q qm qo x2 m g2) (wr := WL cI cZ cL q qo (x2, g2)) (wn := LWd cI cZ cL q qm qo x2 m2 g2) hx hb hml hown hts hMc gL_law_X3_fileAt rfl t1 t2 hdX3_fileAt ⟨Nat.le_trans (Nat.succ_le_succ t3) (Nat.le_of_ble_eq_true rfl), Nat.le_trans (Nat.add_le_add_left t4 _) (Nat.le_of_ble_eq_true rfl)⟩ gEM_true trivial hP hK2 hD hS hA 0 rfl rfl rfl hl.1 rfl (Nat.le_of_ble_eq_true rfl) dL_law_412 ⟨room1_c hk5 r5, room1_s hk5 r6⟩ [18, 19, 20, 21, 22, 23, 24, 25, 26, 27, 28, 29, 30, 31, 32] [0, 1, 2, 3, 4, 5, 6, 7, 8, 9, 10, 11, 12, 13, 14, 15, 16, 17] [0, 1, 2, 3, 4, 5, 6, 7, 8, 9, 10, 11, 12, 13, 14, 15, 16, 17, 18, 19, 20, 21, 22, 23, 24, 25, 26, 27, 28, 29, 30, 31, 32] (by decide) rfl rfl (by decide) (by decide) (by decide) rfl (fun H locs hP hD hS => ?_)
  refine W.eq (g2 := F0 mm 415 ls [.int v]) rfl ?_
  refine lv_istore (lv' := [(6, .int v), (5, .int z), (0, .ref b), (1, .ref (q 0)), (2, .ref (qm 0)), (3, .ref qo), (4, .int (nI (6 * k)))]) hx hb dL_law_415 hl (by decide) rfl (fun ls hl => ?_)
  refine lv_aload_n hx hb dL_law_417 rfl (lv_at hl 4 rfl) ?_
  refine g_callVF (As := []) (rest := []) (wl := LWd cI cZ cL q qm qo x2 m2 g2) (wr := WL cI cZ cL q qo (x2, g2)) (wn := LWd cI cZ cL q qm qo x2 m2 g2) hx hb hml hown hts (ctX3_thrown l D cI cZ qm m2) gL_law_X3_thrown rfl rfl rfl hdX3_thrown ⟨Nat.le_of_ble_eq_true rfl, Nat.le_of_ble_eq_true rfl⟩ gEM_true trivial hP hK2 hD hS hA 0 rfl rfl rfl hl.1 rfl (Nat.le_of_ble_eq_true rfl) dL_law_418 ⟨room1_c hk5 r5, room1_s hk5 r6⟩ [18, 19, 20, 21, 22, 23, 24, 25, 26, 27, 28, 29, 30, 31, 32] [0, 1, 2, 3, 4, 5, 6, 7, 8, 9, 10, 11, 12, 13, 14, 15, 16, 17] [0, 1, 2, 3, 4, 5, 6, 7, 8, 9, 10, 11, 12, 13, 14, 15, 16, 17, 18, 19, 20, 21, 22, 23, 24, 25, 26, 27, 28, 29, 30, 31, 32] (by decide) rfl rfl (by decide) (by decide) (by decide) rfl (fun H locs hP hD hS => ?_)
  refine W.eq (g2 := F0 mm 421 ls [.int (m2 14 0)]) rfl ?_
  refine lv_iload hx hb dL_law_421 (lv_at hl 1 rfl) ?_
  refine lv_icmp_eq (tgt := 428) hx hb dL_law_423 (by decide) (fun _ => ?_) (fun h => absurd hz h)
  refine lv_iload hx hb dL_law_428 (lv_at hl 1 rfl) ?_
  refine lv_if_ne (tgt := 445) hx hb dL_law_430 (by decide) (fun _ => ?_) (fun h0 => ?_)
  · refine lv_goto (tgt := 1254) hx hb dL_law_445 (by decide) ?_
    exact W.widen (by omega) (by omega) (hN n2 w2 x2 m2 g2 _ _ _ hSim hP hD hS (lv_sub hl [2, 3, 4, 5, 6] rfl))
  · refine lv_aload_n hx hb dL_law_433 rfl (lv_at hl 5 rfl) ?_
    refine lv_iconst (v := 0) hx hb dL_law_434 (by decide +kernel) ?_
    refine va_lald (i := 0) hx hb hK hP 0 2 rfl rfl vp_in01 dL_law_435 ?_
    refine W.eq (g2 := F0 mm 436 ls [.long (g2 0)]) rfl ?_
    refine lv_iload hx hb dL_law_436 (lv_at hl 0 rfl) ?_
    refine lv_i2l (v := Int32.toInt64 v) hx hb dL_law_438 rfl ?_
    refine g_lcmpE (tgt := 445) hx hb dL_law_439 dL_law_440 (by decide) (fun _ => ?_) (fun h => absurd (hans h0) h)
    refine lv_goto (tgt := 1254) hx hb dL_law_445 (by decide) ?_
    exact W.widen (by omega) (by omega) (hN n2 w2 x2 m2 g2 _ _ _ hSim hP hD hS (lv_sub hl [2, 3, 4, 5, 6] rfl))
set_option maxHeartbeats 4000000 in
set_option maxRecDepth 100000 in
theorem law_fetch {p : Program} {l : Launch} {e : Env} {s : State} {mm : MethodId} {below : List Frame} {meth : Method} {c : Code} {b L : Nat} {xs : Nat → Int32} {D : va_G} {cI cZ cL : ClassId} {q qm : Nat → Nat} {qo : Nat} {Q : State → Prop} {k : Nat} {x : SX} {m : SM} {g : Nat → Int64} {H : Heap} {locs : List Loc} {ls : Array Slot} (C : LawC p s mm c b L xs D cI cZ cL) (hk : 6 * k + 6 ≤ L) (hL : L ≤ 3072) (hDb : Dbl l D cI cZ cL q qm qo yL_fetch wsL_fetch [.ref (q 0), .int (xs (6 * k + 1)), .int (xs (6 * k + 2)), .int (zB (xs (6 * k + 3))), .ref qo] yX3_fetch wsX3_fetch [.ref (qm 0), .int (xs (6 * k + 1)), .int (xs (6 * k + 2)), .int (zB (xs (6 * k + 3)))] Int32.toInt64 x m g) (hP : va_P D vwCl (LWd cI cZ cL q qm qo x m g) H) (hD : va_D (fun a => s.heap.size ≤ a) (LWd cI cZ cL q qm qo x m g)) (hS : va_S (fun a => s.heap.size ≤ a) s.heap H locs) (hl : lv_has ls 7 [(0, .ref b), (1, .ref (q 0)), (2, .ref (qm 0)), (3, .ref qo), (4, .int (nI (6 * k)))]) (hN : LawN p l e s mm below meth c b D cI cZ cL q qm qo Q k) : W p l e room_1 s mm #[Value.ref b] below meth c H locs (33 + k) (1722 + 6 * k) Q (F0 mm 448 ls []) := by
  obtain ⟨hx, hb, hml, hown, hts, hX, hbl, hLE, hXT, hK⟩ := C
  have hA : ∀ a : Nat, s.heap.size ≤ a → (fun a => s.heap.size ≤ a) a := fun _ h => h
  have hbA : ¬ (fun a : Nat => s.heap.size ≤ a) b := Nat.not_le.mpr hbl
  have hk5 : k < 512 := by omega
  have hK2 := hK.sub (tys' := [(cI, .int), (cZ, .boolean)]) [0, 1] rfl
  obtain ⟨n2, w2, x2, g2, m2, z, v, mc, ms, rL, rM, hW, ⟨r1, r2, r3, r4, r5, r6⟩, hMc, ⟨t1, t2, t3, t4⟩, hz, hans, hSim⟩ := hDb
  refine lv_aload_n hx hb dL_law_448 rfl (lv_at hl 1 rfl) ?_
  refine lv_aload_n hx hb dL_law_449 rfl (lv_at hl 0 rfl) ?_
  refine lv_iload hx hb dL_law_450 (lv_at hl 4 rfl) ?_
  refine lv_iconst (v := 1) hx hb dL_law_452 (by decide +kernel) ?_
  refine lv_iadd hx hb dL_law_453 ?_
  refine g_sld hx hb hX hbl hbA hS (6 * k + 1) (by omega) (by omega) (g_addE rfl rfl) dL_law_454 ?_
  refine lv_aload_n hx hb dL_law_455 rfl (lv_at hl 0 rfl) ?_
  refine lv_iload hx hb dL_law_456 (lv_at hl 4 rfl) ?_
  refine lv_iconst (v := 2) hx hb dL_law_458 (by decide +kernel) ?_
  refine lv_iadd hx hb dL_law_459 ?_
  refine g_sld hx hb hX hbl hbA hS (6 * k + 2) (by omega) (by omega) (g_addE rfl rfl) dL_law_460 ?_
  refine lv_aload_n hx hb dL_law_461 rfl (lv_at hl 0 rfl) ?_
  refine lv_iload hx hb dL_law_462 (lv_at hl 4 rfl) ?_
  refine lv_iconst (v := 3) hx hb dL_law_464 (by decide +kernel) ?_
  refine lv_iadd hx hb dL_law_465 ?_
  refine g_sld hx hb hX hbl hbA hS (6 * k + 3) (by omega) (by omega) (g_addE rfl rfl) dL_law_466 ?_
  refine g_bool hx hb dL_law_467 dL_law_470 dL_law_471 dL_law_474 ?_
  refine lv_aload_n hx hb dL_law_475 rfl (lv_at hl 3 rfl) ?_
  refine g_callSWF (As := [.ref (q 0), .int (xs (6 * k + 1)), .int (xs (6 * k + 2)), .int (zB (xs (6 * k + 3))), .ref qo]) (rest := []) (wl := LWd cI cZ cL q qm qo x m g) (wr := MW cI cZ qm m) (wn := LWd cI cZ cL q qm qo x2 m g2) hx hb hml hown hts hW gL_law_L_fetch rfl r1 r2 hdL_fetch ⟨Nat.le_trans (Nat.succ_le_succ r3) (Nat.le_of_ble_eq_true rfl), Nat.le_trans (Nat.add_le_add_left r4 _) (Nat.le_of_ble_eq_true rfl)⟩ LE_em hLE XT_tm hXT hP hK hD hS hA rfl hl.1 rfl (Nat.le_of_ble_eq_true rfl) dL_law_476 ⟨room1_c hk5 r5, room1_s hk5 r6⟩ [0, 1, 2, 3, 4, 5, 6, 7, 8, 9, 10, 11, 12, 13, 14, 15, 16, 17] [18, 19, 20, 21, 22, 23, 24, 25, 26, 27, 28, 29, 30, 31, 32] [15, 16, 17, 18, 19, 20, 21, 22, 23, 24, 25, 26, 27, 28, 29, 30, 31, 32, 0, 1, 2, 3, 4, 5, 6, 7, 8, 9, 10, 11, 12, 13, 14] (by decide) rfl rfl (by decide) (by decide) (by decide) rfl (fun H locs hP hD hS => ?_)
  refine W.eq (g2 := F0 mm 479 ls [.int z]) rfl ?_
  refine lv_istore (lv' := [(5, .int z), (0, .ref b), (1, .ref (q 0)), (2, .ref (qm 0)), (3, .ref qo), (4, .int (nI (6 * k)))]) hx hb dL_law_479 hl (by decide) rfl (fun ls hl => ?_)
  refine lv_aload_n hx hb dL_law_481 rfl (lv_at hl 3 rfl) ?_
  refine lv_aload_n hx hb dL_law_482 rfl (lv_at hl 1 rfl) ?_
  refine lv_iload hx hb dL_law_483 (lv_at hl 5 rfl) ?_
  refine lv_iconst (v := 1) hx hb dL_law_485 (by decide +kernel) ?_
  refine lv_iadd hx hb dL_law_486 ?_
  refine g_sld hx hb hX hbl hbA hS (6 * k + 1) (by omega) (by omega) (g_addE rfl rfl) dL_law_487 ?_
  refine lv_aload_n hx hb dL_law_488 rfl (lv_at hl 1 rfl) ?_
  refine lv_iload hx hb dL_law_489 (lv_at hl 5 rfl) ?_
  refine lv_iconst (v := 2) hx hb dL_law_491 (by decide +kernel) ?_
  refine lv_iadd hx hb dL_law_492 ?_
  refine g_sld hx hb hX hbl hbA hS (6 * k + 2) (by omega) (by omega) (g_addE rfl rfl) dL_law_493 ?_
  refine lv_aload_n hx hb dL_law_494 rfl (lv_at hl 1 rfl) ?_
  refine lv_iload hx hb dL_law_495 (lv_at hl 5 rfl) ?_
  refine lv_iconst (v := 3) hx hb dL_law_497 (by decide +kernel) ?_
  refine lv_iadd hx hb dL_law_498 ?_
  refine g_sld hx hb hX hbl hbA hS (6 * k + 3) (by omega) (by omega) (g_addE rfl rfl) dL_law_499 ?_
  refine g_bool hx hb dL_law_500 dL_law_503 dL_law_504 dL_law_507 ?_
  refine g_callVF (As := [.int (xs (6 * k + 1)), .int (xs (6 * k + 2)), .int (zB (xs (6 * k + 3)))]) (rest := []) (wl := LWd cI cZ cL q qm qo x2 m g2) (wr := WL cI cZ cL q qo (x2, g2)) (wn := LWd cI cZ cL q qm qo x2 m2 g2) hx hb hml hown hts hMc gL_law_X3_fetch rfl t1 t2 hdX3_fetch ⟨Nat.le_trans (Nat.succ_le_succ t3) (Nat.le_of_ble_eq_true rfl), Nat.le_trans (Nat.add_le_add_left t4 _) (Nat.le_of_ble_eq_true rfl)⟩ gEM_true trivial hP hK2 hD hS hA 0 rfl rfl rfl hl.1 rfl (Nat.le_of_ble_eq_true rfl) dL_law_508 ⟨room1_c hk5 r5, room1_s hk5 r6⟩ [18, 19, 20, 21, 22, 23, 24, 25, 26, 27, 28, 29, 30, 31, 32] [0, 1, 2, 3, 4, 5, 6, 7, 8, 9, 10, 11, 12, 13, 14, 15, 16, 17] [0, 1, 2, 3, 4, 5, 6, 7, 8, 9, 10, 11, 12, 13, 14, 15, 16, 17, 18, 19, 20, 21, 22, 23, 24, 25, 26, 27, 28, 29, 30, 31, 32] (by decide) rfl rfl (by decide) (by decide) (by decide) rfl (fun H locs hP hD hS => ?_)
  refine W.eq (g2 := F0 mm 511 ls [.int v]) rfl ?_
  refine lv_istore (lv' := [(6, .int v), (5, .int z), (0, .ref b), (1, .ref (q 0)), (2, .ref (qm 0)), (3, .ref qo), (4, .int (nI (6 * k)))]) hx hb dL_law_511 hl (by decide) rfl (fun ls hl => ?_)
  refine lv_aload_n hx hb dL_law_513 rfl (lv_at hl 4 rfl) ?_
  refine g_callVF (As := []) (rest := []) (wl := LWd cI cZ cL q qm qo x2 m2 g2) (wr := WL cI cZ cL q qo (x2, g2)) (wn := LWd cI cZ cL q qm qo x2 m2 g2) hx hb hml hown hts (ctX3_thrown l D cI cZ qm m2) gL_law_X3_thrown rfl rfl rfl hdX3_thrown ⟨Nat.le_of_ble_eq_true rfl, Nat.le_of_ble_eq_true rfl⟩ gEM_true trivial hP hK2 hD hS hA 0 rfl rfl rfl hl.1 rfl (Nat.le_of_ble_eq_true rfl) dL_law_514 ⟨room1_c hk5 r5, room1_s hk5 r6⟩ [18, 19, 20, 21, 22, 23, 24, 25, 26, 27, 28, 29, 30, 31, 32] [0, 1, 2, 3, 4, 5, 6, 7, 8, 9, 10, 11, 12, 13, 14, 15, 16, 17] [0, 1, 2, 3, 4, 5, 6, 7, 8, 9, 10, 11, 12, 13, 14, 15, 16, 17, 18, 19, 20, 21, 22, 23, 24, 25, 26, 27, 28, 29, 30, 31, 32] (by decide) rfl rfl (by decide) (by decide) (by decide) rfl (fun H locs hP hD hS => ?_)
  refine W.eq (g2 := F0 mm 517 ls [.int (m2 14 0)]) rfl ?_
  refine lv_iload hx hb dL_law_517 (lv_at hl 1 rfl) ?_
  refine lv_icmp_eq (tgt := 524) hx hb dL_law_519 (by decide) (fun _ => ?_) (fun h => absurd hz h)
  refine lv_iload hx hb dL_law_524 (lv_at hl 1 rfl) ?_
  refine lv_if_ne (tgt := 541) hx hb dL_law_526 (by decide) (fun _ => ?_) (fun h0 => ?_)
  · refine lv_goto (tgt := 1254) hx hb dL_law_541 (by decide) ?_
    exact W.widen (by omega) (by omega) (hN n2 w2 x2 m2 g2 _ _ _ hSim hP hD hS (lv_sub hl [2, 3, 4, 5, 6] rfl))
  · refine lv_aload_n hx hb dL_law_529 rfl (lv_at hl 5 rfl) ?_
    refine lv_iconst (v := 0) hx hb dL_law_530 (by decide +kernel) ?_
    refine va_lald (i := 0) hx hb hK hP 0 2 rfl rfl vp_in01 dL_law_531 ?_
    refine W.eq (g2 := F0 mm 532 ls [.long (g2 0)]) rfl ?_
    refine lv_iload hx hb dL_law_532 (lv_at hl 0 rfl) ?_
    refine lv_i2l (v := Int32.toInt64 v) hx hb dL_law_534 rfl ?_
    refine g_lcmpE (tgt := 541) hx hb dL_law_535 dL_law_536 (by decide) (fun _ => ?_) (fun h => absurd (hans h0) h)
    refine lv_goto (tgt := 1254) hx hb dL_law_541 (by decide) ?_
    exact W.widen (by omega) (by omega) (hN n2 w2 x2 m2 g2 _ _ _ hSim hP hD hS (lv_sub hl [2, 3, 4, 5, 6] rfl))
set_option maxHeartbeats 4000000 in
set_option maxRecDepth 100000 in
theorem law_wouldFetch {p : Program} {l : Launch} {e : Env} {s : State} {mm : MethodId} {below : List Frame} {meth : Method} {c : Code} {b L : Nat} {xs : Nat → Int32} {D : va_G} {cI cZ cL : ClassId} {q qm : Nat → Nat} {qo : Nat} {Q : State → Prop} {k : Nat} {x : SX} {m : SM} {g : Nat → Int64} {H : Heap} {locs : List Loc} {ls : Array Slot} (C : LawC p s mm c b L xs D cI cZ cL) (hk : 6 * k + 6 ≤ L) (hL : L ≤ 3072) (hDb : Dbl l D cI cZ cL q qm qo yL_wouldFetch wsL_wouldFetch [.ref (q 0), .int (xs (6 * k + 1)), .int (xs (6 * k + 2)), .ref qo] yX3_wouldFetch wsX3_wouldFetch [.ref (qm 0), .int (xs (6 * k + 1)), .int (xs (6 * k + 2))] Int32.toInt64 x m g) (hP : va_P D vwCl (LWd cI cZ cL q qm qo x m g) H) (hD : va_D (fun a => s.heap.size ≤ a) (LWd cI cZ cL q qm qo x m g)) (hS : va_S (fun a => s.heap.size ≤ a) s.heap H locs) (hl : lv_has ls 7 [(0, .ref b), (1, .ref (q 0)), (2, .ref (qm 0)), (3, .ref qo), (4, .int (nI (6 * k)))]) (hN : LawN p l e s mm below meth c b D cI cZ cL q qm qo Q k) : W p l e room_1 s mm #[Value.ref b] below meth c H locs (33 + k) (1722 + 6 * k) Q (F0 mm 544 ls []) := by
  obtain ⟨hx, hb, hml, hown, hts, hX, hbl, hLE, hXT, hK⟩ := C
  have hA : ∀ a : Nat, s.heap.size ≤ a → (fun a => s.heap.size ≤ a) a := fun _ h => h
  have hbA : ¬ (fun a : Nat => s.heap.size ≤ a) b := Nat.not_le.mpr hbl
  have hk5 : k < 512 := by omega
  have hK2 := hK.sub (tys' := [(cI, .int), (cZ, .boolean)]) [0, 1] rfl
  obtain ⟨n2, w2, x2, g2, m2, z, v, mc, ms, rL, rM, hW, ⟨r1, r2, r3, r4, r5, r6⟩, hMc, ⟨t1, t2, t3, t4⟩, hz, hans, hSim⟩ := hDb
  refine lv_aload_n hx hb dL_law_544 rfl (lv_at hl 1 rfl) ?_
  refine lv_aload_n hx hb dL_law_545 rfl (lv_at hl 0 rfl) ?_
  refine lv_iload hx hb dL_law_546 (lv_at hl 4 rfl) ?_
  refine lv_iconst (v := 1) hx hb dL_law_548 (by decide +kernel) ?_
  refine lv_iadd hx hb dL_law_549 ?_
  refine g_sld hx hb hX hbl hbA hS (6 * k + 1) (by omega) (by omega) (g_addE rfl rfl) dL_law_550 ?_
  refine lv_aload_n hx hb dL_law_551 rfl (lv_at hl 0 rfl) ?_
  refine lv_iload hx hb dL_law_552 (lv_at hl 4 rfl) ?_
  refine lv_iconst (v := 2) hx hb dL_law_554 (by decide +kernel) ?_
  refine lv_iadd hx hb dL_law_555 ?_
  refine g_sld hx hb hX hbl hbA hS (6 * k + 2) (by omega) (by omega) (g_addE rfl rfl) dL_law_556 ?_
  refine lv_aload_n hx hb dL_law_557 rfl (lv_at hl 3 rfl) ?_
  refine g_callSWF (As := [.ref (q 0), .int (xs (6 * k + 1)), .int (xs (6 * k + 2)), .ref qo]) (rest := []) (wl := LWd cI cZ cL q qm qo x m g) (wr := MW cI cZ qm m) (wn := LWd cI cZ cL q qm qo x2 m g2) hx hb hml hown hts hW gL_law_L_wouldFetch rfl r1 r2 hdL_wouldFetch ⟨Nat.le_trans (Nat.succ_le_succ r3) (Nat.le_of_ble_eq_true rfl), Nat.le_trans (Nat.add_le_add_left r4 _) (Nat.le_of_ble_eq_true rfl)⟩ LE_em hLE XT_tm hXT hP hK hD hS hA rfl hl.1 rfl (Nat.le_of_ble_eq_true rfl) dL_law_558 ⟨room1_c hk5 r5, room1_s hk5 r6⟩ [0, 1, 2, 3, 4, 5, 6, 7, 8, 9, 10, 11, 12, 13, 14, 15, 16, 17] [18, 19, 20, 21, 22, 23, 24, 25, 26, 27, 28, 29, 30, 31, 32] [15, 16, 17, 18, 19, 20, 21, 22, 23, 24, 25, 26, 27, 28, 29, 30, 31, 32, 0, 1, 2, 3, 4, 5, 6, 7, 8, 9, 10, 11, 12, 13, 14] (by decide) rfl rfl (by decide) (by decide) (by decide) rfl (fun H locs hP hD hS => ?_)
  refine W.eq (g2 := F0 mm 561 ls [.int z]) rfl ?_
  refine lv_istore (lv' := [(5, .int z), (0, .ref b), (1, .ref (q 0)), (2, .ref (qm 0)), (3, .ref qo), (4, .int (nI (6 * k)))]) hx hb dL_law_561 hl (by decide) rfl (fun ls hl => ?_)
  refine lv_aload_n hx hb dL_law_563 rfl (lv_at hl 3 rfl) ?_
  refine lv_aload_n hx hb dL_law_564 rfl (lv_at hl 1 rfl) ?_
  refine lv_iload hx hb dL_law_565 (lv_at hl 5 rfl) ?_
  refine lv_iconst (v := 1) hx hb dL_law_567 (by decide +kernel) ?_
  refine lv_iadd hx hb dL_law_568 ?_
  refine g_sld hx hb hX hbl hbA hS (6 * k + 1) (by omega) (by omega) (g_addE rfl rfl) dL_law_569 ?_
  refine lv_aload_n hx hb dL_law_570 rfl (lv_at hl 1 rfl) ?_
  refine lv_iload hx hb dL_law_571 (lv_at hl 5 rfl) ?_
  refine lv_iconst (v := 2) hx hb dL_law_573 (by decide +kernel) ?_
  refine lv_iadd hx hb dL_law_574 ?_
  refine g_sld hx hb hX hbl hbA hS (6 * k + 2) (by omega) (by omega) (g_addE rfl rfl) dL_law_575 ?_
  refine g_callVF (As := [.int (xs (6 * k + 1)), .int (xs (6 * k + 2))]) (rest := []) (wl := LWd cI cZ cL q qm qo x2 m g2) (wr := WL cI cZ cL q qo (x2, g2)) (wn := LWd cI cZ cL q qm qo x2 m2 g2) hx hb hml hown hts hMc gL_law_X3_wouldFetch rfl t1 t2 hdX3_wouldFetch ⟨Nat.le_trans (Nat.succ_le_succ t3) (Nat.le_of_ble_eq_true rfl), Nat.le_trans (Nat.add_le_add_left t4 _) (Nat.le_of_ble_eq_true rfl)⟩ gEM_true trivial hP hK2 hD hS hA 0 rfl rfl rfl hl.1 rfl (Nat.le_of_ble_eq_true rfl) dL_law_576 ⟨room1_c hk5 r5, room1_s hk5 r6⟩ [18, 19, 20, 21, 22, 23, 24, 25, 26, 27, 28, 29, 30, 31, 32] [0, 1, 2, 3, 4, 5, 6, 7, 8, 9, 10, 11, 12, 13, 14, 15, 16, 17] [0, 1, 2, 3, 4, 5, 6, 7, 8, 9, 10, 11, 12, 13, 14, 15, 16, 17, 18, 19, 20, 21, 22, 23, 24, 25, 26, 27, 28, 29, 30, 31, 32] (by decide) rfl rfl (by decide) (by decide) (by decide) rfl (fun H locs hP hD hS => ?_)
  refine W.eq (g2 := F0 mm 579 ls [.int v]) rfl ?_
  refine lv_istore (lv' := [(6, .int v), (5, .int z), (0, .ref b), (1, .ref (q 0)), (2, .ref (qm 0)), (3, .ref qo), (4, .int (nI (6 * k)))]) hx hb dL_law_579 hl (by decide) rfl (fun ls hl => ?_)
  refine lv_aload_n hx hb dL_law_581 rfl (lv_at hl 4 rfl) ?_
  refine g_callVF (As := []) (rest := []) (wl := LWd cI cZ cL q qm qo x2 m2 g2) (wr := WL cI cZ cL q qo (x2, g2)) (wn := LWd cI cZ cL q qm qo x2 m2 g2) hx hb hml hown hts (ctX3_thrown l D cI cZ qm m2) gL_law_X3_thrown rfl rfl rfl hdX3_thrown ⟨Nat.le_of_ble_eq_true rfl, Nat.le_of_ble_eq_true rfl⟩ gEM_true trivial hP hK2 hD hS hA 0 rfl rfl rfl hl.1 rfl (Nat.le_of_ble_eq_true rfl) dL_law_582 ⟨room1_c hk5 r5, room1_s hk5 r6⟩ [18, 19, 20, 21, 22, 23, 24, 25, 26, 27, 28, 29, 30, 31, 32] [0, 1, 2, 3, 4, 5, 6, 7, 8, 9, 10, 11, 12, 13, 14, 15, 16, 17] [0, 1, 2, 3, 4, 5, 6, 7, 8, 9, 10, 11, 12, 13, 14, 15, 16, 17, 18, 19, 20, 21, 22, 23, 24, 25, 26, 27, 28, 29, 30, 31, 32] (by decide) rfl rfl (by decide) (by decide) (by decide) rfl (fun H locs hP hD hS => ?_)
  refine W.eq (g2 := F0 mm 585 ls [.int (m2 14 0)]) rfl ?_
  refine lv_iload hx hb dL_law_585 (lv_at hl 1 rfl) ?_
  refine lv_icmp_eq (tgt := 592) hx hb dL_law_587 (by decide) (fun _ => ?_) (fun h => absurd hz h)
  refine lv_iload hx hb dL_law_592 (lv_at hl 1 rfl) ?_
  refine lv_if_ne (tgt := 609) hx hb dL_law_594 (by decide) (fun _ => ?_) (fun h0 => ?_)
  · refine lv_goto (tgt := 1254) hx hb dL_law_609 (by decide) ?_
    exact W.widen (by omega) (by omega) (hN n2 w2 x2 m2 g2 _ _ _ hSim hP hD hS (lv_sub hl [2, 3, 4, 5, 6] rfl))
  · refine lv_aload_n hx hb dL_law_597 rfl (lv_at hl 5 rfl) ?_
    refine lv_iconst (v := 0) hx hb dL_law_598 (by decide +kernel) ?_
    refine va_lald (i := 0) hx hb hK hP 0 2 rfl rfl vp_in01 dL_law_599 ?_
    refine W.eq (g2 := F0 mm 600 ls [.long (g2 0)]) rfl ?_
    refine lv_iload hx hb dL_law_600 (lv_at hl 0 rfl) ?_
    refine lv_i2l (v := Int32.toInt64 v) hx hb dL_law_602 rfl ?_
    refine g_lcmpE (tgt := 609) hx hb dL_law_603 dL_law_604 (by decide) (fun _ => ?_) (fun h => absurd (hans h0) h)
    refine lv_goto (tgt := 1254) hx hb dL_law_609 (by decide) ?_
    exact W.widen (by omega) (by omega) (hN n2 w2 x2 m2 g2 _ _ _ hSim hP hD hS (lv_sub hl [2, 3, 4, 5, 6] rfl))
set_option maxHeartbeats 4000000 in
set_option maxRecDepth 100000 in
theorem law_rounds {p : Program} {l : Launch} {e : Env} {s : State} {mm : MethodId} {below : List Frame} {meth : Method} {c : Code} {b L : Nat} {xs : Nat → Int32} {D : va_G} {cI cZ cL : ClassId} {q qm : Nat → Nat} {qo : Nat} {Q : State → Prop} {k : Nat} {x : SX} {m : SM} {g : Nat → Int64} {H : Heap} {locs : List Loc} {ls : Array Slot} (C : LawC p s mm c b L xs D cI cZ cL) (hk : 6 * k + 6 ≤ L) (hL : L ≤ 3072) (hDb : Dbl2 l D cI cZ q qm yX2_rounds wsX2_rounds yX3_rounds wsX3_rounds x m) (hP : va_P D vwCl (LWd cI cZ cL q qm qo x m g) H) (hD : va_D (fun a => s.heap.size ≤ a) (LWd cI cZ cL q qm qo x m g)) (hS : va_S (fun a => s.heap.size ≤ a) s.heap H locs) (hl : lv_has ls 7 [(0, .ref b), (1, .ref (q 0)), (2, .ref (qm 0)), (3, .ref qo), (4, .int (nI (6 * k)))]) (hN : LawN p l e s mm below meth c b D cI cZ cL q qm qo Q k) : W p l e room_1 s mm #[Value.ref b] below meth c H locs (33 + k) (1722 + 6 * k) Q (F0 mm 612 ls []) := by
  obtain ⟨hx, hb, hml, hown, hts, hX, hbl, hLE, hXT, hK⟩ := C
  have hA : ∀ a : Nat, s.heap.size ≤ a → (fun a => s.heap.size ≤ a) a := fun _ h => h
  have hbA : ¬ (fun a : Nat => s.heap.size ≤ a) b := Nat.not_le.mpr hbl
  have hk5 : k < 512 := by omega
  have hK2 := hK.sub (tys' := [(cI, .int), (cZ, .boolean)]) [0, 1] rfl
  obtain ⟨n2, w2, x2, m2, v, rX, rM, hXc, ⟨r1, r2, r3, r4⟩, hMc, ⟨t1, t2, t3, t4⟩, hSim⟩ := hDb
  refine lv_aload_n hx hb dL_law_612 rfl (lv_at hl 1 rfl) ?_
  refine g_callVF (As := []) (rest := []) (wl := LWd cI cZ cL q qm qo x m g) (wr := (qo, .inl (cL, 1, .inr (.inl g))) :: MW cI cZ qm m) (wn := LWd cI cZ cL q qm qo x2 m g) hx hb hml hown hts hXc gL_law_X2_rounds rfl r1 r2 hdX2_rounds ⟨Nat.le_trans (Nat.succ_le_succ r3) (Nat.le_of_ble_eq_true rfl), Nat.le_trans (Nat.add_le_add_left r4 _) (Nat.le_of_ble_eq_true rfl)⟩ XG_em hLE.1.1 hP hK2 hD hS hA 0 rfl rfl rfl hl.1 rfl (Nat.le_of_ble_eq_true rfl) dL_law_613 ⟨room1_c hk5 (Nat.zero_le 1), room1_s hk5 (Nat.zero_le 6)⟩ [1, 2, 3, 4, 5, 6, 7, 8, 9, 10, 11, 12, 13, 14, 15, 16, 17] [0, 18, 19, 20, 21, 22, 23, 24, 25, 26, 27, 28, 29, 30, 31, 32] [0, 16, 17, 18, 19, 20, 21, 22, 23, 24, 25, 26, 27, 28, 29, 30, 31, 32, 1, 2, 3, 4, 5, 6, 7, 8, 9, 10, 11, 12, 13, 14, 15] (by decide) rfl rfl (by decide) (by decide) (by decide) rfl (fun H locs hP hD hS => ?_)
  refine W.eq (g2 := F0 mm 616 ls [.int v]) rfl ?_
  refine lv_aload_n hx hb dL_law_616 rfl (lv_at hl 2 rfl) ?_
  refine g_callVF (As := []) (rest := [.int v]) (wl := LWd cI cZ cL q qm qo x2 m g) (wr := WL cI cZ cL q qo (x2, g)) (wn := LWd cI cZ cL q qm qo x2 m2 g) hx hb hml hown hts hMc gL_law_X3_rounds rfl t1 t2 hdX3_rounds ⟨Nat.le_trans (Nat.succ_le_succ t3) (Nat.le_of_ble_eq_true rfl), Nat.le_trans (Nat.add_le_add_left t4 _) (Nat.le_of_ble_eq_true rfl)⟩ gEM_true trivial hP hK2 hD hS hA 0 rfl rfl rfl hl.1 rfl (Nat.le_of_ble_eq_true rfl) dL_law_617 ⟨room1_c hk5 (Nat.zero_le 1), room1_s hk5 (Nat.zero_le 6)⟩ [18, 19, 20, 21, 22, 23, 24, 25, 26, 27, 28, 29, 30, 31, 32] [0, 1, 2, 3, 4, 5, 6, 7, 8, 9, 10, 11, 12, 13, 14, 15, 16, 17] [0, 1, 2, 3, 4, 5, 6, 7, 8, 9, 10, 11, 12, 13, 14, 15, 16, 17, 18, 19, 20, 21, 22, 23, 24, 25, 26, 27, 28, 29, 30, 31, 32] (by decide) rfl rfl (by decide) (by decide) (by decide) rfl (fun H locs hP hD hS => ?_)
  refine W.eq (g2 := F0 mm 620 ls [.int v, .int v]) rfl ?_
  refine lv_icmp_eq (tgt := 1254) hx hb dL_law_620 (by decide) (fun _ => ?_) (fun h => absurd rfl h)
  exact W.widen (by omega) (by omega) (hN n2 w2 x2 m2 g _ _ _ hSim hP hD hS hl)
set_option maxHeartbeats 4000000 in
set_option maxRecDepth 100000 in
theorem law_load {p : Program} {l : Launch} {e : Env} {s : State} {mm : MethodId} {below : List Frame} {meth : Method} {c : Code} {b L : Nat} {xs : Nat → Int32} {D : va_G} {cI cZ cL : ClassId} {q qm : Nat → Nat} {qo : Nat} {Q : State → Prop} {k : Nat} {x : SX} {m : SM} {g : Nat → Int64} {H : Heap} {locs : List Loc} {ls : Array Slot} (C : LawC p s mm c b L xs D cI cZ cL) (hk : 6 * k + 6 ≤ L) (hL : L ≤ 3072) (hDb : Dbl l D cI cZ cL q qm qo yL_load wsL_load [.ref (q 0), .int (xs (6 * k + 1)), .ref qo] yX3_load wsX3_load [.ref (qm 0), .int (xs (6 * k + 1))] bL x m g) (hP : va_P D vwCl (LWd cI cZ cL q qm qo x m g) H) (hD : va_D (fun a => s.heap.size ≤ a) (LWd cI cZ cL q qm qo x m g)) (hS : va_S (fun a => s.heap.size ≤ a) s.heap H locs) (hl : lv_has ls 7 [(0, .ref b), (1, .ref (q 0)), (2, .ref (qm 0)), (3, .ref qo), (4, .int (nI (6 * k)))]) (hN : LawN p l e s mm below meth c b D cI cZ cL q qm qo Q k) : W p l e room_1 s mm #[Value.ref b] below meth c H locs (33 + k) (1722 + 6 * k) Q (F0 mm 625 ls []) := by
  obtain ⟨hx, hb, hml, hown, hts, hX, hbl, hLE, hXT, hK⟩ := C
  have hA : ∀ a : Nat, s.heap.size ≤ a → (fun a => s.heap.size ≤ a) a := fun _ h => h
  have hbA : ¬ (fun a : Nat => s.heap.size ≤ a) b := Nat.not_le.mpr hbl
  have hk5 : k < 512 := by omega
  have hK2 := hK.sub (tys' := [(cI, .int), (cZ, .boolean)]) [0, 1] rfl
  obtain ⟨n2, w2, x2, g2, m2, z, v, mc, ms, rL, rM, hW, ⟨r1, r2, r3, r4, r5, r6⟩, hMc, ⟨t1, t2, t3, t4⟩, hz, hans, hSim⟩ := hDb
  refine lv_aload_n hx hb dL_law_625 rfl (lv_at hl 1 rfl) ?_
  refine lv_aload_n hx hb dL_law_626 rfl (lv_at hl 0 rfl) ?_
  refine lv_iload hx hb dL_law_627 (lv_at hl 4 rfl) ?_
  refine lv_iconst (v := 1) hx hb dL_law_629 (by decide +kernel) ?_
  refine lv_iadd hx hb dL_law_630 ?_
  refine g_sld hx hb hX hbl hbA hS (6 * k + 1) (by omega) (by omega) (g_addE rfl rfl) dL_law_631 ?_
  refine lv_aload_n hx hb dL_law_632 rfl (lv_at hl 3 rfl) ?_
  refine g_callSWF (As := [.ref (q 0), .int (xs (6 * k + 1)), .ref qo]) (rest := []) (wl := LWd cI cZ cL q qm qo x m g) (wr := MW cI cZ qm m) (wn := LWd cI cZ cL q qm qo x2 m g2) hx hb hml hown hts hW gL_law_L_load rfl r1 r2 hdL_load ⟨Nat.le_trans (Nat.succ_le_succ r3) (Nat.le_of_ble_eq_true rfl), Nat.le_trans (Nat.add_le_add_left r4 _) (Nat.le_of_ble_eq_true rfl)⟩ LE_em hLE XT_tm hXT hP hK hD hS hA rfl hl.1 rfl (Nat.le_of_ble_eq_true rfl) dL_law_633 ⟨room1_c hk5 r5, room1_s hk5 r6⟩ [0, 1, 2, 3, 4, 5, 6, 7, 8, 9, 10, 11, 12, 13, 14, 15, 16, 17] [18, 19, 20, 21, 22, 23, 24, 25, 26, 27, 28, 29, 30, 31, 32] [15, 16, 17, 18, 19, 20, 21, 22, 23, 24, 25, 26, 27, 28, 29, 30, 31, 32, 0, 1, 2, 3, 4, 5, 6, 7, 8, 9, 10, 11, 12, 13, 14] (by decide) rfl rfl (by decide) (by decide) (by decide) rfl (fun H locs hP hD hS => ?_)
  refine W.eq (g2 := F0 mm 636 ls [.int z]) rfl ?_
  refine lv_istore (lv' := [(5, .int z), (0, .ref b), (1, .ref (q 0)), (2, .ref (qm 0)), (3, .ref qo), (4, .int (nI (6 * k)))]) hx hb dL_law_636 hl (by decide) rfl (fun ls hl => ?_)
  refine lv_aload_n hx hb dL_law_638 rfl (lv_at hl 3 rfl) ?_
  refine lv_aload_n hx hb dL_law_639 rfl (lv_at hl 1 rfl) ?_
  refine lv_iload hx hb dL_law_640 (lv_at hl 5 rfl) ?_
  refine lv_iconst (v := 1) hx hb dL_law_642 (by decide +kernel) ?_
  refine lv_iadd hx hb dL_law_643 ?_
  refine g_sld hx hb hX hbl hbA hS (6 * k + 1) (by omega) (by omega) (g_addE rfl rfl) dL_law_644 ?_
  refine g_callVF (As := [.int (xs (6 * k + 1))]) (rest := []) (wl := LWd cI cZ cL q qm qo x2 m g2) (wr := WL cI cZ cL q qo (x2, g2)) (wn := LWd cI cZ cL q qm qo x2 m2 g2) hx hb hml hown hts hMc gL_law_X3_load rfl t1 t2 hdX3_load ⟨Nat.le_trans (Nat.succ_le_succ t3) (Nat.le_of_ble_eq_true rfl), Nat.le_trans (Nat.add_le_add_left t4 _) (Nat.le_of_ble_eq_true rfl)⟩ gEM_true trivial hP hK2 hD hS hA 0 rfl rfl rfl hl.1 rfl (Nat.le_of_ble_eq_true rfl) dL_law_645 ⟨room1_c hk5 r5, room1_s hk5 r6⟩ [18, 19, 20, 21, 22, 23, 24, 25, 26, 27, 28, 29, 30, 31, 32] [0, 1, 2, 3, 4, 5, 6, 7, 8, 9, 10, 11, 12, 13, 14, 15, 16, 17] [0, 1, 2, 3, 4, 5, 6, 7, 8, 9, 10, 11, 12, 13, 14, 15, 16, 17, 18, 19, 20, 21, 22, 23, 24, 25, 26, 27, 28, 29, 30, 31, 32] (by decide) rfl rfl (by decide) (by decide) (by decide) rfl (fun H locs hP hD hS => ?_)
  refine W.eq (g2 := F0 mm 648 ls [.int v]) rfl ?_
  refine lv_istore (lv' := [(6, .int v), (5, .int z), (0, .ref b), (1, .ref (q 0)), (2, .ref (qm 0)), (3, .ref qo), (4, .int (nI (6 * k)))]) hx hb dL_law_648 hl (by decide) rfl (fun ls hl => ?_)
  refine lv_aload_n hx hb dL_law_650 rfl (lv_at hl 4 rfl) ?_
  refine g_callVF (As := []) (rest := []) (wl := LWd cI cZ cL q qm qo x2 m2 g2) (wr := WL cI cZ cL q qo (x2, g2)) (wn := LWd cI cZ cL q qm qo x2 m2 g2) hx hb hml hown hts (ctX3_thrown l D cI cZ qm m2) gL_law_X3_thrown rfl rfl rfl hdX3_thrown ⟨Nat.le_of_ble_eq_true rfl, Nat.le_of_ble_eq_true rfl⟩ gEM_true trivial hP hK2 hD hS hA 0 rfl rfl rfl hl.1 rfl (Nat.le_of_ble_eq_true rfl) dL_law_651 ⟨room1_c hk5 r5, room1_s hk5 r6⟩ [18, 19, 20, 21, 22, 23, 24, 25, 26, 27, 28, 29, 30, 31, 32] [0, 1, 2, 3, 4, 5, 6, 7, 8, 9, 10, 11, 12, 13, 14, 15, 16, 17] [0, 1, 2, 3, 4, 5, 6, 7, 8, 9, 10, 11, 12, 13, 14, 15, 16, 17, 18, 19, 20, 21, 22, 23, 24, 25, 26, 27, 28, 29, 30, 31, 32] (by decide) rfl rfl (by decide) (by decide) (by decide) rfl (fun H locs hP hD hS => ?_)
  refine W.eq (g2 := F0 mm 654 ls [.int (m2 14 0)]) rfl ?_
  refine lv_iload hx hb dL_law_654 (lv_at hl 1 rfl) ?_
  refine lv_icmp_eq (tgt := 661) hx hb dL_law_656 (by decide) (fun _ => ?_) (fun h => absurd hz h)
  refine lv_iload hx hb dL_law_661 (lv_at hl 1 rfl) ?_
  refine lv_if_ne (tgt := 685) hx hb dL_law_663 (by decide) (fun _ => ?_) (fun h0 => ?_)
  · refine lv_goto (tgt := 1254) hx hb dL_law_685 (by decide) ?_
    exact W.widen (by omega) (by omega) (hN n2 w2 x2 m2 g2 _ _ _ hSim hP hD hS (lv_sub hl [2, 3, 4, 5, 6] rfl))
  · refine lv_aload_n hx hb dL_law_666 rfl (lv_at hl 5 rfl) ?_
    refine lv_iconst (v := 0) hx hb dL_law_667 (by decide +kernel) ?_
    refine va_lald (i := 0) hx hb hK hP 0 2 rfl rfl vp_in01 dL_law_668 ?_
    refine W.eq (g2 := F0 mm 669 ls [.long (g2 0)]) rfl ?_
    refine lv_iload hx hb dL_law_669 (lv_at hl 0 rfl) ?_
    refine g_boolL hx hb dL_law_671 dL_law_674 dL_law_675 dL_law_678 ?_
    refine g_lcmpE (tgt := 685) hx hb dL_law_679 dL_law_680 (by decide) (fun _ => ?_) (fun h => absurd (hans h0) h)
    refine lv_goto (tgt := 1254) hx hb dL_law_685 (by decide) ?_
    exact W.widen (by omega) (by omega) (hN n2 w2 x2 m2 g2 _ _ _ hSim hP hD hS (lv_sub hl [2, 3, 4, 5, 6] rfl))
set_option maxHeartbeats 4000000 in
set_option maxRecDepth 100000 in
theorem law_missing {p : Program} {l : Launch} {e : Env} {s : State} {mm : MethodId} {below : List Frame} {meth : Method} {c : Code} {b L : Nat} {xs : Nat → Int32} {D : va_G} {cI cZ cL : ClassId} {q qm : Nat → Nat} {qo : Nat} {Q : State → Prop} {k : Nat} {x : SX} {m : SM} {g : Nat → Int64} {H : Heap} {locs : List Loc} {ls : Array Slot} (C : LawC p s mm c b L xs D cI cZ cL) (hk : 6 * k + 6 ≤ L) (hL : L ≤ 3072) (hDb : Dbl2 l D cI cZ q qm yX2_missing wsX2_missing yX3_missing wsX3_missing x m) (hP : va_P D vwCl (LWd cI cZ cL q qm qo x m g) H) (hD : va_D (fun a => s.heap.size ≤ a) (LWd cI cZ cL q qm qo x m g)) (hS : va_S (fun a => s.heap.size ≤ a) s.heap H locs) (hl : lv_has ls 7 [(0, .ref b), (1, .ref (q 0)), (2, .ref (qm 0)), (3, .ref qo), (4, .int (nI (6 * k)))]) (hN : LawN p l e s mm below meth c b D cI cZ cL q qm qo Q k) : W p l e room_1 s mm #[Value.ref b] below meth c H locs (33 + k) (1722 + 6 * k) Q (F0 mm 688 ls []) := by
  obtain ⟨hx, hb, hml, hown, hts, hX, hbl, hLE, hXT, hK⟩ := C
  have hA : ∀ a : Nat, s.heap.size ≤ a → (fun a => s.heap.size ≤ a) a := fun _ h => h
  have hbA : ¬ (fun a : Nat => s.heap.size ≤ a) b := Nat.not_le.mpr hbl
  have hk5 : k < 512 := by omega
  have hK2 := hK.sub (tys' := [(cI, .int), (cZ, .boolean)]) [0, 1] rfl
  obtain ⟨n2, w2, x2, m2, v, rX, rM, hXc, ⟨r1, r2, r3, r4⟩, hMc, ⟨t1, t2, t3, t4⟩, hSim⟩ := hDb
  refine lv_aload_n hx hb dL_law_688 rfl (lv_at hl 1 rfl) ?_
  refine g_callVF (As := []) (rest := []) (wl := LWd cI cZ cL q qm qo x m g) (wr := (qo, .inl (cL, 1, .inr (.inl g))) :: MW cI cZ qm m) (wn := LWd cI cZ cL q qm qo x2 m g) hx hb hml hown hts hXc gL_law_X2_missing rfl r1 r2 hdX2_missing ⟨Nat.le_trans (Nat.succ_le_succ r3) (Nat.le_of_ble_eq_true rfl), Nat.le_trans (Nat.add_le_add_left r4 _) (Nat.le_of_ble_eq_true rfl)⟩ XG_em hLE.1.1 hP hK2 hD hS hA 0 rfl rfl rfl hl.1 rfl (Nat.le_of_ble_eq_true rfl) dL_law_689 ⟨room1_c hk5 (Nat.zero_le 1), room1_s hk5 (Nat.zero_le 6)⟩ [1, 2, 3, 4, 5, 6, 7, 8, 9, 10, 11, 12, 13, 14, 15, 16, 17] [0, 18, 19, 20, 21, 22, 23, 24, 25, 26, 27, 28, 29, 30, 31, 32] [0, 16, 17, 18, 19, 20, 21, 22, 23, 24, 25, 26, 27, 28, 29, 30, 31, 32, 1, 2, 3, 4, 5, 6, 7, 8, 9, 10, 11, 12, 13, 14, 15] (by decide) rfl rfl (by decide) (by decide) (by decide) rfl (fun H locs hP hD hS => ?_)
  refine W.eq (g2 := F0 mm 692 ls [.int v]) rfl ?_
  refine lv_aload_n hx hb dL_law_692 rfl (lv_at hl 2 rfl) ?_
  refine g_callVF (As := []) (rest := [.int v]) (wl := LWd cI cZ cL q qm qo x2 m g) (wr := WL cI cZ cL q qo (x2, g)) (wn := LWd cI cZ cL q qm qo x2 m2 g) hx hb hml hown hts hMc gL_law_X3_missing rfl t1 t2 hdX3_missing ⟨Nat.le_trans (Nat.succ_le_succ t3) (Nat.le_of_ble_eq_true rfl), Nat.le_trans (Nat.add_le_add_left t4 _) (Nat.le_of_ble_eq_true rfl)⟩ gEM_true trivial hP hK2 hD hS hA 0 rfl rfl rfl hl.1 rfl (Nat.le_of_ble_eq_true rfl) dL_law_693 ⟨room1_c hk5 (Nat.zero_le 1), room1_s hk5 (Nat.zero_le 6)⟩ [18, 19, 20, 21, 22, 23, 24, 25, 26, 27, 28, 29, 30, 31, 32] [0, 1, 2, 3, 4, 5, 6, 7, 8, 9, 10, 11, 12, 13, 14, 15, 16, 17] [0, 1, 2, 3, 4, 5, 6, 7, 8, 9, 10, 11, 12, 13, 14, 15, 16, 17, 18, 19, 20, 21, 22, 23, 24, 25, 26, 27, 28, 29, 30, 31, 32] (by decide) rfl rfl (by decide) (by decide) (by decide) rfl (fun H locs hP hD hS => ?_)
  refine W.eq (g2 := F0 mm 696 ls [.int v, .int v]) rfl ?_
  refine lv_icmp_eq (tgt := 1254) hx hb dL_law_696 (by decide) (fun _ => ?_) (fun h => absurd rfl h)
  exact W.widen (by omega) (by omega) (hN n2 w2 x2 m2 g _ _ _ hSim hP hD hS hl)
set_option maxHeartbeats 4000000 in
set_option maxRecDepth 100000 in
theorem law_protect {p : Program} {l : Launch} {e : Env} {s : State} {mm : MethodId} {below : List Frame} {meth : Method} {c : Code} {b L : Nat} {xs : Nat → Int32} {D : va_G} {cI cZ cL : ClassId} {q qm : Nat → Nat} {qo : Nat} {Q : State → Prop} {k : Nat} {x : SX} {m : SM} {g : Nat → Int64} {H : Heap} {locs : List Loc} {ls : Array Slot} (C : LawC p s mm c b L xs D cI cZ cL) (hk : 6 * k + 6 ≤ L) (hL : L ≤ 3072) (hDb : Dbl l D cI cZ cL q qm qo yL_protect wsL_protect [.ref (q 0), .int (xs (6 * k + 1)), .int (zB (xs (6 * k + 2))), .ref qo] yX3_protect wsX3_protect [.ref (qm 0), .int (xs (6 * k + 1)), .int (zB (xs (6 * k + 2)))] bL x m g) (hP : va_P D vwCl (LWd cI cZ cL q qm qo x m g) H) (hD : va_D (fun a => s.heap.size ≤ a) (LWd cI cZ cL q qm qo x m g)) (hS : va_S (fun a => s.heap.size ≤ a) s.heap H locs) (hl : lv_has ls 7 [(0, .ref b), (1, .ref (q 0)), (2, .ref (qm 0)), (3, .ref qo), (4, .int (nI (6 * k)))]) (hN : LawN p l e s mm below meth c b D cI cZ cL q qm qo Q k) : W p l e room_1 s mm #[Value.ref b] below meth c H locs (33 + k) (1722 + 6 * k) Q (F0 mm 701 ls []) := by
  obtain ⟨hx, hb, hml, hown, hts, hX, hbl, hLE, hXT, hK⟩ := C
  have hA : ∀ a : Nat, s.heap.size ≤ a → (fun a => s.heap.size ≤ a) a := fun _ h => h
  have hbA : ¬ (fun a : Nat => s.heap.size ≤ a) b := Nat.not_le.mpr hbl
  have hk5 : k < 512 := by omega
  have hK2 := hK.sub (tys' := [(cI, .int), (cZ, .boolean)]) [0, 1] rfl
  obtain ⟨n2, w2, x2, g2, m2, z, v, mc, ms, rL, rM, hW, ⟨r1, r2, r3, r4, r5, r6⟩, hMc, ⟨t1, t2, t3, t4⟩, hz, hans, hSim⟩ := hDb
  refine lv_aload_n hx hb dL_law_701 rfl (lv_at hl 1 rfl) ?_
  refine lv_aload_n hx hb dL_law_702 rfl (lv_at hl 0 rfl) ?_
  refine lv_iload hx hb dL_law_703 (lv_at hl 4 rfl) ?_
  refine lv_iconst (v := 1) hx hb dL_law_705 (by decide +kernel) ?_
  refine lv_iadd hx hb dL_law_706 ?_
  refine g_sld hx hb hX hbl hbA hS (6 * k + 1) (by omega) (by omega) (g_addE rfl rfl) dL_law_707 ?_
  refine lv_aload_n hx hb dL_law_708 rfl (lv_at hl 0 rfl) ?_
  refine lv_iload hx hb dL_law_709 (lv_at hl 4 rfl) ?_
  refine lv_iconst (v := 2) hx hb dL_law_711 (by decide +kernel) ?_
  refine lv_iadd hx hb dL_law_712 ?_
  refine g_sld hx hb hX hbl hbA hS (6 * k + 2) (by omega) (by omega) (g_addE rfl rfl) dL_law_713 ?_
  refine g_bool hx hb dL_law_714 dL_law_717 dL_law_718 dL_law_721 ?_
  refine lv_aload_n hx hb dL_law_722 rfl (lv_at hl 3 rfl) ?_
  refine g_callSWF (As := [.ref (q 0), .int (xs (6 * k + 1)), .int (zB (xs (6 * k + 2))), .ref qo]) (rest := []) (wl := LWd cI cZ cL q qm qo x m g) (wr := MW cI cZ qm m) (wn := LWd cI cZ cL q qm qo x2 m g2) hx hb hml hown hts hW gL_law_L_protect rfl r1 r2 hdL_protect ⟨Nat.le_trans (Nat.succ_le_succ r3) (Nat.le_of_ble_eq_true rfl), Nat.le_trans (Nat.add_le_add_left r4 _) (Nat.le_of_ble_eq_true rfl)⟩ LE_em hLE XT_tm hXT hP hK hD hS hA rfl hl.1 rfl (Nat.le_of_ble_eq_true rfl) dL_law_723 ⟨room1_c hk5 r5, room1_s hk5 r6⟩ [0, 1, 2, 3, 4, 5, 6, 7, 8, 9, 10, 11, 12, 13, 14, 15, 16, 17] [18, 19, 20, 21, 22, 23, 24, 25, 26, 27, 28, 29, 30, 31, 32] [15, 16, 17, 18, 19, 20, 21, 22, 23, 24, 25, 26, 27, 28, 29, 30, 31, 32, 0, 1, 2, 3, 4, 5, 6, 7, 8, 9, 10, 11, 12, 13, 14] (by decide) rfl rfl (by decide) (by decide) (by decide) rfl (fun H locs hP hD hS => ?_)
  refine W.eq (g2 := F0 mm 726 ls [.int z]) rfl ?_
  refine lv_istore (lv' := [(5, .int z), (0, .ref b), (1, .ref (q 0)), (2, .ref (qm 0)), (3, .ref qo), (4, .int (nI (6 * k)))]) hx hb dL_law_726 hl (by decide) rfl (fun ls hl => ?_)
  refine lv_aload_n hx hb dL_law_728 rfl (lv_at hl 3 rfl) ?_
  refine lv_aload_n hx hb dL_law_729 rfl (lv_at hl 1 rfl) ?_
  refine lv_iload hx hb dL_law_730 (lv_at hl 5 rfl) ?_
  refine lv_iconst (v := 1) hx hb dL_law_732 (by decide +kernel) ?_
  refine lv_iadd hx hb dL_law_733 ?_
  refine g_sld hx hb hX hbl hbA hS (6 * k + 1) (by omega) (by omega) (g_addE rfl rfl) dL_law_734 ?_
  refine lv_aload_n hx hb dL_law_735 rfl (lv_at hl 1 rfl) ?_
  refine lv_iload hx hb dL_law_736 (lv_at hl 5 rfl) ?_
  refine lv_iconst (v := 2) hx hb dL_law_738 (by decide +kernel) ?_
  refine lv_iadd hx hb dL_law_739 ?_
  refine g_sld hx hb hX hbl hbA hS (6 * k + 2) (by omega) (by omega) (g_addE rfl rfl) dL_law_740 ?_
  refine g_bool hx hb dL_law_741 dL_law_744 dL_law_745 dL_law_748 ?_
  refine g_callVF (As := [.int (xs (6 * k + 1)), .int (zB (xs (6 * k + 2)))]) (rest := []) (wl := LWd cI cZ cL q qm qo x2 m g2) (wr := WL cI cZ cL q qo (x2, g2)) (wn := LWd cI cZ cL q qm qo x2 m2 g2) hx hb hml hown hts hMc gL_law_X3_protect rfl t1 t2 hdX3_protect ⟨Nat.le_trans (Nat.succ_le_succ t3) (Nat.le_of_ble_eq_true rfl), Nat.le_trans (Nat.add_le_add_left t4 _) (Nat.le_of_ble_eq_true rfl)⟩ gEM_true trivial hP hK2 hD hS hA 0 rfl rfl rfl hl.1 rfl (Nat.le_of_ble_eq_true rfl) dL_law_749 ⟨room1_c hk5 r5, room1_s hk5 r6⟩ [18, 19, 20, 21, 22, 23, 24, 25, 26, 27, 28, 29, 30, 31, 32] [0, 1, 2, 3, 4, 5, 6, 7, 8, 9, 10, 11, 12, 13, 14, 15, 16, 17] [0, 1, 2, 3, 4, 5, 6, 7, 8, 9, 10, 11, 12, 13, 14, 15, 16, 17, 18, 19, 20, 21, 22, 23, 24, 25, 26, 27, 28, 29, 30, 31, 32] (by decide) rfl rfl (by decide) (by decide) (by decide) rfl (fun H locs hP hD hS => ?_)
  refine W.eq (g2 := F0 mm 752 ls [.int v]) rfl ?_
  refine lv_istore (lv' := [(6, .int v), (5, .int z), (0, .ref b), (1, .ref (q 0)), (2, .ref (qm 0)), (3, .ref qo), (4, .int (nI (6 * k)))]) hx hb dL_law_752 hl (by decide) rfl (fun ls hl => ?_)
  refine lv_aload_n hx hb dL_law_754 rfl (lv_at hl 4 rfl) ?_
  refine g_callVF (As := []) (rest := []) (wl := LWd cI cZ cL q qm qo x2 m2 g2) (wr := WL cI cZ cL q qo (x2, g2)) (wn := LWd cI cZ cL q qm qo x2 m2 g2) hx hb hml hown hts (ctX3_thrown l D cI cZ qm m2) gL_law_X3_thrown rfl rfl rfl hdX3_thrown ⟨Nat.le_of_ble_eq_true rfl, Nat.le_of_ble_eq_true rfl⟩ gEM_true trivial hP hK2 hD hS hA 0 rfl rfl rfl hl.1 rfl (Nat.le_of_ble_eq_true rfl) dL_law_755 ⟨room1_c hk5 r5, room1_s hk5 r6⟩ [18, 19, 20, 21, 22, 23, 24, 25, 26, 27, 28, 29, 30, 31, 32] [0, 1, 2, 3, 4, 5, 6, 7, 8, 9, 10, 11, 12, 13, 14, 15, 16, 17] [0, 1, 2, 3, 4, 5, 6, 7, 8, 9, 10, 11, 12, 13, 14, 15, 16, 17, 18, 19, 20, 21, 22, 23, 24, 25, 26, 27, 28, 29, 30, 31, 32] (by decide) rfl rfl (by decide) (by decide) (by decide) rfl (fun H locs hP hD hS => ?_)
  refine W.eq (g2 := F0 mm 758 ls [.int (m2 14 0)]) rfl ?_
  refine lv_iload hx hb dL_law_758 (lv_at hl 1 rfl) ?_
  refine lv_icmp_eq (tgt := 765) hx hb dL_law_760 (by decide) (fun _ => ?_) (fun h => absurd hz h)
  refine lv_iload hx hb dL_law_765 (lv_at hl 1 rfl) ?_
  refine lv_if_ne (tgt := 789) hx hb dL_law_767 (by decide) (fun _ => ?_) (fun h0 => ?_)
  · refine lv_goto (tgt := 1254) hx hb dL_law_789 (by decide) ?_
    exact W.widen (by omega) (by omega) (hN n2 w2 x2 m2 g2 _ _ _ hSim hP hD hS (lv_sub hl [2, 3, 4, 5, 6] rfl))
  · refine lv_aload_n hx hb dL_law_770 rfl (lv_at hl 5 rfl) ?_
    refine lv_iconst (v := 0) hx hb dL_law_771 (by decide +kernel) ?_
    refine va_lald (i := 0) hx hb hK hP 0 2 rfl rfl vp_in01 dL_law_772 ?_
    refine W.eq (g2 := F0 mm 773 ls [.long (g2 0)]) rfl ?_
    refine lv_iload hx hb dL_law_773 (lv_at hl 0 rfl) ?_
    refine g_boolL hx hb dL_law_775 dL_law_778 dL_law_779 dL_law_782 ?_
    refine g_lcmpE (tgt := 789) hx hb dL_law_783 dL_law_784 (by decide) (fun _ => ?_) (fun h => absurd (hans h0) h)
    refine lv_goto (tgt := 1254) hx hb dL_law_789 (by decide) ?_
    exact W.widen (by omega) (by omega) (hN n2 w2 x2 m2 g2 _ _ _ hSim hP hD hS (lv_sub hl [2, 3, 4, 5, 6] rfl))
set_option maxHeartbeats 4000000 in
set_option maxRecDepth 100000 in
theorem law_move {p : Program} {l : Launch} {e : Env} {s : State} {mm : MethodId} {below : List Frame} {meth : Method} {c : Code} {b L : Nat} {xs : Nat → Int32} {D : va_G} {cI cZ cL : ClassId} {q qm : Nat → Nat} {qo : Nat} {Q : State → Prop} {k : Nat} {x : SX} {m : SM} {g : Nat → Int64} {H : Heap} {locs : List Loc} {ls : Array Slot} (C : LawC p s mm c b L xs D cI cZ cL) (hk : 6 * k + 6 ≤ L) (hL : L ≤ 3072) (hDb : Dbl l D cI cZ cL q qm qo yL_move wsL_move [.ref (q 0), .int (xs (6 * k + 1)), .int (xs (6 * k + 2)), .int (xs (6 * k + 3)), .ref qo] yX3_move wsX3_move [.ref (qm 0), .int (xs (6 * k + 1)), .int (xs (6 * k + 2)), .int (xs (6 * k + 3))] Int32.toInt64 x m g) (hP : va_P D vwCl (LWd cI cZ cL q qm qo x m g) H) (hD : va_D (fun a => s.heap.size ≤ a) (LWd cI cZ cL q qm qo x m g)) (hS : va_S (fun a => s.heap.size ≤ a) s.heap H locs) (hl : lv_has ls 7 [(0, .ref b), (1, .ref (q 0)), (2, .ref (qm 0)), (3, .ref qo), (4, .int (nI (6 * k)))]) (hN : LawN p l e s mm below meth c b D cI cZ cL q qm qo Q k) : W p l e room_1 s mm #[Value.ref b] below meth c H locs (33 + k) (1722 + 6 * k) Q (F0 mm 792 ls []) := by
  obtain ⟨hx, hb, hml, hown, hts, hX, hbl, hLE, hXT, hK⟩ := C
  have hA : ∀ a : Nat, s.heap.size ≤ a → (fun a => s.heap.size ≤ a) a := fun _ h => h
  have hbA : ¬ (fun a : Nat => s.heap.size ≤ a) b := Nat.not_le.mpr hbl
  have hk5 : k < 512 := by omega
  have hK2 := hK.sub (tys' := [(cI, .int), (cZ, .boolean)]) [0, 1] rfl
  obtain ⟨n2, w2, x2, g2, m2, z, v, mc, ms, rL, rM, hW, ⟨r1, r2, r3, r4, r5, r6⟩, hMc, ⟨t1, t2, t3, t4⟩, hz, hans, hSim⟩ := hDb
  refine lv_aload_n hx hb dL_law_792 rfl (lv_at hl 1 rfl) ?_
  refine lv_aload_n hx hb dL_law_793 rfl (lv_at hl 0 rfl) ?_
  refine lv_iload hx hb dL_law_794 (lv_at hl 4 rfl) ?_
  refine lv_iconst (v := 1) hx hb dL_law_796 (by decide +kernel) ?_
  refine lv_iadd hx hb dL_law_797 ?_
  refine g_sld hx hb hX hbl hbA hS (6 * k + 1) (by omega) (by omega) (g_addE rfl rfl) dL_law_798 ?_
  refine lv_aload_n hx hb dL_law_799 rfl (lv_at hl 0 rfl) ?_
  refine lv_iload hx hb dL_law_800 (lv_at hl 4 rfl) ?_
  refine lv_iconst (v := 2) hx hb dL_law_802 (by decide +kernel) ?_
  refine lv_iadd hx hb dL_law_803 ?_
  refine g_sld hx hb hX hbl hbA hS (6 * k + 2) (by omega) (by omega) (g_addE rfl rfl) dL_law_804 ?_
  refine lv_aload_n hx hb dL_law_805 rfl (lv_at hl 0 rfl) ?_
  refine lv_iload hx hb dL_law_806 (lv_at hl 4 rfl) ?_
  refine lv_iconst (v := 3) hx hb dL_law_808 (by decide +kernel) ?_
  refine lv_iadd hx hb dL_law_809 ?_
  refine g_sld hx hb hX hbl hbA hS (6 * k + 3) (by omega) (by omega) (g_addE rfl rfl) dL_law_810 ?_
  refine lv_aload_n hx hb dL_law_811 rfl (lv_at hl 3 rfl) ?_
  refine g_callSWF (As := [.ref (q 0), .int (xs (6 * k + 1)), .int (xs (6 * k + 2)), .int (xs (6 * k + 3)), .ref qo]) (rest := []) (wl := LWd cI cZ cL q qm qo x m g) (wr := MW cI cZ qm m) (wn := LWd cI cZ cL q qm qo x2 m g2) hx hb hml hown hts hW gL_law_L_move rfl r1 r2 hdL_move ⟨Nat.le_trans (Nat.succ_le_succ r3) (Nat.le_of_ble_eq_true rfl), Nat.le_trans (Nat.add_le_add_left r4 _) (Nat.le_of_ble_eq_true rfl)⟩ LE_em hLE XT_tm hXT hP hK hD hS hA rfl hl.1 rfl (Nat.le_of_ble_eq_true rfl) dL_law_812 ⟨room1_c hk5 r5, room1_s hk5 r6⟩ [0, 1, 2, 3, 4, 5, 6, 7, 8, 9, 10, 11, 12, 13, 14, 15, 16, 17] [18, 19, 20, 21, 22, 23, 24, 25, 26, 27, 28, 29, 30, 31, 32] [15, 16, 17, 18, 19, 20, 21, 22, 23, 24, 25, 26, 27, 28, 29, 30, 31, 32, 0, 1, 2, 3, 4, 5, 6, 7, 8, 9, 10, 11, 12, 13, 14] (by decide) rfl rfl (by decide) (by decide) (by decide) rfl (fun H locs hP hD hS => ?_)
  refine W.eq (g2 := F0 mm 815 ls [.int z]) rfl ?_
  refine lv_istore (lv' := [(5, .int z), (0, .ref b), (1, .ref (q 0)), (2, .ref (qm 0)), (3, .ref qo), (4, .int (nI (6 * k)))]) hx hb dL_law_815 hl (by decide) rfl (fun ls hl => ?_)
  refine lv_aload_n hx hb dL_law_817 rfl (lv_at hl 3 rfl) ?_
  refine lv_aload_n hx hb dL_law_818 rfl (lv_at hl 1 rfl) ?_
  refine lv_iload hx hb dL_law_819 (lv_at hl 5 rfl) ?_
  refine lv_iconst (v := 1) hx hb dL_law_821 (by decide +kernel) ?_
  refine lv_iadd hx hb dL_law_822 ?_
  refine g_sld hx hb hX hbl hbA hS (6 * k + 1) (by omega) (by omega) (g_addE rfl rfl) dL_law_823 ?_
  refine lv_aload_n hx hb dL_law_824 rfl (lv_at hl 1 rfl) ?_
  refine lv_iload hx hb dL_law_825 (lv_at hl 5 rfl) ?_
  refine lv_iconst (v := 2) hx hb dL_law_827 (by decide +kernel) ?_
  refine lv_iadd hx hb dL_law_828 ?_
  refine g_sld hx hb hX hbl hbA hS (6 * k + 2) (by omega) (by omega) (g_addE rfl rfl) dL_law_829 ?_
  refine lv_aload_n hx hb dL_law_830 rfl (lv_at hl 1 rfl) ?_
  refine lv_iload hx hb dL_law_831 (lv_at hl 5 rfl) ?_
  refine lv_iconst (v := 3) hx hb dL_law_833 (by decide +kernel) ?_
  refine lv_iadd hx hb dL_law_834 ?_
  refine g_sld hx hb hX hbl hbA hS (6 * k + 3) (by omega) (by omega) (g_addE rfl rfl) dL_law_835 ?_
  refine g_callVF (As := [.int (xs (6 * k + 1)), .int (xs (6 * k + 2)), .int (xs (6 * k + 3))]) (rest := []) (wl := LWd cI cZ cL q qm qo x2 m g2) (wr := WL cI cZ cL q qo (x2, g2)) (wn := LWd cI cZ cL q qm qo x2 m2 g2) hx hb hml hown hts hMc gL_law_X3_move rfl t1 t2 hdX3_move ⟨Nat.le_trans (Nat.succ_le_succ t3) (Nat.le_of_ble_eq_true rfl), Nat.le_trans (Nat.add_le_add_left t4 _) (Nat.le_of_ble_eq_true rfl)⟩ gEM_true trivial hP hK2 hD hS hA 0 rfl rfl rfl hl.1 rfl (Nat.le_of_ble_eq_true rfl) dL_law_836 ⟨room1_c hk5 r5, room1_s hk5 r6⟩ [18, 19, 20, 21, 22, 23, 24, 25, 26, 27, 28, 29, 30, 31, 32] [0, 1, 2, 3, 4, 5, 6, 7, 8, 9, 10, 11, 12, 13, 14, 15, 16, 17] [0, 1, 2, 3, 4, 5, 6, 7, 8, 9, 10, 11, 12, 13, 14, 15, 16, 17, 18, 19, 20, 21, 22, 23, 24, 25, 26, 27, 28, 29, 30, 31, 32] (by decide) rfl rfl (by decide) (by decide) (by decide) rfl (fun H locs hP hD hS => ?_)
  refine W.eq (g2 := F0 mm 839 ls [.int v]) rfl ?_
  refine lv_istore (lv' := [(6, .int v), (5, .int z), (0, .ref b), (1, .ref (q 0)), (2, .ref (qm 0)), (3, .ref qo), (4, .int (nI (6 * k)))]) hx hb dL_law_839 hl (by decide) rfl (fun ls hl => ?_)
  refine lv_aload_n hx hb dL_law_841 rfl (lv_at hl 4 rfl) ?_
  refine g_callVF (As := []) (rest := []) (wl := LWd cI cZ cL q qm qo x2 m2 g2) (wr := WL cI cZ cL q qo (x2, g2)) (wn := LWd cI cZ cL q qm qo x2 m2 g2) hx hb hml hown hts (ctX3_thrown l D cI cZ qm m2) gL_law_X3_thrown rfl rfl rfl hdX3_thrown ⟨Nat.le_of_ble_eq_true rfl, Nat.le_of_ble_eq_true rfl⟩ gEM_true trivial hP hK2 hD hS hA 0 rfl rfl rfl hl.1 rfl (Nat.le_of_ble_eq_true rfl) dL_law_842 ⟨room1_c hk5 r5, room1_s hk5 r6⟩ [18, 19, 20, 21, 22, 23, 24, 25, 26, 27, 28, 29, 30, 31, 32] [0, 1, 2, 3, 4, 5, 6, 7, 8, 9, 10, 11, 12, 13, 14, 15, 16, 17] [0, 1, 2, 3, 4, 5, 6, 7, 8, 9, 10, 11, 12, 13, 14, 15, 16, 17, 18, 19, 20, 21, 22, 23, 24, 25, 26, 27, 28, 29, 30, 31, 32] (by decide) rfl rfl (by decide) (by decide) (by decide) rfl (fun H locs hP hD hS => ?_)
  refine W.eq (g2 := F0 mm 845 ls [.int (m2 14 0)]) rfl ?_
  refine lv_iload hx hb dL_law_845 (lv_at hl 1 rfl) ?_
  refine lv_icmp_eq (tgt := 852) hx hb dL_law_847 (by decide) (fun _ => ?_) (fun h => absurd hz h)
  refine lv_iload hx hb dL_law_852 (lv_at hl 1 rfl) ?_
  refine lv_if_ne (tgt := 869) hx hb dL_law_854 (by decide) (fun _ => ?_) (fun h0 => ?_)
  · refine lv_goto (tgt := 1254) hx hb dL_law_869 (by decide) ?_
    exact W.widen (by omega) (by omega) (hN n2 w2 x2 m2 g2 _ _ _ hSim hP hD hS (lv_sub hl [2, 3, 4, 5, 6] rfl))
  · refine lv_aload_n hx hb dL_law_857 rfl (lv_at hl 5 rfl) ?_
    refine lv_iconst (v := 0) hx hb dL_law_858 (by decide +kernel) ?_
    refine va_lald (i := 0) hx hb hK hP 0 2 rfl rfl vp_in01 dL_law_859 ?_
    refine W.eq (g2 := F0 mm 860 ls [.long (g2 0)]) rfl ?_
    refine lv_iload hx hb dL_law_860 (lv_at hl 0 rfl) ?_
    refine lv_i2l (v := Int32.toInt64 v) hx hb dL_law_862 rfl ?_
    refine g_lcmpE (tgt := 869) hx hb dL_law_863 dL_law_864 (by decide) (fun _ => ?_) (fun h => absurd (hans h0) h)
    refine lv_goto (tgt := 1254) hx hb dL_law_869 (by decide) ?_
    exact W.widen (by omega) (by omega) (hN n2 w2 x2 m2 g2 _ _ _ hSim hP hD hS (lv_sub hl [2, 3, 4, 5, 6] rfl))
set_option maxHeartbeats 4000000 in
set_option maxRecDepth 100000 in
theorem law_push {p : Program} {l : Launch} {e : Env} {s : State} {mm : MethodId} {below : List Frame} {meth : Method} {c : Code} {b L : Nat} {xs : Nat → Int32} {D : va_G} {cI cZ cL : ClassId} {q qm : Nat → Nat} {qo : Nat} {Q : State → Prop} {k : Nat} {x : SX} {m : SM} {g : Nat → Int64} {H : Heap} {locs : List Loc} {ls : Array Slot} (C : LawC p s mm c b L xs D cI cZ cL) (hk : 6 * k + 6 ≤ L) (hL : L ≤ 3072) (hDb : Dbl2 l D cI cZ q qm yX2_push wsX2_push yX3_push wsX3_push x m) (hP : va_P D vwCl (LWd cI cZ cL q qm qo x m g) H) (hD : va_D (fun a => s.heap.size ≤ a) (LWd cI cZ cL q qm qo x m g)) (hS : va_S (fun a => s.heap.size ≤ a) s.heap H locs) (hl : lv_has ls 7 [(0, .ref b), (1, .ref (q 0)), (2, .ref (qm 0)), (3, .ref qo), (4, .int (nI (6 * k)))]) (hN : LawN p l e s mm below meth c b D cI cZ cL q qm qo Q k) : W p l e room_1 s mm #[Value.ref b] below meth c H locs (33 + k) (1722 + 6 * k) Q (F0 mm 872 ls []) := by
  obtain ⟨hx, hb, hml, hown, hts, hX, hbl, hLE, hXT, hK⟩ := C
  have hA : ∀ a : Nat, s.heap.size ≤ a → (fun a => s.heap.size ≤ a) a := fun _ h => h
  have hbA : ¬ (fun a : Nat => s.heap.size ≤ a) b := Nat.not_le.mpr hbl
  have hk5 : k < 512 := by omega
  have hK2 := hK.sub (tys' := [(cI, .int), (cZ, .boolean)]) [0, 1] rfl
  obtain ⟨n2, w2, x2, m2, v, rX, rM, hXc, ⟨r1, r2, r3, r4⟩, hMc, ⟨t1, t2, t3, t4⟩, hSim⟩ := hDb
  refine lv_aload_n hx hb dL_law_872 rfl (lv_at hl 1 rfl) ?_
  refine g_callVF (As := []) (rest := []) (wl := LWd cI cZ cL q qm qo x m g) (wr := (qo, .inl (cL, 1, .inr (.inl g))) :: MW cI cZ qm m) (wn := LWd cI cZ cL q qm qo x2 m g) hx hb hml hown hts hXc gL_law_X2_push rfl r1 r2 hdX2_push ⟨Nat.le_trans (Nat.succ_le_succ r3) (Nat.le_of_ble_eq_true rfl), Nat.le_trans (Nat.add_le_add_left r4 _) (Nat.le_of_ble_eq_true rfl)⟩ XG_em hLE.1.1 hP hK2 hD hS hA 0 rfl rfl rfl hl.1 rfl (Nat.le_of_ble_eq_true rfl) dL_law_873 ⟨room1_c hk5 (Nat.zero_le 1), room1_s hk5 (Nat.zero_le 6)⟩ [1, 2, 3, 4, 5, 6, 7, 8, 9, 10, 11, 12, 13, 14, 15, 16, 17] [0, 18, 19, 20, 21, 22, 23, 24, 25, 26, 27, 28, 29, 30, 31, 32] [0, 16, 17, 18, 19, 20, 21, 22, 23, 24, 25, 26, 27, 28, 29, 30, 31, 32, 1, 2, 3, 4, 5, 6, 7, 8, 9, 10, 11, 12, 13, 14, 15] (by decide) rfl rfl (by decide) (by decide) (by decide) rfl (fun H locs hP hD hS => ?_)
  refine W.eq (g2 := F0 mm 876 ls [.int v]) rfl ?_
  refine lv_aload_n hx hb dL_law_876 rfl (lv_at hl 2 rfl) ?_
  refine g_callVF (As := []) (rest := [.int v]) (wl := LWd cI cZ cL q qm qo x2 m g) (wr := WL cI cZ cL q qo (x2, g)) (wn := LWd cI cZ cL q qm qo x2 m2 g) hx hb hml hown hts hMc gL_law_X3_push rfl t1 t2 hdX3_push ⟨Nat.le_trans (Nat.succ_le_succ t3) (Nat.le_of_ble_eq_true rfl), Nat.le_trans (Nat.add_le_add_left t4 _) (Nat.le_of_ble_eq_true rfl)⟩ gEM_true trivial hP hK2 hD hS hA 0 rfl rfl rfl hl.1 rfl (Nat.le_of_ble_eq_true rfl) dL_law_877 ⟨room1_c hk5 (Nat.zero_le 1), room1_s hk5 (Nat.zero_le 6)⟩ [18, 19, 20, 21, 22, 23, 24, 25, 26, 27, 28, 29, 30, 31, 32] [0, 1, 2, 3, 4, 5, 6, 7, 8, 9, 10, 11, 12, 13, 14, 15, 16, 17] [0, 1, 2, 3, 4, 5, 6, 7, 8, 9, 10, 11, 12, 13, 14, 15, 16, 17, 18, 19, 20, 21, 22, 23, 24, 25, 26, 27, 28, 29, 30, 31, 32] (by decide) rfl rfl (by decide) (by decide) (by decide) rfl (fun H locs hP hD hS => ?_)
  refine W.eq (g2 := F0 mm 880 ls [.int v, .int v]) rfl ?_
  refine lv_icmp_eq (tgt := 1254) hx hb dL_law_880 (by decide) (fun _ => ?_) (fun h => absurd rfl h)
  exact W.widen (by omega) (by omega) (hN n2 w2 x2 m2 g _ _ _ hSim hP hD hS hl)
set_option maxHeartbeats 4000000 in
set_option maxRecDepth 100000 in
theorem law_collect {p : Program} {l : Launch} {e : Env} {s : State} {mm : MethodId} {below : List Frame} {meth : Method} {c : Code} {b L : Nat} {xs : Nat → Int32} {D : va_G} {cI cZ cL : ClassId} {q qm : Nat → Nat} {qo : Nat} {Q : State → Prop} {k : Nat} {x : SX} {m : SM} {g : Nat → Int64} {H : Heap} {locs : List Loc} {ls : Array Slot} (C : LawC p s mm c b L xs D cI cZ cL) (hk : 6 * k + 6 ≤ L) (hL : L ≤ 3072) (hDb : Dbl l D cI cZ cL q qm qo yL_collect wsL_collect [.ref (q 0), .int (xs (6 * k + 1)), .ref qo] yX3_collect wsX3_collect [.ref (qm 0), .int (xs (6 * k + 1))] Int32.toInt64 x m g) (hP : va_P D vwCl (LWd cI cZ cL q qm qo x m g) H) (hD : va_D (fun a => s.heap.size ≤ a) (LWd cI cZ cL q qm qo x m g)) (hS : va_S (fun a => s.heap.size ≤ a) s.heap H locs) (hl : lv_has ls 7 [(0, .ref b), (1, .ref (q 0)), (2, .ref (qm 0)), (3, .ref qo), (4, .int (nI (6 * k)))]) (hN : LawN p l e s mm below meth c b D cI cZ cL q qm qo Q k) : W p l e room_1 s mm #[Value.ref b] below meth c H locs (33 + k) (1722 + 6 * k) Q (F0 mm 885 ls []) := by
  obtain ⟨hx, hb, hml, hown, hts, hX, hbl, hLE, hXT, hK⟩ := C
  have hA : ∀ a : Nat, s.heap.size ≤ a → (fun a => s.heap.size ≤ a) a := fun _ h => h
  have hbA : ¬ (fun a : Nat => s.heap.size ≤ a) b := Nat.not_le.mpr hbl
  have hk5 : k < 512 := by omega
  have hK2 := hK.sub (tys' := [(cI, .int), (cZ, .boolean)]) [0, 1] rfl
  obtain ⟨n2, w2, x2, g2, m2, z, v, mc, ms, rL, rM, hW, ⟨r1, r2, r3, r4, r5, r6⟩, hMc, ⟨t1, t2, t3, t4⟩, hz, hans, hSim⟩ := hDb
  refine lv_aload_n hx hb dL_law_885 rfl (lv_at hl 1 rfl) ?_
  refine lv_aload_n hx hb dL_law_886 rfl (lv_at hl 0 rfl) ?_
  refine lv_iload hx hb dL_law_887 (lv_at hl 4 rfl) ?_
  refine lv_iconst (v := 1) hx hb dL_law_889 (by decide +kernel) ?_
  refine lv_iadd hx hb dL_law_890 ?_
  refine g_sld hx hb hX hbl hbA hS (6 * k + 1) (by omega) (by omega) (g_addE rfl rfl) dL_law_891 ?_
  refine lv_aload_n hx hb dL_law_892 rfl (lv_at hl 3 rfl) ?_
  refine g_callSWF (As := [.ref (q 0), .int (xs (6 * k + 1)), .ref qo]) (rest := []) (wl := LWd cI cZ cL q qm qo x m g) (wr := MW cI cZ qm m) (wn := LWd cI cZ cL q qm qo x2 m g2) hx hb hml hown hts hW gL_law_L_collect rfl r1 r2 hdL_collect ⟨Nat.le_trans (Nat.succ_le_succ r3) (Nat.le_of_ble_eq_true rfl), Nat.le_trans (Nat.add_le_add_left r4 _) (Nat.le_of_ble_eq_true rfl)⟩ LE_em hLE XT_tm hXT hP hK hD hS hA rfl hl.1 rfl (Nat.le_of_ble_eq_true rfl) dL_law_893 ⟨room1_c hk5 r5, room1_s hk5 r6⟩ [0, 1, 2, 3, 4, 5, 6, 7, 8, 9, 10, 11, 12, 13, 14, 15, 16, 17] [18, 19, 20, 21, 22, 23, 24, 25, 26, 27, 28, 29, 30, 31, 32] [15, 16, 17, 18, 19, 20, 21, 22, 23, 24, 25, 26, 27, 28, 29, 30, 31, 32, 0, 1, 2, 3, 4, 5, 6, 7, 8, 9, 10, 11, 12, 13, 14] (by decide) rfl rfl (by decide) (by decide) (by decide) rfl (fun H locs hP hD hS => ?_)
  refine W.eq (g2 := F0 mm 896 ls [.int z]) rfl ?_
  refine lv_istore (lv' := [(5, .int z), (0, .ref b), (1, .ref (q 0)), (2, .ref (qm 0)), (3, .ref qo), (4, .int (nI (6 * k)))]) hx hb dL_law_896 hl (by decide) rfl (fun ls hl => ?_)
  refine lv_aload_n hx hb dL_law_898 rfl (lv_at hl 3 rfl) ?_
  refine lv_aload_n hx hb dL_law_899 rfl (lv_at hl 1 rfl) ?_
  refine lv_iload hx hb dL_law_900 (lv_at hl 5 rfl) ?_
  refine lv_iconst (v := 1) hx hb dL_law_902 (by decide +kernel) ?_
  refine lv_iadd hx hb dL_law_903 ?_
  refine g_sld hx hb hX hbl hbA hS (6 * k + 1) (by omega) (by omega) (g_addE rfl rfl) dL_law_904 ?_
  refine g_callVF (As := [.int (xs (6 * k + 1))]) (rest := []) (wl := LWd cI cZ cL q qm qo x2 m g2) (wr := WL cI cZ cL q qo (x2, g2)) (wn := LWd cI cZ cL q qm qo x2 m2 g2) hx hb hml hown hts hMc gL_law_X3_collect rfl t1 t2 hdX3_collect ⟨Nat.le_trans (Nat.succ_le_succ t3) (Nat.le_of_ble_eq_true rfl), Nat.le_trans (Nat.add_le_add_left t4 _) (Nat.le_of_ble_eq_true rfl)⟩ gEM_true trivial hP hK2 hD hS hA 0 rfl rfl rfl hl.1 rfl (Nat.le_of_ble_eq_true rfl) dL_law_905 ⟨room1_c hk5 r5, room1_s hk5 r6⟩ [18, 19, 20, 21, 22, 23, 24, 25, 26, 27, 28, 29, 30, 31, 32] [0, 1, 2, 3, 4, 5, 6, 7, 8, 9, 10, 11, 12, 13, 14, 15, 16, 17] [0, 1, 2, 3, 4, 5, 6, 7, 8, 9, 10, 11, 12, 13, 14, 15, 16, 17, 18, 19, 20, 21, 22, 23, 24, 25, 26, 27, 28, 29, 30, 31, 32] (by decide) rfl rfl (by decide) (by decide) (by decide) rfl (fun H locs hP hD hS => ?_)
  refine W.eq (g2 := F0 mm 908 ls [.int v]) rfl ?_
  refine lv_istore (lv' := [(6, .int v), (5, .int z), (0, .ref b), (1, .ref (q 0)), (2, .ref (qm 0)), (3, .ref qo), (4, .int (nI (6 * k)))]) hx hb dL_law_908 hl (by decide) rfl (fun ls hl => ?_)
  refine lv_aload_n hx hb dL_law_910 rfl (lv_at hl 4 rfl) ?_
  refine g_callVF (As := []) (rest := []) (wl := LWd cI cZ cL q qm qo x2 m2 g2) (wr := WL cI cZ cL q qo (x2, g2)) (wn := LWd cI cZ cL q qm qo x2 m2 g2) hx hb hml hown hts (ctX3_thrown l D cI cZ qm m2) gL_law_X3_thrown rfl rfl rfl hdX3_thrown ⟨Nat.le_of_ble_eq_true rfl, Nat.le_of_ble_eq_true rfl⟩ gEM_true trivial hP hK2 hD hS hA 0 rfl rfl rfl hl.1 rfl (Nat.le_of_ble_eq_true rfl) dL_law_911 ⟨room1_c hk5 r5, room1_s hk5 r6⟩ [18, 19, 20, 21, 22, 23, 24, 25, 26, 27, 28, 29, 30, 31, 32] [0, 1, 2, 3, 4, 5, 6, 7, 8, 9, 10, 11, 12, 13, 14, 15, 16, 17] [0, 1, 2, 3, 4, 5, 6, 7, 8, 9, 10, 11, 12, 13, 14, 15, 16, 17, 18, 19, 20, 21, 22, 23, 24, 25, 26, 27, 28, 29, 30, 31, 32] (by decide) rfl rfl (by decide) (by decide) (by decide) rfl (fun H locs hP hD hS => ?_)
  refine W.eq (g2 := F0 mm 914 ls [.int (m2 14 0)]) rfl ?_
  refine lv_iload hx hb dL_law_914 (lv_at hl 1 rfl) ?_
  refine lv_icmp_eq (tgt := 921) hx hb dL_law_916 (by decide) (fun _ => ?_) (fun h => absurd hz h)
  refine lv_iload hx hb dL_law_921 (lv_at hl 1 rfl) ?_
  refine lv_if_ne (tgt := 938) hx hb dL_law_923 (by decide) (fun _ => ?_) (fun h0 => ?_)
  · refine lv_goto (tgt := 1254) hx hb dL_law_938 (by decide) ?_
    exact W.widen (by omega) (by omega) (hN n2 w2 x2 m2 g2 _ _ _ hSim hP hD hS (lv_sub hl [2, 3, 4, 5, 6] rfl))
  · refine lv_aload_n hx hb dL_law_926 rfl (lv_at hl 5 rfl) ?_
    refine lv_iconst (v := 0) hx hb dL_law_927 (by decide +kernel) ?_
    refine va_lald (i := 0) hx hb hK hP 0 2 rfl rfl vp_in01 dL_law_928 ?_
    refine W.eq (g2 := F0 mm 929 ls [.long (g2 0)]) rfl ?_
    refine lv_iload hx hb dL_law_929 (lv_at hl 0 rfl) ?_
    refine lv_i2l (v := Int32.toInt64 v) hx hb dL_law_931 rfl ?_
    refine g_lcmpE (tgt := 938) hx hb dL_law_932 dL_law_933 (by decide) (fun _ => ?_) (fun h => absurd (hans h0) h)
    refine lv_goto (tgt := 1254) hx hb dL_law_938 (by decide) ?_
    exact W.widen (by omega) (by omega) (hN n2 w2 x2 m2 g2 _ _ _ hSim hP hD hS (lv_sub hl [2, 3, 4, 5, 6] rfl))
set_option maxHeartbeats 4000000 in
set_option maxRecDepth 100000 in
theorem law_commits {p : Program} {l : Launch} {e : Env} {s : State} {mm : MethodId} {below : List Frame} {meth : Method} {c : Code} {b L : Nat} {xs : Nat → Int32} {D : va_G} {cI cZ cL : ClassId} {q qm : Nat → Nat} {qo : Nat} {Q : State → Prop} {k : Nat} {x : SX} {m : SM} {g : Nat → Int64} {H : Heap} {locs : List Loc} {ls : Array Slot} (C : LawC p s mm c b L xs D cI cZ cL) (hk : 6 * k + 6 ≤ L) (hL : L ≤ 3072) (hDb : Dbl2 l D cI cZ q qm yX2_commits wsX2_commits yX3_commits wsX3_commits x m) (hP : va_P D vwCl (LWd cI cZ cL q qm qo x m g) H) (hD : va_D (fun a => s.heap.size ≤ a) (LWd cI cZ cL q qm qo x m g)) (hS : va_S (fun a => s.heap.size ≤ a) s.heap H locs) (hl : lv_has ls 7 [(0, .ref b), (1, .ref (q 0)), (2, .ref (qm 0)), (3, .ref qo), (4, .int (nI (6 * k)))]) (hN : LawN p l e s mm below meth c b D cI cZ cL q qm qo Q k) : W p l e room_1 s mm #[Value.ref b] below meth c H locs (33 + k) (1722 + 6 * k) Q (F0 mm 941 ls []) := by
  obtain ⟨hx, hb, hml, hown, hts, hX, hbl, hLE, hXT, hK⟩ := C
  have hA : ∀ a : Nat, s.heap.size ≤ a → (fun a => s.heap.size ≤ a) a := fun _ h => h
  have hbA : ¬ (fun a : Nat => s.heap.size ≤ a) b := Nat.not_le.mpr hbl
  have hk5 : k < 512 := by omega
  have hK2 := hK.sub (tys' := [(cI, .int), (cZ, .boolean)]) [0, 1] rfl
  obtain ⟨n2, w2, x2, m2, v, rX, rM, hXc, ⟨r1, r2, r3, r4⟩, hMc, ⟨t1, t2, t3, t4⟩, hSim⟩ := hDb
  refine lv_aload_n hx hb dL_law_941 rfl (lv_at hl 1 rfl) ?_
  refine g_callVF (As := []) (rest := []) (wl := LWd cI cZ cL q qm qo x m g) (wr := (qo, .inl (cL, 1, .inr (.inl g))) :: MW cI cZ qm m) (wn := LWd cI cZ cL q qm qo x2 m g) hx hb hml hown hts hXc gL_law_X2_commits rfl r1 r2 hdX2_commits ⟨Nat.le_trans (Nat.succ_le_succ r3) (Nat.le_of_ble_eq_true rfl), Nat.le_trans (Nat.add_le_add_left r4 _) (Nat.le_of_ble_eq_true rfl)⟩ XG_em hLE.1.1 hP hK2 hD hS hA 0 rfl rfl rfl hl.1 rfl (Nat.le_of_ble_eq_true rfl) dL_law_942 ⟨room1_c hk5 (Nat.zero_le 1), room1_s hk5 (Nat.zero_le 6)⟩ [1, 2, 3, 4, 5, 6, 7, 8, 9, 10, 11, 12, 13, 14, 15, 16, 17] [0, 18, 19, 20, 21, 22, 23, 24, 25, 26, 27, 28, 29, 30, 31, 32] [0, 16, 17, 18, 19, 20, 21, 22, 23, 24, 25, 26, 27, 28, 29, 30, 31, 32, 1, 2, 3, 4, 5, 6, 7, 8, 9, 10, 11, 12, 13, 14, 15] (by decide) rfl rfl (by decide) (by decide) (by decide) rfl (fun H locs hP hD hS => ?_)
  refine W.eq (g2 := F0 mm 945 ls [.int v]) rfl ?_
  refine lv_aload_n hx hb dL_law_945 rfl (lv_at hl 2 rfl) ?_
  refine g_callVF (As := []) (rest := [.int v]) (wl := LWd cI cZ cL q qm qo x2 m g) (wr := WL cI cZ cL q qo (x2, g)) (wn := LWd cI cZ cL q qm qo x2 m2 g) hx hb hml hown hts hMc gL_law_X3_commits rfl t1 t2 hdX3_commits ⟨Nat.le_trans (Nat.succ_le_succ t3) (Nat.le_of_ble_eq_true rfl), Nat.le_trans (Nat.add_le_add_left t4 _) (Nat.le_of_ble_eq_true rfl)⟩ gEM_true trivial hP hK2 hD hS hA 0 rfl rfl rfl hl.1 rfl (Nat.le_of_ble_eq_true rfl) dL_law_946 ⟨room1_c hk5 (Nat.zero_le 1), room1_s hk5 (Nat.zero_le 6)⟩ [18, 19, 20, 21, 22, 23, 24, 25, 26, 27, 28, 29, 30, 31, 32] [0, 1, 2, 3, 4, 5, 6, 7, 8, 9, 10, 11, 12, 13, 14, 15, 16, 17] [0, 1, 2, 3, 4, 5, 6, 7, 8, 9, 10, 11, 12, 13, 14, 15, 16, 17, 18, 19, 20, 21, 22, 23, 24, 25, 26, 27, 28, 29, 30, 31, 32] (by decide) rfl rfl (by decide) (by decide) (by decide) rfl (fun H locs hP hD hS => ?_)
  refine W.eq (g2 := F0 mm 949 ls [.int v, .int v]) rfl ?_
  refine lv_icmp_eq (tgt := 1254) hx hb dL_law_949 (by decide) (fun _ => ?_) (fun h => absurd rfl h)
  exact W.widen (by omega) (by omega) (hN n2 w2 x2 m2 g _ _ _ hSim hP hD hS hl)
set_option maxHeartbeats 4000000 in
set_option maxRecDepth 100000 in
theorem law_has {p : Program} {l : Launch} {e : Env} {s : State} {mm : MethodId} {below : List Frame} {meth : Method} {c : Code} {b L : Nat} {xs : Nat → Int32} {D : va_G} {cI cZ cL : ClassId} {q qm : Nat → Nat} {qo : Nat} {Q : State → Prop} {k : Nat} {x : SX} {m : SM} {g : Nat → Int64} {H : Heap} {locs : List Loc} {ls : Array Slot} (C : LawC p s mm c b L xs D cI cZ cL) (hk : 6 * k + 6 ≤ L) (hL : L ≤ 3072) (hDb : Dbl l D cI cZ cL q qm qo yL_has wsL_has [.ref (q 0), .int (xs (6 * k + 1)), .int (xs (6 * k + 2)), .ref qo] yX3_has wsX3_has [.ref (qm 0), .int (xs (6 * k + 1)), .int (xs (6 * k + 2))] bL x m g) (hP : va_P D vwCl (LWd cI cZ cL q qm qo x m g) H) (hD : va_D (fun a => s.heap.size ≤ a) (LWd cI cZ cL q qm qo x m g)) (hS : va_S (fun a => s.heap.size ≤ a) s.heap H locs) (hl : lv_has ls 7 [(0, .ref b), (1, .ref (q 0)), (2, .ref (qm 0)), (3, .ref qo), (4, .int (nI (6 * k)))]) (hN : LawN p l e s mm below meth c b D cI cZ cL q qm qo Q k) : W p l e room_1 s mm #[Value.ref b] below meth c H locs (33 + k) (1722 + 6 * k) Q (F0 mm 954 ls []) := by
  obtain ⟨hx, hb, hml, hown, hts, hX, hbl, hLE, hXT, hK⟩ := C
  have hA : ∀ a : Nat, s.heap.size ≤ a → (fun a => s.heap.size ≤ a) a := fun _ h => h
  have hbA : ¬ (fun a : Nat => s.heap.size ≤ a) b := Nat.not_le.mpr hbl
  have hk5 : k < 512 := by omega
  have hK2 := hK.sub (tys' := [(cI, .int), (cZ, .boolean)]) [0, 1] rfl
  obtain ⟨n2, w2, x2, g2, m2, z, v, mc, ms, rL, rM, hW, ⟨r1, r2, r3, r4, r5, r6⟩, hMc, ⟨t1, t2, t3, t4⟩, hz, hans, hSim⟩ := hDb
  refine lv_aload_n hx hb dL_law_954 rfl (lv_at hl 1 rfl) ?_
  refine lv_aload_n hx hb dL_law_955 rfl (lv_at hl 0 rfl) ?_
  refine lv_iload hx hb dL_law_956 (lv_at hl 4 rfl) ?_
  refine lv_iconst (v := 1) hx hb dL_law_958 (by decide +kernel) ?_
  refine lv_iadd hx hb dL_law_959 ?_
  refine g_sld hx hb hX hbl hbA hS (6 * k + 1) (by omega) (by omega) (g_addE rfl rfl) dL_law_960 ?_
  refine lv_aload_n hx hb dL_law_961 rfl (lv_at hl 0 rfl) ?_
  refine lv_iload hx hb dL_law_962 (lv_at hl 4 rfl) ?_
  refine lv_iconst (v := 2) hx hb dL_law_964 (by decide +kernel) ?_
  refine lv_iadd hx hb dL_law_965 ?_
  refine g_sld hx hb hX hbl hbA hS (6 * k + 2) (by omega) (by omega) (g_addE rfl rfl) dL_law_966 ?_
  refine lv_aload_n hx hb dL_law_967 rfl (lv_at hl 3 rfl) ?_
  refine g_callSWF (As := [.ref (q 0), .int (xs (6 * k + 1)), .int (xs (6 * k + 2)), .ref qo]) (rest := []) (wl := LWd cI cZ cL q qm qo x m g) (wr := MW cI cZ qm m) (wn := LWd cI cZ cL q qm qo x2 m g2) hx hb hml hown hts hW gL_law_L_has rfl r1 r2 hdL_has ⟨Nat.le_trans (Nat.succ_le_succ r3) (Nat.le_of_ble_eq_true rfl), Nat.le_trans (Nat.add_le_add_left r4 _) (Nat.le_of_ble_eq_true rfl)⟩ LE_em hLE XT_tm hXT hP hK hD hS hA rfl hl.1 rfl (Nat.le_of_ble_eq_true rfl) dL_law_968 ⟨room1_c hk5 r5, room1_s hk5 r6⟩ [0, 1, 2, 3, 4, 5, 6, 7, 8, 9, 10, 11, 12, 13, 14, 15, 16, 17] [18, 19, 20, 21, 22, 23, 24, 25, 26, 27, 28, 29, 30, 31, 32] [15, 16, 17, 18, 19, 20, 21, 22, 23, 24, 25, 26, 27, 28, 29, 30, 31, 32, 0, 1, 2, 3, 4, 5, 6, 7, 8, 9, 10, 11, 12, 13, 14] (by decide) rfl rfl (by decide) (by decide) (by decide) rfl (fun H locs hP hD hS => ?_)
  refine W.eq (g2 := F0 mm 971 ls [.int z]) rfl ?_
  refine lv_istore (lv' := [(5, .int z), (0, .ref b), (1, .ref (q 0)), (2, .ref (qm 0)), (3, .ref qo), (4, .int (nI (6 * k)))]) hx hb dL_law_971 hl (by decide) rfl (fun ls hl => ?_)
  refine lv_aload_n hx hb dL_law_973 rfl (lv_at hl 3 rfl) ?_
  refine lv_aload_n hx hb dL_law_974 rfl (lv_at hl 1 rfl) ?_
  refine lv_iload hx hb dL_law_975 (lv_at hl 5 rfl) ?_
  refine lv_iconst (v := 1) hx hb dL_law_977 (by decide +kernel) ?_
  refine lv_iadd hx hb dL_law_978 ?_
  refine g_sld hx hb hX hbl hbA hS (6 * k + 1) (by omega) (by omega) (g_addE rfl rfl) dL_law_979 ?_
  refine lv_aload_n hx hb dL_law_980 rfl (lv_at hl 1 rfl) ?_
  refine lv_iload hx hb dL_law_981 (lv_at hl 5 rfl) ?_
  refine lv_iconst (v := 2) hx hb dL_law_983 (by decide +kernel) ?_
  refine lv_iadd hx hb dL_law_984 ?_
  refine g_sld hx hb hX hbl hbA hS (6 * k + 2) (by omega) (by omega) (g_addE rfl rfl) dL_law_985 ?_
  refine g_callVF (As := [.int (xs (6 * k + 1)), .int (xs (6 * k + 2))]) (rest := []) (wl := LWd cI cZ cL q qm qo x2 m g2) (wr := WL cI cZ cL q qo (x2, g2)) (wn := LWd cI cZ cL q qm qo x2 m2 g2) hx hb hml hown hts hMc gL_law_X3_has rfl t1 t2 hdX3_has ⟨Nat.le_trans (Nat.succ_le_succ t3) (Nat.le_of_ble_eq_true rfl), Nat.le_trans (Nat.add_le_add_left t4 _) (Nat.le_of_ble_eq_true rfl)⟩ gEM_true trivial hP hK2 hD hS hA 0 rfl rfl rfl hl.1 rfl (Nat.le_of_ble_eq_true rfl) dL_law_986 ⟨room1_c hk5 r5, room1_s hk5 r6⟩ [18, 19, 20, 21, 22, 23, 24, 25, 26, 27, 28, 29, 30, 31, 32] [0, 1, 2, 3, 4, 5, 6, 7, 8, 9, 10, 11, 12, 13, 14, 15, 16, 17] [0, 1, 2, 3, 4, 5, 6, 7, 8, 9, 10, 11, 12, 13, 14, 15, 16, 17, 18, 19, 20, 21, 22, 23, 24, 25, 26, 27, 28, 29, 30, 31, 32] (by decide) rfl rfl (by decide) (by decide) (by decide) rfl (fun H locs hP hD hS => ?_)
  refine W.eq (g2 := F0 mm 989 ls [.int v]) rfl ?_
  refine lv_istore (lv' := [(6, .int v), (5, .int z), (0, .ref b), (1, .ref (q 0)), (2, .ref (qm 0)), (3, .ref qo), (4, .int (nI (6 * k)))]) hx hb dL_law_989 hl (by decide) rfl (fun ls hl => ?_)
  refine lv_aload_n hx hb dL_law_991 rfl (lv_at hl 4 rfl) ?_
  refine g_callVF (As := []) (rest := []) (wl := LWd cI cZ cL q qm qo x2 m2 g2) (wr := WL cI cZ cL q qo (x2, g2)) (wn := LWd cI cZ cL q qm qo x2 m2 g2) hx hb hml hown hts (ctX3_thrown l D cI cZ qm m2) gL_law_X3_thrown rfl rfl rfl hdX3_thrown ⟨Nat.le_of_ble_eq_true rfl, Nat.le_of_ble_eq_true rfl⟩ gEM_true trivial hP hK2 hD hS hA 0 rfl rfl rfl hl.1 rfl (Nat.le_of_ble_eq_true rfl) dL_law_992 ⟨room1_c hk5 r5, room1_s hk5 r6⟩ [18, 19, 20, 21, 22, 23, 24, 25, 26, 27, 28, 29, 30, 31, 32] [0, 1, 2, 3, 4, 5, 6, 7, 8, 9, 10, 11, 12, 13, 14, 15, 16, 17] [0, 1, 2, 3, 4, 5, 6, 7, 8, 9, 10, 11, 12, 13, 14, 15, 16, 17, 18, 19, 20, 21, 22, 23, 24, 25, 26, 27, 28, 29, 30, 31, 32] (by decide) rfl rfl (by decide) (by decide) (by decide) rfl (fun H locs hP hD hS => ?_)
  refine W.eq (g2 := F0 mm 995 ls [.int (m2 14 0)]) rfl ?_
  refine lv_iload hx hb dL_law_995 (lv_at hl 1 rfl) ?_
  refine lv_icmp_eq (tgt := 1002) hx hb dL_law_997 (by decide) (fun _ => ?_) (fun h => absurd hz h)
  refine lv_iload hx hb dL_law_1002 (lv_at hl 1 rfl) ?_
  refine lv_if_ne (tgt := 1026) hx hb dL_law_1004 (by decide) (fun _ => ?_) (fun h0 => ?_)
  · refine lv_goto (tgt := 1254) hx hb dL_law_1026 (by decide) ?_
    exact W.widen (by omega) (by omega) (hN n2 w2 x2 m2 g2 _ _ _ hSim hP hD hS (lv_sub hl [2, 3, 4, 5, 6] rfl))
  · refine lv_aload_n hx hb dL_law_1007 rfl (lv_at hl 5 rfl) ?_
    refine lv_iconst (v := 0) hx hb dL_law_1008 (by decide +kernel) ?_
    refine va_lald (i := 0) hx hb hK hP 0 2 rfl rfl vp_in01 dL_law_1009 ?_
    refine W.eq (g2 := F0 mm 1010 ls [.long (g2 0)]) rfl ?_
    refine lv_iload hx hb dL_law_1010 (lv_at hl 0 rfl) ?_
    refine g_boolL hx hb dL_law_1012 dL_law_1015 dL_law_1016 dL_law_1019 ?_
    refine g_lcmpE (tgt := 1026) hx hb dL_law_1020 dL_law_1021 (by decide) (fun _ => ?_) (fun h => absurd (hans h0) h)
    refine lv_goto (tgt := 1254) hx hb dL_law_1026 (by decide) ?_
    exact W.widen (by omega) (by omega) (hN n2 w2 x2 m2 g2 _ _ _ hSim hP hD hS (lv_sub hl [2, 3, 4, 5, 6] rfl))
set_option maxHeartbeats 4000000 in
set_option maxRecDepth 100000 in
theorem law_hasFile {p : Program} {l : Launch} {e : Env} {s : State} {mm : MethodId} {below : List Frame} {meth : Method} {c : Code} {b L : Nat} {xs : Nat → Int32} {D : va_G} {cI cZ cL : ClassId} {q qm : Nat → Nat} {qo : Nat} {Q : State → Prop} {k : Nat} {x : SX} {m : SM} {g : Nat → Int64} {H : Heap} {locs : List Loc} {ls : Array Slot} (C : LawC p s mm c b L xs D cI cZ cL) (hk : 6 * k + 6 ≤ L) (hL : L ≤ 3072) (hDb : Dbl l D cI cZ cL q qm qo yL_hasFile wsL_hasFile [.ref (q 0), .int (xs (6 * k + 1)), .int (xs (6 * k + 2)), .ref qo] yX3_hasFile wsX3_hasFile [.ref (qm 0), .int (xs (6 * k + 1)), .int (xs (6 * k + 2))] bL x m g) (hP : va_P D vwCl (LWd cI cZ cL q qm qo x m g) H) (hD : va_D (fun a => s.heap.size ≤ a) (LWd cI cZ cL q qm qo x m g)) (hS : va_S (fun a => s.heap.size ≤ a) s.heap H locs) (hl : lv_has ls 7 [(0, .ref b), (1, .ref (q 0)), (2, .ref (qm 0)), (3, .ref qo), (4, .int (nI (6 * k)))]) (hN : LawN p l e s mm below meth c b D cI cZ cL q qm qo Q k) : W p l e room_1 s mm #[Value.ref b] below meth c H locs (33 + k) (1722 + 6 * k) Q (F0 mm 1029 ls []) := by
  obtain ⟨hx, hb, hml, hown, hts, hX, hbl, hLE, hXT, hK⟩ := C
  have hA : ∀ a : Nat, s.heap.size ≤ a → (fun a => s.heap.size ≤ a) a := fun _ h => h
  have hbA : ¬ (fun a : Nat => s.heap.size ≤ a) b := Nat.not_le.mpr hbl
  have hk5 : k < 512 := by omega
  have hK2 := hK.sub (tys' := [(cI, .int), (cZ, .boolean)]) [0, 1] rfl
  obtain ⟨n2, w2, x2, g2, m2, z, v, mc, ms, rL, rM, hW, ⟨r1, r2, r3, r4, r5, r6⟩, hMc, ⟨t1, t2, t3, t4⟩, hz, hans, hSim⟩ := hDb
  refine lv_aload_n hx hb dL_law_1029 rfl (lv_at hl 1 rfl) ?_
  refine lv_aload_n hx hb dL_law_1030 rfl (lv_at hl 0 rfl) ?_
  refine lv_iload hx hb dL_law_1031 (lv_at hl 4 rfl) ?_
  refine lv_iconst (v := 1) hx hb dL_law_1033 (by decide +kernel) ?_
  refine lv_iadd hx hb dL_law_1034 ?_
  refine g_sld hx hb hX hbl hbA hS (6 * k + 1) (by omega) (by omega) (g_addE rfl rfl) dL_law_1035 ?_
  refine lv_aload_n hx hb dL_law_1036 rfl (lv_at hl 0 rfl) ?_
  refine lv_iload hx hb dL_law_1037 (lv_at hl 4 rfl) ?_
  refine lv_iconst (v := 2) hx hb dL_law_1039 (by decide +kernel) ?_
  refine lv_iadd hx hb dL_law_1040 ?_
  refine g_sld hx hb hX hbl hbA hS (6 * k + 2) (by omega) (by omega) (g_addE rfl rfl) dL_law_1041 ?_
  refine lv_aload_n hx hb dL_law_1042 rfl (lv_at hl 3 rfl) ?_
  refine g_callSWF (As := [.ref (q 0), .int (xs (6 * k + 1)), .int (xs (6 * k + 2)), .ref qo]) (rest := []) (wl := LWd cI cZ cL q qm qo x m g) (wr := MW cI cZ qm m) (wn := LWd cI cZ cL q qm qo x2 m g2) hx hb hml hown hts hW gL_law_L_hasFile rfl r1 r2 hdL_hasFile ⟨Nat.le_trans (Nat.succ_le_succ r3) (Nat.le_of_ble_eq_true rfl), Nat.le_trans (Nat.add_le_add_left r4 _) (Nat.le_of_ble_eq_true rfl)⟩ LE_em hLE XT_tm hXT hP hK hD hS hA rfl hl.1 rfl (Nat.le_of_ble_eq_true rfl) dL_law_1043 ⟨room1_c hk5 r5, room1_s hk5 r6⟩ [0, 1, 2, 3, 4, 5, 6, 7, 8, 9, 10, 11, 12, 13, 14, 15, 16, 17] [18, 19, 20, 21, 22, 23, 24, 25, 26, 27, 28, 29, 30, 31, 32] [15, 16, 17, 18, 19, 20, 21, 22, 23, 24, 25, 26, 27, 28, 29, 30, 31, 32, 0, 1, 2, 3, 4, 5, 6, 7, 8, 9, 10, 11, 12, 13, 14] (by decide) rfl rfl (by decide) (by decide) (by decide) rfl (fun H locs hP hD hS => ?_)
  refine W.eq (g2 := F0 mm 1046 ls [.int z]) rfl ?_
  refine lv_istore (lv' := [(5, .int z), (0, .ref b), (1, .ref (q 0)), (2, .ref (qm 0)), (3, .ref qo), (4, .int (nI (6 * k)))]) hx hb dL_law_1046 hl (by decide) rfl (fun ls hl => ?_)
  refine lv_aload_n hx hb dL_law_1048 rfl (lv_at hl 3 rfl) ?_
  refine lv_aload_n hx hb dL_law_1049 rfl (lv_at hl 1 rfl) ?_
  refine lv_iload hx hb dL_law_1050 (lv_at hl 5 rfl) ?_
  refine lv_iconst (v := 1) hx hb dL_law_1052 (by decide +kernel) ?_
  refine lv_iadd hx hb dL_law_1053 ?_
  refine g_sld hx hb hX hbl hbA hS (6 * k + 1) (by omega) (by omega) (g_addE rfl rfl) dL_law_1054 ?_
  refine lv_aload_n hx hb dL_law_1055 rfl (lv_at hl 1 rfl) ?_
  refine lv_iload hx hb dL_law_1056 (lv_at hl 5 rfl) ?_
  refine lv_iconst (v := 2) hx hb dL_law_1058 (by decide +kernel) ?_
  refine lv_iadd hx hb dL_law_1059 ?_
  refine g_sld hx hb hX hbl hbA hS (6 * k + 2) (by omega) (by omega) (g_addE rfl rfl) dL_law_1060 ?_
  refine g_callVF (As := [.int (xs (6 * k + 1)), .int (xs (6 * k + 2))]) (rest := []) (wl := LWd cI cZ cL q qm qo x2 m g2) (wr := WL cI cZ cL q qo (x2, g2)) (wn := LWd cI cZ cL q qm qo x2 m2 g2) hx hb hml hown hts hMc gL_law_X3_hasFile rfl t1 t2 hdX3_hasFile ⟨Nat.le_trans (Nat.succ_le_succ t3) (Nat.le_of_ble_eq_true rfl), Nat.le_trans (Nat.add_le_add_left t4 _) (Nat.le_of_ble_eq_true rfl)⟩ gEM_true trivial hP hK2 hD hS hA 0 rfl rfl rfl hl.1 rfl (Nat.le_of_ble_eq_true rfl) dL_law_1061 ⟨room1_c hk5 r5, room1_s hk5 r6⟩ [18, 19, 20, 21, 22, 23, 24, 25, 26, 27, 28, 29, 30, 31, 32] [0, 1, 2, 3, 4, 5, 6, 7, 8, 9, 10, 11, 12, 13, 14, 15, 16, 17] [0, 1, 2, 3, 4, 5, 6, 7, 8, 9, 10, 11, 12, 13, 14, 15, 16, 17, 18, 19, 20, 21, 22, 23, 24, 25, 26, 27, 28, 29, 30, 31, 32] (by decide) rfl rfl (by decide) (by decide) (by decide) rfl (fun H locs hP hD hS => ?_)
  refine W.eq (g2 := F0 mm 1064 ls [.int v]) rfl ?_
  refine lv_istore (lv' := [(6, .int v), (5, .int z), (0, .ref b), (1, .ref (q 0)), (2, .ref (qm 0)), (3, .ref qo), (4, .int (nI (6 * k)))]) hx hb dL_law_1064 hl (by decide) rfl (fun ls hl => ?_)
  refine lv_aload_n hx hb dL_law_1066 rfl (lv_at hl 4 rfl) ?_
  refine g_callVF (As := []) (rest := []) (wl := LWd cI cZ cL q qm qo x2 m2 g2) (wr := WL cI cZ cL q qo (x2, g2)) (wn := LWd cI cZ cL q qm qo x2 m2 g2) hx hb hml hown hts (ctX3_thrown l D cI cZ qm m2) gL_law_X3_thrown rfl rfl rfl hdX3_thrown ⟨Nat.le_of_ble_eq_true rfl, Nat.le_of_ble_eq_true rfl⟩ gEM_true trivial hP hK2 hD hS hA 0 rfl rfl rfl hl.1 rfl (Nat.le_of_ble_eq_true rfl) dL_law_1067 ⟨room1_c hk5 r5, room1_s hk5 r6⟩ [18, 19, 20, 21, 22, 23, 24, 25, 26, 27, 28, 29, 30, 31, 32] [0, 1, 2, 3, 4, 5, 6, 7, 8, 9, 10, 11, 12, 13, 14, 15, 16, 17] [0, 1, 2, 3, 4, 5, 6, 7, 8, 9, 10, 11, 12, 13, 14, 15, 16, 17, 18, 19, 20, 21, 22, 23, 24, 25, 26, 27, 28, 29, 30, 31, 32] (by decide) rfl rfl (by decide) (by decide) (by decide) rfl (fun H locs hP hD hS => ?_)
  refine W.eq (g2 := F0 mm 1070 ls [.int (m2 14 0)]) rfl ?_
  refine lv_iload hx hb dL_law_1070 (lv_at hl 1 rfl) ?_
  refine lv_icmp_eq (tgt := 1077) hx hb dL_law_1072 (by decide) (fun _ => ?_) (fun h => absurd hz h)
  refine lv_iload hx hb dL_law_1077 (lv_at hl 1 rfl) ?_
  refine lv_if_ne (tgt := 1101) hx hb dL_law_1079 (by decide) (fun _ => ?_) (fun h0 => ?_)
  · refine lv_goto (tgt := 1254) hx hb dL_law_1101 (by decide) ?_
    exact W.widen (by omega) (by omega) (hN n2 w2 x2 m2 g2 _ _ _ hSim hP hD hS (lv_sub hl [2, 3, 4, 5, 6] rfl))
  · refine lv_aload_n hx hb dL_law_1082 rfl (lv_at hl 5 rfl) ?_
    refine lv_iconst (v := 0) hx hb dL_law_1083 (by decide +kernel) ?_
    refine va_lald (i := 0) hx hb hK hP 0 2 rfl rfl vp_in01 dL_law_1084 ?_
    refine W.eq (g2 := F0 mm 1085 ls [.long (g2 0)]) rfl ?_
    refine lv_iload hx hb dL_law_1085 (lv_at hl 0 rfl) ?_
    refine g_boolL hx hb dL_law_1087 dL_law_1090 dL_law_1091 dL_law_1094 ?_
    refine g_lcmpE (tgt := 1101) hx hb dL_law_1095 dL_law_1096 (by decide) (fun _ => ?_) (fun h => absurd (hans h0) h)
    refine lv_goto (tgt := 1254) hx hb dL_law_1101 (by decide) ?_
    exact W.widen (by omega) (by omega) (hN n2 w2 x2 m2 g2 _ _ _ hSim hP hD hS (lv_sub hl [2, 3, 4, 5, 6] rfl))
set_option maxHeartbeats 4000000 in
set_option maxRecDepth 100000 in
theorem law_isShallow {p : Program} {l : Launch} {e : Env} {s : State} {mm : MethodId} {below : List Frame} {meth : Method} {c : Code} {b L : Nat} {xs : Nat → Int32} {D : va_G} {cI cZ cL : ClassId} {q qm : Nat → Nat} {qo : Nat} {Q : State → Prop} {k : Nat} {x : SX} {m : SM} {g : Nat → Int64} {H : Heap} {locs : List Loc} {ls : Array Slot} (C : LawC p s mm c b L xs D cI cZ cL) (hk : 6 * k + 6 ≤ L) (hL : L ≤ 3072) (hDb : Dbl l D cI cZ cL q qm qo yL_isShallow wsL_isShallow [.ref (q 0), .int (xs (6 * k + 1)), .ref qo] yX3_isShallow wsX3_isShallow [.ref (qm 0), .int (xs (6 * k + 1))] bL x m g) (hP : va_P D vwCl (LWd cI cZ cL q qm qo x m g) H) (hD : va_D (fun a => s.heap.size ≤ a) (LWd cI cZ cL q qm qo x m g)) (hS : va_S (fun a => s.heap.size ≤ a) s.heap H locs) (hl : lv_has ls 7 [(0, .ref b), (1, .ref (q 0)), (2, .ref (qm 0)), (3, .ref qo), (4, .int (nI (6 * k)))]) (hN : LawN p l e s mm below meth c b D cI cZ cL q qm qo Q k) : W p l e room_1 s mm #[Value.ref b] below meth c H locs (33 + k) (1722 + 6 * k) Q (F0 mm 1104 ls []) := by
  obtain ⟨hx, hb, hml, hown, hts, hX, hbl, hLE, hXT, hK⟩ := C
  have hA : ∀ a : Nat, s.heap.size ≤ a → (fun a => s.heap.size ≤ a) a := fun _ h => h
  have hbA : ¬ (fun a : Nat => s.heap.size ≤ a) b := Nat.not_le.mpr hbl
  have hk5 : k < 512 := by omega
  have hK2 := hK.sub (tys' := [(cI, .int), (cZ, .boolean)]) [0, 1] rfl
  obtain ⟨n2, w2, x2, g2, m2, z, v, mc, ms, rL, rM, hW, ⟨r1, r2, r3, r4, r5, r6⟩, hMc, ⟨t1, t2, t3, t4⟩, hz, hans, hSim⟩ := hDb
  refine lv_aload_n hx hb dL_law_1104 rfl (lv_at hl 1 rfl) ?_
  refine lv_aload_n hx hb dL_law_1105 rfl (lv_at hl 0 rfl) ?_
  refine lv_iload hx hb dL_law_1106 (lv_at hl 4 rfl) ?_
  refine lv_iconst (v := 1) hx hb dL_law_1108 (by decide +kernel) ?_
  refine lv_iadd hx hb dL_law_1109 ?_
  refine g_sld hx hb hX hbl hbA hS (6 * k + 1) (by omega) (by omega) (g_addE rfl rfl) dL_law_1110 ?_
  refine lv_aload_n hx hb dL_law_1111 rfl (lv_at hl 3 rfl) ?_
  refine g_callSWF (As := [.ref (q 0), .int (xs (6 * k + 1)), .ref qo]) (rest := []) (wl := LWd cI cZ cL q qm qo x m g) (wr := MW cI cZ qm m) (wn := LWd cI cZ cL q qm qo x2 m g2) hx hb hml hown hts hW gL_law_L_isShallow rfl r1 r2 hdL_isShallow ⟨Nat.le_trans (Nat.succ_le_succ r3) (Nat.le_of_ble_eq_true rfl), Nat.le_trans (Nat.add_le_add_left r4 _) (Nat.le_of_ble_eq_true rfl)⟩ LE_em hLE XT_tm hXT hP hK hD hS hA rfl hl.1 rfl (Nat.le_of_ble_eq_true rfl) dL_law_1112 ⟨room1_c hk5 r5, room1_s hk5 r6⟩ [0, 1, 2, 3, 4, 5, 6, 7, 8, 9, 10, 11, 12, 13, 14, 15, 16, 17] [18, 19, 20, 21, 22, 23, 24, 25, 26, 27, 28, 29, 30, 31, 32] [15, 16, 17, 18, 19, 20, 21, 22, 23, 24, 25, 26, 27, 28, 29, 30, 31, 32, 0, 1, 2, 3, 4, 5, 6, 7, 8, 9, 10, 11, 12, 13, 14] (by decide) rfl rfl (by decide) (by decide) (by decide) rfl (fun H locs hP hD hS => ?_)
  refine W.eq (g2 := F0 mm 1115 ls [.int z]) rfl ?_
  refine lv_istore (lv' := [(5, .int z), (0, .ref b), (1, .ref (q 0)), (2, .ref (qm 0)), (3, .ref qo), (4, .int (nI (6 * k)))]) hx hb dL_law_1115 hl (by decide) rfl (fun ls hl => ?_)
  refine lv_aload_n hx hb dL_law_1117 rfl (lv_at hl 3 rfl) ?_
  refine lv_aload_n hx hb dL_law_1118 rfl (lv_at hl 1 rfl) ?_
  refine lv_iload hx hb dL_law_1119 (lv_at hl 5 rfl) ?_
  refine lv_iconst (v := 1) hx hb dL_law_1121 (by decide +kernel) ?_
  refine lv_iadd hx hb dL_law_1122 ?_
  refine g_sld hx hb hX hbl hbA hS (6 * k + 1) (by omega) (by omega) (g_addE rfl rfl) dL_law_1123 ?_
  refine g_callVF (As := [.int (xs (6 * k + 1))]) (rest := []) (wl := LWd cI cZ cL q qm qo x2 m g2) (wr := WL cI cZ cL q qo (x2, g2)) (wn := LWd cI cZ cL q qm qo x2 m2 g2) hx hb hml hown hts hMc gL_law_X3_isShallow rfl t1 t2 hdX3_isShallow ⟨Nat.le_trans (Nat.succ_le_succ t3) (Nat.le_of_ble_eq_true rfl), Nat.le_trans (Nat.add_le_add_left t4 _) (Nat.le_of_ble_eq_true rfl)⟩ gEM_true trivial hP hK2 hD hS hA 0 rfl rfl rfl hl.1 rfl (Nat.le_of_ble_eq_true rfl) dL_law_1124 ⟨room1_c hk5 r5, room1_s hk5 r6⟩ [18, 19, 20, 21, 22, 23, 24, 25, 26, 27, 28, 29, 30, 31, 32] [0, 1, 2, 3, 4, 5, 6, 7, 8, 9, 10, 11, 12, 13, 14, 15, 16, 17] [0, 1, 2, 3, 4, 5, 6, 7, 8, 9, 10, 11, 12, 13, 14, 15, 16, 17, 18, 19, 20, 21, 22, 23, 24, 25, 26, 27, 28, 29, 30, 31, 32] (by decide) rfl rfl (by decide) (by decide) (by decide) rfl (fun H locs hP hD hS => ?_)
  refine W.eq (g2 := F0 mm 1127 ls [.int v]) rfl ?_
  refine lv_istore (lv' := [(6, .int v), (5, .int z), (0, .ref b), (1, .ref (q 0)), (2, .ref (qm 0)), (3, .ref qo), (4, .int (nI (6 * k)))]) hx hb dL_law_1127 hl (by decide) rfl (fun ls hl => ?_)
  refine lv_aload_n hx hb dL_law_1129 rfl (lv_at hl 4 rfl) ?_
  refine g_callVF (As := []) (rest := []) (wl := LWd cI cZ cL q qm qo x2 m2 g2) (wr := WL cI cZ cL q qo (x2, g2)) (wn := LWd cI cZ cL q qm qo x2 m2 g2) hx hb hml hown hts (ctX3_thrown l D cI cZ qm m2) gL_law_X3_thrown rfl rfl rfl hdX3_thrown ⟨Nat.le_of_ble_eq_true rfl, Nat.le_of_ble_eq_true rfl⟩ gEM_true trivial hP hK2 hD hS hA 0 rfl rfl rfl hl.1 rfl (Nat.le_of_ble_eq_true rfl) dL_law_1130 ⟨room1_c hk5 r5, room1_s hk5 r6⟩ [18, 19, 20, 21, 22, 23, 24, 25, 26, 27, 28, 29, 30, 31, 32] [0, 1, 2, 3, 4, 5, 6, 7, 8, 9, 10, 11, 12, 13, 14, 15, 16, 17] [0, 1, 2, 3, 4, 5, 6, 7, 8, 9, 10, 11, 12, 13, 14, 15, 16, 17, 18, 19, 20, 21, 22, 23, 24, 25, 26, 27, 28, 29, 30, 31, 32] (by decide) rfl rfl (by decide) (by decide) (by decide) rfl (fun H locs hP hD hS => ?_)
  refine W.eq (g2 := F0 mm 1133 ls [.int (m2 14 0)]) rfl ?_
  refine lv_iload hx hb dL_law_1133 (lv_at hl 1 rfl) ?_
  refine lv_icmp_eq (tgt := 1140) hx hb dL_law_1135 (by decide) (fun _ => ?_) (fun h => absurd hz h)
  refine lv_iload hx hb dL_law_1140 (lv_at hl 1 rfl) ?_
  refine lv_if_ne (tgt := 1164) hx hb dL_law_1142 (by decide) (fun _ => ?_) (fun h0 => ?_)
  · refine lv_goto (tgt := 1254) hx hb dL_law_1164 (by decide) ?_
    exact W.widen (by omega) (by omega) (hN n2 w2 x2 m2 g2 _ _ _ hSim hP hD hS (lv_sub hl [2, 3, 4, 5, 6] rfl))
  · refine lv_aload_n hx hb dL_law_1145 rfl (lv_at hl 5 rfl) ?_
    refine lv_iconst (v := 0) hx hb dL_law_1146 (by decide +kernel) ?_
    refine va_lald (i := 0) hx hb hK hP 0 2 rfl rfl vp_in01 dL_law_1147 ?_
    refine W.eq (g2 := F0 mm 1148 ls [.long (g2 0)]) rfl ?_
    refine lv_iload hx hb dL_law_1148 (lv_at hl 0 rfl) ?_
    refine g_boolL hx hb dL_law_1150 dL_law_1153 dL_law_1154 dL_law_1157 ?_
    refine g_lcmpE (tgt := 1164) hx hb dL_law_1158 dL_law_1159 (by decide) (fun _ => ?_) (fun h => absurd (hans h0) h)
    refine lv_goto (tgt := 1254) hx hb dL_law_1164 (by decide) ?_
    exact W.widen (by omega) (by omega) (hN n2 w2 x2 m2 g2 _ _ _ hSim hP hD hS (lv_sub hl [2, 3, 4, 5, 6] rfl))
set_option maxHeartbeats 4000000 in
set_option maxRecDepth 100000 in
theorem law_isAncestor {p : Program} {l : Launch} {e : Env} {s : State} {mm : MethodId} {below : List Frame} {meth : Method} {c : Code} {b L : Nat} {xs : Nat → Int32} {D : va_G} {cI cZ cL : ClassId} {q qm : Nat → Nat} {qo : Nat} {Q : State → Prop} {k : Nat} {x : SX} {m : SM} {g : Nat → Int64} {H : Heap} {locs : List Loc} {ls : Array Slot} (C : LawC p s mm c b L xs D cI cZ cL) (hk : 6 * k + 6 ≤ L) (hL : L ≤ 3072) (hDb : Dbl l D cI cZ cL q qm qo yL_isAncestor wsL_isAncestor [.ref (q 0), .int (xs (6 * k + 1)), .int (xs (6 * k + 2)), .int (xs (6 * k + 3)), .ref qo] yX3_isAncestor wsX3_isAncestor [.ref (qm 0), .int (xs (6 * k + 1)), .int (xs (6 * k + 2)), .int (xs (6 * k + 3))] bL x m g) (hP : va_P D vwCl (LWd cI cZ cL q qm qo x m g) H) (hD : va_D (fun a => s.heap.size ≤ a) (LWd cI cZ cL q qm qo x m g)) (hS : va_S (fun a => s.heap.size ≤ a) s.heap H locs) (hl : lv_has ls 7 [(0, .ref b), (1, .ref (q 0)), (2, .ref (qm 0)), (3, .ref qo), (4, .int (nI (6 * k)))]) (hN : LawN p l e s mm below meth c b D cI cZ cL q qm qo Q k) : W p l e room_1 s mm #[Value.ref b] below meth c H locs (33 + k) (1722 + 6 * k) Q (F0 mm 1167 ls []) := by
  obtain ⟨hx, hb, hml, hown, hts, hX, hbl, hLE, hXT, hK⟩ := C
  have hA : ∀ a : Nat, s.heap.size ≤ a → (fun a => s.heap.size ≤ a) a := fun _ h => h
  have hbA : ¬ (fun a : Nat => s.heap.size ≤ a) b := Nat.not_le.mpr hbl
  have hk5 : k < 512 := by omega
  have hK2 := hK.sub (tys' := [(cI, .int), (cZ, .boolean)]) [0, 1] rfl
  obtain ⟨n2, w2, x2, g2, m2, z, v, mc, ms, rL, rM, hW, ⟨r1, r2, r3, r4, r5, r6⟩, hMc, ⟨t1, t2, t3, t4⟩, hz, hans, hSim⟩ := hDb
  refine lv_aload_n hx hb dL_law_1167 rfl (lv_at hl 1 rfl) ?_
  refine lv_aload_n hx hb dL_law_1168 rfl (lv_at hl 0 rfl) ?_
  refine lv_iload hx hb dL_law_1169 (lv_at hl 4 rfl) ?_
  refine lv_iconst (v := 1) hx hb dL_law_1171 (by decide +kernel) ?_
  refine lv_iadd hx hb dL_law_1172 ?_
  refine g_sld hx hb hX hbl hbA hS (6 * k + 1) (by omega) (by omega) (g_addE rfl rfl) dL_law_1173 ?_
  refine lv_aload_n hx hb dL_law_1174 rfl (lv_at hl 0 rfl) ?_
  refine lv_iload hx hb dL_law_1175 (lv_at hl 4 rfl) ?_
  refine lv_iconst (v := 2) hx hb dL_law_1177 (by decide +kernel) ?_
  refine lv_iadd hx hb dL_law_1178 ?_
  refine g_sld hx hb hX hbl hbA hS (6 * k + 2) (by omega) (by omega) (g_addE rfl rfl) dL_law_1179 ?_
  refine lv_aload_n hx hb dL_law_1180 rfl (lv_at hl 0 rfl) ?_
  refine lv_iload hx hb dL_law_1181 (lv_at hl 4 rfl) ?_
  refine lv_iconst (v := 3) hx hb dL_law_1183 (by decide +kernel) ?_
  refine lv_iadd hx hb dL_law_1184 ?_
  refine g_sld hx hb hX hbl hbA hS (6 * k + 3) (by omega) (by omega) (g_addE rfl rfl) dL_law_1185 ?_
  refine lv_aload_n hx hb dL_law_1186 rfl (lv_at hl 3 rfl) ?_
  refine g_callSWF (As := [.ref (q 0), .int (xs (6 * k + 1)), .int (xs (6 * k + 2)), .int (xs (6 * k + 3)), .ref qo]) (rest := []) (wl := LWd cI cZ cL q qm qo x m g) (wr := MW cI cZ qm m) (wn := LWd cI cZ cL q qm qo x2 m g2) hx hb hml hown hts hW gL_law_L_isAncestor rfl r1 r2 hdL_isAncestor ⟨Nat.le_trans (Nat.succ_le_succ r3) (Nat.le_of_ble_eq_true rfl), Nat.le_trans (Nat.add_le_add_left r4 _) (Nat.le_of_ble_eq_true rfl)⟩ LE_em hLE XT_tm hXT hP hK hD hS hA rfl hl.1 rfl (Nat.le_of_ble_eq_true rfl) dL_law_1187 ⟨room1_c hk5 r5, room1_s hk5 r6⟩ [0, 1, 2, 3, 4, 5, 6, 7, 8, 9, 10, 11, 12, 13, 14, 15, 16, 17] [18, 19, 20, 21, 22, 23, 24, 25, 26, 27, 28, 29, 30, 31, 32] [15, 16, 17, 18, 19, 20, 21, 22, 23, 24, 25, 26, 27, 28, 29, 30, 31, 32, 0, 1, 2, 3, 4, 5, 6, 7, 8, 9, 10, 11, 12, 13, 14] (by decide) rfl rfl (by decide) (by decide) (by decide) rfl (fun H locs hP hD hS => ?_)
  refine W.eq (g2 := F0 mm 1190 ls [.int z]) rfl ?_
  refine lv_istore (lv' := [(5, .int z), (0, .ref b), (1, .ref (q 0)), (2, .ref (qm 0)), (3, .ref qo), (4, .int (nI (6 * k)))]) hx hb dL_law_1190 hl (by decide) rfl (fun ls hl => ?_)
  refine lv_aload_n hx hb dL_law_1192 rfl (lv_at hl 3 rfl) ?_
  refine lv_aload_n hx hb dL_law_1193 rfl (lv_at hl 1 rfl) ?_
  refine lv_iload hx hb dL_law_1194 (lv_at hl 5 rfl) ?_
  refine lv_iconst (v := 1) hx hb dL_law_1196 (by decide +kernel) ?_
  refine lv_iadd hx hb dL_law_1197 ?_
  refine g_sld hx hb hX hbl hbA hS (6 * k + 1) (by omega) (by omega) (g_addE rfl rfl) dL_law_1198 ?_
  refine lv_aload_n hx hb dL_law_1199 rfl (lv_at hl 1 rfl) ?_
  refine lv_iload hx hb dL_law_1200 (lv_at hl 5 rfl) ?_
  refine lv_iconst (v := 2) hx hb dL_law_1202 (by decide +kernel) ?_
  refine lv_iadd hx hb dL_law_1203 ?_
  refine g_sld hx hb hX hbl hbA hS (6 * k + 2) (by omega) (by omega) (g_addE rfl rfl) dL_law_1204 ?_
  refine lv_aload_n hx hb dL_law_1205 rfl (lv_at hl 1 rfl) ?_
  refine lv_iload hx hb dL_law_1206 (lv_at hl 5 rfl) ?_
  refine lv_iconst (v := 3) hx hb dL_law_1208 (by decide +kernel) ?_
  refine lv_iadd hx hb dL_law_1209 ?_
  refine g_sld hx hb hX hbl hbA hS (6 * k + 3) (by omega) (by omega) (g_addE rfl rfl) dL_law_1210 ?_
  refine g_callVF (As := [.int (xs (6 * k + 1)), .int (xs (6 * k + 2)), .int (xs (6 * k + 3))]) (rest := []) (wl := LWd cI cZ cL q qm qo x2 m g2) (wr := WL cI cZ cL q qo (x2, g2)) (wn := LWd cI cZ cL q qm qo x2 m2 g2) hx hb hml hown hts hMc gL_law_X3_isAncestor rfl t1 t2 hdX3_isAncestor ⟨Nat.le_trans (Nat.succ_le_succ t3) (Nat.le_of_ble_eq_true rfl), Nat.le_trans (Nat.add_le_add_left t4 _) (Nat.le_of_ble_eq_true rfl)⟩ gEM_true trivial hP hK2 hD hS hA 0 rfl rfl rfl hl.1 rfl (Nat.le_of_ble_eq_true rfl) dL_law_1211 ⟨room1_c hk5 r5, room1_s hk5 r6⟩ [18, 19, 20, 21, 22, 23, 24, 25, 26, 27, 28, 29, 30, 31, 32] [0, 1, 2, 3, 4, 5, 6, 7, 8, 9, 10, 11, 12, 13, 14, 15, 16, 17] [0, 1, 2, 3, 4, 5, 6, 7, 8, 9, 10, 11, 12, 13, 14, 15, 16, 17, 18, 19, 20, 21, 22, 23, 24, 25, 26, 27, 28, 29, 30, 31, 32] (by decide) rfl rfl (by decide) (by decide) (by decide) rfl (fun H locs hP hD hS => ?_)
  refine W.eq (g2 := F0 mm 1214 ls [.int v]) rfl ?_
  refine lv_istore (lv' := [(6, .int v), (5, .int z), (0, .ref b), (1, .ref (q 0)), (2, .ref (qm 0)), (3, .ref qo), (4, .int (nI (6 * k)))]) hx hb dL_law_1214 hl (by decide) rfl (fun ls hl => ?_)
  refine lv_aload_n hx hb dL_law_1216 rfl (lv_at hl 4 rfl) ?_
  refine g_callVF (As := []) (rest := []) (wl := LWd cI cZ cL q qm qo x2 m2 g2) (wr := WL cI cZ cL q qo (x2, g2)) (wn := LWd cI cZ cL q qm qo x2 m2 g2) hx hb hml hown hts (ctX3_thrown l D cI cZ qm m2) gL_law_X3_thrown rfl rfl rfl hdX3_thrown ⟨Nat.le_of_ble_eq_true rfl, Nat.le_of_ble_eq_true rfl⟩ gEM_true trivial hP hK2 hD hS hA 0 rfl rfl rfl hl.1 rfl (Nat.le_of_ble_eq_true rfl) dL_law_1217 ⟨room1_c hk5 r5, room1_s hk5 r6⟩ [18, 19, 20, 21, 22, 23, 24, 25, 26, 27, 28, 29, 30, 31, 32] [0, 1, 2, 3, 4, 5, 6, 7, 8, 9, 10, 11, 12, 13, 14, 15, 16, 17] [0, 1, 2, 3, 4, 5, 6, 7, 8, 9, 10, 11, 12, 13, 14, 15, 16, 17, 18, 19, 20, 21, 22, 23, 24, 25, 26, 27, 28, 29, 30, 31, 32] (by decide) rfl rfl (by decide) (by decide) (by decide) rfl (fun H locs hP hD hS => ?_)
  refine W.eq (g2 := F0 mm 1220 ls [.int (m2 14 0)]) rfl ?_
  refine lv_iload hx hb dL_law_1220 (lv_at hl 1 rfl) ?_
  refine lv_icmp_eq (tgt := 1227) hx hb dL_law_1222 (by decide) (fun _ => ?_) (fun h => absurd hz h)
  refine lv_iload hx hb dL_law_1227 (lv_at hl 1 rfl) ?_
  refine lv_if_ne (tgt := 1251) hx hb dL_law_1229 (by decide) (fun _ => ?_) (fun h0 => ?_)
  · refine lv_goto (tgt := 1254) hx hb dL_law_1251 (by decide) ?_
    exact W.widen (by omega) (by omega) (hN n2 w2 x2 m2 g2 _ _ _ hSim hP hD hS (lv_sub hl [2, 3, 4, 5, 6] rfl))
  · refine lv_aload_n hx hb dL_law_1232 rfl (lv_at hl 5 rfl) ?_
    refine lv_iconst (v := 0) hx hb dL_law_1233 (by decide +kernel) ?_
    refine va_lald (i := 0) hx hb hK hP 0 2 rfl rfl vp_in01 dL_law_1234 ?_
    refine W.eq (g2 := F0 mm 1235 ls [.long (g2 0)]) rfl ?_
    refine lv_iload hx hb dL_law_1235 (lv_at hl 0 rfl) ?_
    refine g_boolL hx hb dL_law_1237 dL_law_1240 dL_law_1241 dL_law_1244 ?_
    refine g_lcmpE (tgt := 1251) hx hb dL_law_1245 dL_law_1246 (by decide) (fun _ => ?_) (fun h => absurd (hans h0) h)
    refine lv_goto (tgt := 1254) hx hb dL_law_1251 (by decide) ?_
    exact W.widen (by omega) (by omega) (hN n2 w2 x2 m2 g2 _ _ _ hSim hP hD hS (lv_sub hl [2, 3, 4, 5, 6] rfl))
