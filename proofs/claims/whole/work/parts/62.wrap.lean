set_option maxHeartbeats 4000000 in
set_option maxRecDepth 100000 in
theorem wr_make (l : Launch) (D : va_G) (cI cZ cL : ClassId) (q : Nat → Nat) (qo : Nat) {u u' : SX} {g : Nat → Int64} {rmc : Room} (p0 p1 p2 p3 p4 : Int32) {v : Int32} (hrm : rmc.cells = 0 ∧ rmc.slots = 0 ∧ rmc.frames ≤ 8 ∧ rmc.locals ≤ 200) (hM : gM l yX2_make wsX2_make rmc D [(cI, .int), (cZ, .boolean)] (XW cI cZ q) XG [.ref (q 0), .int p0, .int p1, .int p2, .int p3, .int p4] u (some (.int v)) u') : gW l yL_make wsL_make rmL0 D [(cI, .int), (cZ, .boolean), (cL, .long)] (WL cI cZ cL q qo) LE XT [.ref (q 0), .int p0, .int p1, .int p2, .int p3, .int p4, .ref qo] (u, g) (some (.int 0)) (u', vp_updL g 0 (Int32.toInt64 v)) 0 0 := by
  refine g_startW (cc := cL_make) (maxL := 8) (ret := some .int) (hh := [(0, 16, 19, 13), (0, 16, 23, 15), (0, 16, 27, 17)]) (by decide) rfl (Nat.le_of_ble_eq_true rfl) ?_
  intro p e s m below meth c A ls Q hx hb hml hret hts hown hlk hE hP hK hD hA hl hQ hS hXT htab
  have hown : s.vm.findClass RL = some m.cls := hown
  have hl : lv_has ls 8 [(0, .ref (q 0)), (1, .int p0), (2, .int p1), (3, .int p2), (4, .int p3), (5, .int p4), (6, .ref qo)] := hl
  have hK2 := hK.sub (tys' := [(cI, .int), (cZ, .boolean)]) [0, 1] rfl
  refine lv_aload hx hb dL_make_0 (lv_at hl 6 rfl) ?_
  refine lv_iconst (v := 0) hx hb dL_make_2 (by decide +kernel) ?_
  refine lv_aload_n hx hb dL_make_3 rfl (lv_at hl 0 rfl) ?_
  refine lv_iload_n hx hb dL_make_4 rfl (lv_at hl 1 rfl) ?_
  refine lv_iload_n hx hb dL_make_5 rfl (lv_at hl 2 rfl) ?_
  refine lv_iload_n hx hb dL_make_6 rfl (lv_at hl 3 rfl) ?_
  refine lv_iload hx hb dL_make_7 (lv_at hl 4 rfl) ?_
  refine lv_iload hx hb dL_make_9 (lv_at hl 5 rfl) ?_
  refine g_callVF (As := [.int p0, .int p1, .int p2, .int p3, .int p4]) (rest := [.int 0, .ref qo]) (wr := [(qo, .inl (cL, 1, .inr (.inl g)))]) (wn := WL cI cZ cL q qo (u', g)) hx hb hml hown hts hM gL_make_X2_make rfl hrm.1 hrm.2.1 hdX2_make ⟨Nat.le_trans (Nat.succ_le_succ hrm.2.2.1) (Nat.le_of_ble_eq_true rfl), Nat.le_trans (Nat.add_le_add_left hrm.2.2.2 _) (Nat.le_of_ble_eq_true rfl)⟩ XG_em hE.1.1 hP hK2 hD hS hA 0 rfl rfl rfl hl.1 rfl (Nat.le_of_ble_eq_true rfl) dL_make_11 ⟨Nat.zero_le _, Nat.zero_le _⟩ [1, 2, 3, 4, 5, 6, 7, 8, 9, 10, 11, 12, 13, 14, 15, 16, 17] [0] [0, 1, 2, 3, 4, 5, 6, 7, 8, 9, 10, 11, 12, 13, 14, 15, 16, 17] (by decide) rfl rfl (by decide) (by decide) (by decide) rfl (fun H locs hP hD hS => ?_)
  refine W.eq (g2 := F0 m 14 ls [.int v, .int 0, .ref qo]) rfl ?_
  refine lv_i2l (v := Int32.toInt64 v) hx hb dL_make_14 rfl ?_
  refine va_last (i := 0) hx hb hK hP hD hS 0 2 rfl rfl vp_in01 dL_make_15 (fun H locs hP hD hS => ?_)
  have hP : va_P D vwCl (WL cI cZ cL q qo (u', vp_updL g 0 (Int32.toInt64 v))) H := hP
  have hD : va_D A (WL cI cZ cL q qo (u', vp_updL g 0 (Int32.toInt64 v))) := hD
  refine lv_goto (tgt := 31) hx hb dL_make_16 (by decide) ?_
  refine lv_iconst (v := 0) hx hb dL_make_31 (by decide +kernel) ?_
  refine g_iretW (u1 := (u', vp_updL g 0 (Int32.toInt64 v))) hx hb hret hlk hQ hP hD hS dL_make_32 rfl ?_
  rfl
set_option maxHeartbeats 4000000 in
set_option maxRecDepth 100000 in
theorem wr_make_IOO (l : Launch) (D : va_G) (cI cZ cL : ClassId) (q : Nat → Nat) (qo : Nat) {u : SX} {g : Nat → Int64} {rmc : Room} (p0 p1 p2 p3 p4 : Int32) (hrm : rmc.cells = 1 ∧ rmc.slots = 6 ∧ rmc.frames ≤ 8 ∧ rmc.locals ≤ 200) (hM : gX l yX2_make wsX2_make rmc D [(cI, .int), (cZ, .boolean)] (XW cI cZ q) XE XT [.ref (q 0), .int p0, .int p1, .int p2, .int p3, .int p4] u "java/lang/IndexOutOfBoundsException") : gW l yL_make wsL_make rmL1 D [(cI, .int), (cZ, .boolean), (cL, .long)] (WL cI cZ cL q qo) LE XT [.ref (q 0), .int p0, .int p1, .int p2, .int p3, .int p4, .ref qo] (u, g) (some (.int 1)) (u, g) 1 6 := by
  refine g_startW (cc := cL_make) (maxL := 8) (ret := some .int) (hh := [(0, 16, 19, 13), (0, 16, 23, 15), (0, 16, 27, 17)]) (by decide) rfl (Nat.le_of_ble_eq_true rfl) ?_
  intro p e s m below meth c A ls Q hx hb hml hret hts hown hlk hE hP hK hD hA hl hQ hS hXT htab
  have hown : s.vm.findClass RL = some m.cls := hown
  have hl : lv_has ls 8 [(0, .ref (q 0)), (1, .int p0), (2, .int p1), (3, .int p2), (4, .int p3), (5, .int p4), (6, .ref qo)] := hl
  have hK2 := hK.sub (tys' := [(cI, .int), (cZ, .boolean)]) [0, 1] rfl
  refine lv_aload hx hb dL_make_0 (lv_at hl 6 rfl) ?_
  refine lv_iconst (v := 0) hx hb dL_make_2 (by decide +kernel) ?_
  refine lv_aload_n hx hb dL_make_3 rfl (lv_at hl 0 rfl) ?_
  refine lv_iload_n hx hb dL_make_4 rfl (lv_at hl 1 rfl) ?_
  refine lv_iload_n hx hb dL_make_5 rfl (lv_at hl 2 rfl) ?_
  refine lv_iload_n hx hb dL_make_6 rfl (lv_at hl 3 rfl) ?_
  refine lv_iload hx hb dL_make_7 (lv_at hl 4 rfl) ?_
  refine lv_iload hx hb dL_make_9 (lv_at hl 5 rfl) ?_
  refine g_xVF (As := [.int p0, .int p1, .int p2, .int p3, .int p4]) (rest := [.int 0, .ref qo]) (wr := [(qo, .inl (cL, 1, .inr (.inl g)))]) (wl := WL cI cZ cL q qo (u, g)) hx hb hml hown hts hM gL_make_X2_make rfl hrm.1 hrm.2.1 hdX2_make ⟨Nat.le_trans (Nat.succ_le_succ hrm.2.2.1) (Nat.le_of_ble_eq_true rfl), Nat.le_trans (Nat.add_le_add_left hrm.2.2.2 _) (Nat.le_of_ble_eq_true rfl)⟩ XE_em hE.1 XT_tm hXT hP hK2 hD hS hA 0 rfl rfl rfl hl.1 rfl (Nat.le_of_ble_eq_true rfl) dL_make_11 ⟨Nat.le_of_ble_eq_true rfl, Nat.le_of_ble_eq_true rfl⟩ [1, 2, 3, 4, 5, 6, 7, 8, 9, 10, 11, 12, 13, 14, 15, 16, 17] [0] [0, 1, 2, 3, 4, 5, 6, 7, 8, 9, 10, 11, 12, 13, 14, 15, 16, 17] (by decide) rfl rfl (by decide) (by decide) (by decide) rfl (fun ce q9 H locs hP hD hS hce hcv hcl => ?_)
  refine vx_catch (own := RL) (name := "java/lang/IndexOutOfBoundsException") hown [] (⟨0, 16, 19, 13⟩ : ExceptionTableEntry) [(⟨0, 16, 23, 15⟩ : ExceptionTableEntry), (⟨0, 16, 27, 17⟩ : ExceptionTableEntry)] htab (fun z hz => by cases hz) (by decide) (by decide) (hts _ (List.mem_of_getElem? (i := 1) (by decide +kernel))) (va_Nw.use rfl (hE.1.1.1 _ (List.mem_of_getElem? (i := 9) rfl))) hce hcv hcl ?_
  refine lv_astore (lv' := [(7, .ref q9), (0, .ref (q 0)), (1, .int p0), (2, .int p1), (3, .int p2), (4, .int p3), (5, .int p4), (6, .ref qo)]) hx hb dL_make_19 hl (by decide) rfl (fun ls hl => ?_)
  refine lv_iconst (v := 1) hx hb dL_make_21 (by decide +kernel) ?_
  refine W.widen (k := 1) (n := 6) (by omega) (by omega) ?_
  exact g_iretW (u1 := (u, g)) hx hb hret hlk hQ hP hD hS dL_make_22 rfl rfl
set_option maxHeartbeats 4000000 in
set_option maxRecDepth 100000 in
theorem wr_make_IAE (l : Launch) (D : va_G) (cI cZ cL : ClassId) (q : Nat → Nat) (qo : Nat) {u : SX} {g : Nat → Int64} {rmc : Room} (p0 p1 p2 p3 p4 : Int32) (hrm : rmc.cells = 1 ∧ rmc.slots = 6 ∧ rmc.frames ≤ 8 ∧ rmc.locals ≤ 200) (hM : gX l yX2_make wsX2_make rmc D [(cI, .int), (cZ, .boolean)] (XW cI cZ q) XE XT [.ref (q 0), .int p0, .int p1, .int p2, .int p3, .int p4] u "java/lang/IllegalArgumentException") : gW l yL_make wsL_make rmL1 D [(cI, .int), (cZ, .boolean), (cL, .long)] (WL cI cZ cL q qo) LE XT [.ref (q 0), .int p0, .int p1, .int p2, .int p3, .int p4, .ref qo] (u, g) (some (.int 2)) (u, g) 1 6 := by
  refine g_startW (cc := cL_make) (maxL := 8) (ret := some .int) (hh := [(0, 16, 19, 13), (0, 16, 23, 15), (0, 16, 27, 17)]) (by decide) rfl (Nat.le_of_ble_eq_true rfl) ?_
  intro p e s m below meth c A ls Q hx hb hml hret hts hown hlk hE hP hK hD hA hl hQ hS hXT htab
  have hown : s.vm.findClass RL = some m.cls := hown
  have hl : lv_has ls 8 [(0, .ref (q 0)), (1, .int p0), (2, .int p1), (3, .int p2), (4, .int p3), (5, .int p4), (6, .ref qo)] := hl
  have hK2 := hK.sub (tys' := [(cI, .int), (cZ, .boolean)]) [0, 1] rfl
  refine lv_aload hx hb dL_make_0 (lv_at hl 6 rfl) ?_
  refine lv_iconst (v := 0) hx hb dL_make_2 (by decide +kernel) ?_
  refine lv_aload_n hx hb dL_make_3 rfl (lv_at hl 0 rfl) ?_
  refine lv_iload_n hx hb dL_make_4 rfl (lv_at hl 1 rfl) ?_
  refine lv_iload_n hx hb dL_make_5 rfl (lv_at hl 2 rfl) ?_
  refine lv_iload_n hx hb dL_make_6 rfl (lv_at hl 3 rfl) ?_
  refine lv_iload hx hb dL_make_7 (lv_at hl 4 rfl) ?_
  refine lv_iload hx hb dL_make_9 (lv_at hl 5 rfl) ?_
  refine g_xVF (As := [.int p0, .int p1, .int p2, .int p3, .int p4]) (rest := [.int 0, .ref qo]) (wr := [(qo, .inl (cL, 1, .inr (.inl g)))]) (wl := WL cI cZ cL q qo (u, g)) hx hb hml hown hts hM gL_make_X2_make rfl hrm.1 hrm.2.1 hdX2_make ⟨Nat.le_trans (Nat.succ_le_succ hrm.2.2.1) (Nat.le_of_ble_eq_true rfl), Nat.le_trans (Nat.add_le_add_left hrm.2.2.2 _) (Nat.le_of_ble_eq_true rfl)⟩ XE_em hE.1 XT_tm hXT hP hK2 hD hS hA 0 rfl rfl rfl hl.1 rfl (Nat.le_of_ble_eq_true rfl) dL_make_11 ⟨Nat.le_of_ble_eq_true rfl, Nat.le_of_ble_eq_true rfl⟩ [1, 2, 3, 4, 5, 6, 7, 8, 9, 10, 11, 12, 13, 14, 15, 16, 17] [0] [0, 1, 2, 3, 4, 5, 6, 7, 8, 9, 10, 11, 12, 13, 14, 15, 16, 17] (by decide) rfl rfl (by decide) (by decide) (by decide) rfl (fun ce q9 H locs hP hD hS hce hcv hcl => ?_)
  refine vx_catch (own := RL) (name := "java/lang/IllegalArgumentException") hown [(⟨0, 16, 19, 13⟩ : ExceptionTableEntry)] (⟨0, 16, 23, 15⟩ : ExceptionTableEntry) [(⟨0, 16, 27, 17⟩ : ExceptionTableEntry)] htab (List.forall_mem_cons.mpr ⟨Or.inr ⟨by decide, "java/lang/IndexOutOfBoundsException", hts _ (List.mem_of_getElem? (i := 1) (by decide +kernel)), hE.2.1⟩, fun z hz => by cases hz⟩) (by decide) (by decide) (hts _ (List.mem_of_getElem? (i := 2) (by decide +kernel))) (va_Nw.use rfl (hE.1.1.1 _ (List.mem_of_getElem? (i := 10) rfl))) hce hcv hcl ?_
  refine lv_astore (lv' := [(7, .ref q9), (0, .ref (q 0)), (1, .int p0), (2, .int p1), (3, .int p2), (4, .int p3), (5, .int p4), (6, .ref qo)]) hx hb dL_make_23 hl (by decide) rfl (fun ls hl => ?_)
  refine lv_iconst (v := 2) hx hb dL_make_25 (by decide +kernel) ?_
  refine W.widen (k := 1) (n := 6) (by omega) (by omega) ?_
  exact g_iretW (u1 := (u, g)) hx hb hret hlk hQ hP hD hS dL_make_26 rfl rfl
set_option maxHeartbeats 4000000 in
set_option maxRecDepth 100000 in
theorem wr_make_ISE (l : Launch) (D : va_G) (cI cZ cL : ClassId) (q : Nat → Nat) (qo : Nat) {u : SX} {g : Nat → Int64} {rmc : Room} (p0 p1 p2 p3 p4 : Int32) (hrm : rmc.cells = 1 ∧ rmc.slots = 6 ∧ rmc.frames ≤ 8 ∧ rmc.locals ≤ 200) (hM : gX l yX2_make wsX2_make rmc D [(cI, .int), (cZ, .boolean)] (XW cI cZ q) XE XT [.ref (q 0), .int p0, .int p1, .int p2, .int p3, .int p4] u "java/lang/IllegalStateException") : gW l yL_make wsL_make rmL1 D [(cI, .int), (cZ, .boolean), (cL, .long)] (WL cI cZ cL q qo) LE XT [.ref (q 0), .int p0, .int p1, .int p2, .int p3, .int p4, .ref qo] (u, g) (some (.int 3)) (u, g) 1 6 := by
  refine g_startW (cc := cL_make) (maxL := 8) (ret := some .int) (hh := [(0, 16, 19, 13), (0, 16, 23, 15), (0, 16, 27, 17)]) (by decide) rfl (Nat.le_of_ble_eq_true rfl) ?_
  intro p e s m below meth c A ls Q hx hb hml hret hts hown hlk hE hP hK hD hA hl hQ hS hXT htab
  have hown : s.vm.findClass RL = some m.cls := hown
  have hl : lv_has ls 8 [(0, .ref (q 0)), (1, .int p0), (2, .int p1), (3, .int p2), (4, .int p3), (5, .int p4), (6, .ref qo)] := hl
  have hK2 := hK.sub (tys' := [(cI, .int), (cZ, .boolean)]) [0, 1] rfl
  refine lv_aload hx hb dL_make_0 (lv_at hl 6 rfl) ?_
  refine lv_iconst (v := 0) hx hb dL_make_2 (by decide +kernel) ?_
  refine lv_aload_n hx hb dL_make_3 rfl (lv_at hl 0 rfl) ?_
  refine lv_iload_n hx hb dL_make_4 rfl (lv_at hl 1 rfl) ?_
  refine lv_iload_n hx hb dL_make_5 rfl (lv_at hl 2 rfl) ?_
  refine lv_iload_n hx hb dL_make_6 rfl (lv_at hl 3 rfl) ?_
  refine lv_iload hx hb dL_make_7 (lv_at hl 4 rfl) ?_
  refine lv_iload hx hb dL_make_9 (lv_at hl 5 rfl) ?_
  refine g_xVF (As := [.int p0, .int p1, .int p2, .int p3, .int p4]) (rest := [.int 0, .ref qo]) (wr := [(qo, .inl (cL, 1, .inr (.inl g)))]) (wl := WL cI cZ cL q qo (u, g)) hx hb hml hown hts hM gL_make_X2_make rfl hrm.1 hrm.2.1 hdX2_make ⟨Nat.le_trans (Nat.succ_le_succ hrm.2.2.1) (Nat.le_of_ble_eq_true rfl), Nat.le_trans (Nat.add_le_add_left hrm.2.2.2 _) (Nat.le_of_ble_eq_true rfl)⟩ XE_em hE.1 XT_tm hXT hP hK2 hD hS hA 0 rfl rfl rfl hl.1 rfl (Nat.le_of_ble_eq_true rfl) dL_make_11 ⟨Nat.le_of_ble_eq_true rfl, Nat.le_of_ble_eq_true rfl⟩ [1, 2, 3, 4, 5, 6, 7, 8, 9, 10, 11, 12, 13, 14, 15, 16, 17] [0] [0, 1, 2, 3, 4, 5, 6, 7, 8, 9, 10, 11, 12, 13, 14, 15, 16, 17] (by decide) rfl rfl (by decide) (by decide) (by decide) rfl (fun ce q9 H locs hP hD hS hce hcv hcl => ?_)
  refine vx_catch (own := RL) (name := "java/lang/IllegalStateException") hown [(⟨0, 16, 19, 13⟩ : ExceptionTableEntry), (⟨0, 16, 23, 15⟩ : ExceptionTableEntry)] (⟨0, 16, 27, 17⟩ : ExceptionTableEntry) [] htab (List.forall_mem_cons.mpr ⟨Or.inr ⟨by decide, "java/lang/IndexOutOfBoundsException", hts _ (List.mem_of_getElem? (i := 1) (by decide +kernel)), hE.2.2.1⟩, (List.forall_mem_cons.mpr ⟨Or.inr ⟨by decide, "java/lang/IllegalArgumentException", hts _ (List.mem_of_getElem? (i := 2) (by decide +kernel)), hE.2.2.2⟩, fun z hz => by cases hz⟩)⟩) (by decide) (by decide) (hts _ (List.mem_of_getElem? (i := 3) (by decide +kernel))) (va_Nw.use rfl (hE.1.1.1 _ (List.mem_of_getElem? (i := 11) rfl))) hce hcv hcl ?_
  refine lv_astore (lv' := [(7, .ref q9), (0, .ref (q 0)), (1, .int p0), (2, .int p1), (3, .int p2), (4, .int p3), (5, .int p4), (6, .ref qo)]) hx hb dL_make_27 hl (by decide) rfl (fun ls hl => ?_)
  refine lv_iconst (v := 3) hx hb dL_make_29 (by decide +kernel) ?_
  refine W.widen (k := 1) (n := 6) (by omega) (by omega) ?_
  exact g_iretW (u1 := (u, g)) hx hb hret hlk hQ hP hD hS dL_make_30 rfl rfl
set_option maxHeartbeats 4000000 in
set_option maxRecDepth 100000 in
theorem wr_setRef (l : Launch) (D : va_G) (cI cZ cL : ClassId) (q : Nat → Nat) (qo : Nat) {u u' : SX} {g : Nat → Int64} {rmc : Room} (p0 p1 p2 : Int32) {v : Int32} (hrm : rmc.cells = 0 ∧ rmc.slots = 0 ∧ rmc.frames ≤ 8 ∧ rmc.locals ≤ 200) (hM : gM l yX2_setRef wsX2_setRef rmc D [(cI, .int), (cZ, .boolean)] (XW cI cZ q) XG [.ref (q 0), .int p0, .int p1, .int p2] u (some (.int v)) u') : gW l yL_setRef wsL_setRef rmL0 D [(cI, .int), (cZ, .boolean), (cL, .long)] (WL cI cZ cL q qo) LE XT [.ref (q 0), .int p0, .int p1, .int p2, .ref qo] (u, g) (some (.int 0)) (u', vp_updL g 0 (Int32.toInt64 v)) 0 0 := by
  refine g_startW (cc := cL_setRef) (maxL := 6) (ret := some .int) (hh := [(0, 12, 15, 13)]) (by decide) rfl (Nat.le_of_ble_eq_true rfl) ?_
  intro p e s m below meth c A ls Q hx hb hml hret hts hown hlk hE hP hK hD hA hl hQ hS hXT htab
  have hown : s.vm.findClass RL = some m.cls := hown
  have hl : lv_has ls 6 [(0, .ref (q 0)), (1, .int p0), (2, .int p1), (3, .int p2), (4, .ref qo)] := hl
  have hK2 := hK.sub (tys' := [(cI, .int), (cZ, .boolean)]) [0, 1] rfl
  refine lv_aload hx hb dL_setRef_0 (lv_at hl 4 rfl) ?_
  refine lv_iconst (v := 0) hx hb dL_setRef_2 (by decide +kernel) ?_
  refine lv_aload_n hx hb dL_setRef_3 rfl (lv_at hl 0 rfl) ?_
  refine lv_iload_n hx hb dL_setRef_4 rfl (lv_at hl 1 rfl) ?_
  refine lv_iload_n hx hb dL_setRef_5 rfl (lv_at hl 2 rfl) ?_
  refine lv_iload_n hx hb dL_setRef_6 rfl (lv_at hl 3 rfl) ?_
  refine g_callVF (As := [.int p0, .int p1, .int p2]) (rest := [.int 0, .ref qo]) (wr := [(qo, .inl (cL, 1, .inr (.inl g)))]) (wn := WL cI cZ cL q qo (u', g)) hx hb hml hown hts hM gL_setRef_X2_setRef rfl hrm.1 hrm.2.1 hdX2_setRef ⟨Nat.le_trans (Nat.succ_le_succ hrm.2.2.1) (Nat.le_of_ble_eq_true rfl), Nat.le_trans (Nat.add_le_add_left hrm.2.2.2 _) (Nat.le_of_ble_eq_true rfl)⟩ XG_em hE.1.1 hP hK2 hD hS hA 0 rfl rfl rfl hl.1 rfl (Nat.le_of_ble_eq_true rfl) dL_setRef_7 ⟨Nat.zero_le _, Nat.zero_le _⟩ [1, 2, 3, 4, 5, 6, 7, 8, 9, 10, 11, 12, 13, 14, 15, 16, 17] [0] [0, 1, 2, 3, 4, 5, 6, 7, 8, 9, 10, 11, 12, 13, 14, 15, 16, 17] (by decide) rfl rfl (by decide) (by decide) (by decide) rfl (fun H locs hP hD hS => ?_)
  refine W.eq (g2 := F0 m 10 ls [.int v, .int 0, .ref qo]) rfl ?_
  refine lv_i2l (v := Int32.toInt64 v) hx hb dL_setRef_10 rfl ?_
  refine va_last (i := 0) hx hb hK hP hD hS 0 2 rfl rfl vp_in01 dL_setRef_11 (fun H locs hP hD hS => ?_)
  have hP : va_P D vwCl (WL cI cZ cL q qo (u', vp_updL g 0 (Int32.toInt64 v))) H := hP
  have hD : va_D A (WL cI cZ cL q qo (u', vp_updL g 0 (Int32.toInt64 v))) := hD
  refine lv_goto (tgt := 19) hx hb dL_setRef_12 (by decide) ?_
  refine lv_iconst (v := 0) hx hb dL_setRef_19 (by decide +kernel) ?_
  refine g_iretW (u1 := (u', vp_updL g 0 (Int32.toInt64 v))) hx hb hret hlk hQ hP hD hS dL_setRef_20 rfl ?_
  rfl
set_option maxHeartbeats 4000000 in
set_option maxRecDepth 100000 in
theorem wr_setRef_IOO (l : Launch) (D : va_G) (cI cZ cL : ClassId) (q : Nat → Nat) (qo : Nat) {u : SX} {g : Nat → Int64} {rmc : Room} (p0 p1 p2 : Int32) (hrm : rmc.cells = 1 ∧ rmc.slots = 6 ∧ rmc.frames ≤ 8 ∧ rmc.locals ≤ 200) (hM : gX l yX2_setRef wsX2_setRef rmc D [(cI, .int), (cZ, .boolean)] (XW cI cZ q) XE XT [.ref (q 0), .int p0, .int p1, .int p2] u "java/lang/IndexOutOfBoundsException") : gW l yL_setRef wsL_setRef rmL1 D [(cI, .int), (cZ, .boolean), (cL, .long)] (WL cI cZ cL q qo) LE XT [.ref (q 0), .int p0, .int p1, .int p2, .ref qo] (u, g) (some (.int 1)) (u, g) 1 6 := by
  refine g_startW (cc := cL_setRef) (maxL := 6) (ret := some .int) (hh := [(0, 12, 15, 13)]) (by decide) rfl (Nat.le_of_ble_eq_true rfl) ?_
  intro p e s m below meth c A ls Q hx hb hml hret hts hown hlk hE hP hK hD hA hl hQ hS hXT htab
  have hown : s.vm.findClass RL = some m.cls := hown
  have hl : lv_has ls 6 [(0, .ref (q 0)), (1, .int p0), (2, .int p1), (3, .int p2), (4, .ref qo)] := hl
  have hK2 := hK.sub (tys' := [(cI, .int), (cZ, .boolean)]) [0, 1] rfl
  refine lv_aload hx hb dL_setRef_0 (lv_at hl 4 rfl) ?_
  refine lv_iconst (v := 0) hx hb dL_setRef_2 (by decide +kernel) ?_
  refine lv_aload_n hx hb dL_setRef_3 rfl (lv_at hl 0 rfl) ?_
  refine lv_iload_n hx hb dL_setRef_4 rfl (lv_at hl 1 rfl) ?_
  refine lv_iload_n hx hb dL_setRef_5 rfl (lv_at hl 2 rfl) ?_
  refine lv_iload_n hx hb dL_setRef_6 rfl (lv_at hl 3 rfl) ?_
  refine g_xVF (As := [.int p0, .int p1, .int p2]) (rest := [.int 0, .ref qo]) (wr := [(qo, .inl (cL, 1, .inr (.inl g)))]) (wl := WL cI cZ cL q qo (u, g)) hx hb hml hown hts hM gL_setRef_X2_setRef rfl hrm.1 hrm.2.1 hdX2_setRef ⟨Nat.le_trans (Nat.succ_le_succ hrm.2.2.1) (Nat.le_of_ble_eq_true rfl), Nat.le_trans (Nat.add_le_add_left hrm.2.2.2 _) (Nat.le_of_ble_eq_true rfl)⟩ XE_em hE.1 XT_tm hXT hP hK2 hD hS hA 0 rfl rfl rfl hl.1 rfl (Nat.le_of_ble_eq_true rfl) dL_setRef_7 ⟨Nat.le_of_ble_eq_true rfl, Nat.le_of_ble_eq_true rfl⟩ [1, 2, 3, 4, 5, 6, 7, 8, 9, 10, 11, 12, 13, 14, 15, 16, 17] [0] [0, 1, 2, 3, 4, 5, 6, 7, 8, 9, 10, 11, 12, 13, 14, 15, 16, 17] (by decide) rfl rfl (by decide) (by decide) (by decide) rfl (fun ce q9 H locs hP hD hS hce hcv hcl => ?_)
  refine vx_catch (own := RL) (name := "java/lang/IndexOutOfBoundsException") hown [] (⟨0, 12, 15, 13⟩ : ExceptionTableEntry) [] htab (fun z hz => by cases hz) (by decide) (by decide) (hts _ (List.mem_of_getElem? (i := 1) (by decide +kernel))) (va_Nw.use rfl (hE.1.1.1 _ (List.mem_of_getElem? (i := 9) rfl))) hce hcv hcl ?_
  refine lv_astore (lv' := [(5, .ref q9), (0, .ref (q 0)), (1, .int p0), (2, .int p1), (3, .int p2), (4, .ref qo)]) hx hb dL_setRef_15 hl (by decide) rfl (fun ls hl => ?_)
  refine lv_iconst (v := 1) hx hb dL_setRef_17 (by decide +kernel) ?_
  refine W.widen (k := 1) (n := 6) (by omega) (by omega) ?_
  exact g_iretW (u1 := (u, g)) hx hb hret hlk hQ hP hD hS dL_setRef_18 rfl rfl
set_option maxHeartbeats 4000000 in
set_option maxRecDepth 100000 in
theorem wr_ref (l : Launch) (D : va_G) (cI cZ cL : ClassId) (q : Nat → Nat) (qo : Nat) {u u' : SX} {g : Nat → Int64} {rmc : Room} (p0 p1 : Int32) {v : Int32} (hrm : rmc.cells = 0 ∧ rmc.slots = 0 ∧ rmc.frames ≤ 8 ∧ rmc.locals ≤ 200) (hM : gM l yX2_ref wsX2_ref rmc D [(cI, .int), (cZ, .boolean)] (XW cI cZ q) XG [.ref (q 0), .int p0, .int p1] u (some (.int v)) u') : gW l yL_ref wsL_ref rmL0 D [(cI, .int), (cZ, .boolean), (cL, .long)] (WL cI cZ cL q qo) LE XT [.ref (q 0), .int p0, .int p1, .ref qo] (u, g) (some (.int 0)) (u', vp_updL g 0 (Int32.toInt64 v)) 0 0 := by
  refine g_startW (cc := cL_ref) (maxL := 5) (ret := some .int) (hh := [(0, 10, 13, 13)]) (by decide) rfl (Nat.le_of_ble_eq_true rfl) ?_
  intro p e s m below meth c A ls Q hx hb hml hret hts hown hlk hE hP hK hD hA hl hQ hS hXT htab
  have hown : s.vm.findClass RL = some m.cls := hown
  have hl : lv_has ls 5 [(0, .ref (q 0)), (1, .int p0), (2, .int p1), (3, .ref qo)] := hl
  have hK2 := hK.sub (tys' := [(cI, .int), (cZ, .boolean)]) [0, 1] rfl
  refine lv_aload_n hx hb dL_ref_0 rfl (lv_at hl 3 rfl) ?_
  refine lv_iconst (v := 0) hx hb dL_ref_1 (by decide +kernel) ?_
  refine lv_aload_n hx hb dL_ref_2 rfl (lv_at hl 0 rfl) ?_
  refine lv_iload_n hx hb dL_ref_3 rfl (lv_at hl 1 rfl) ?_
  refine lv_iload_n hx hb dL_ref_4 rfl (lv_at hl 2 rfl) ?_
  refine g_callVF (As := [.int p0, .int p1]) (rest := [.int 0, .ref qo]) (wr := [(qo, .inl (cL, 1, .inr (.inl g)))]) (wn := WL cI cZ cL q qo (u', g)) hx hb hml hown hts hM gL_ref_X2_ref rfl hrm.1 hrm.2.1 hdX2_ref ⟨Nat.le_trans (Nat.succ_le_succ hrm.2.2.1) (Nat.le_of_ble_eq_true rfl), Nat.le_trans (Nat.add_le_add_left hrm.2.2.2 _) (Nat.le_of_ble_eq_true rfl)⟩ XG_em hE.1.1 hP hK2 hD hS hA 0 rfl rfl rfl hl.1 rfl (Nat.le_of_ble_eq_true rfl) dL_ref_5 ⟨Nat.zero_le _, Nat.zero_le _⟩ [1, 2, 3, 4, 5, 6, 7, 8, 9, 10, 11, 12, 13, 14, 15, 16, 17] [0] [0, 1, 2, 3, 4, 5, 6, 7, 8, 9, 10, 11, 12, 13, 14, 15, 16, 17] (by decide) rfl rfl (by decide) (by decide) (by decide) rfl (fun H locs hP hD hS => ?_)
  refine W.eq (g2 := F0 m 8 ls [.int v, .int 0, .ref qo]) rfl ?_
  refine lv_i2l (v := Int32.toInt64 v) hx hb dL_ref_8 rfl ?_
  refine va_last (i := 0) hx hb hK hP hD hS 0 2 rfl rfl vp_in01 dL_ref_9 (fun H locs hP hD hS => ?_)
  have hP : va_P D vwCl (WL cI cZ cL q qo (u', vp_updL g 0 (Int32.toInt64 v))) H := hP
  have hD : va_D A (WL cI cZ cL q qo (u', vp_updL g 0 (Int32.toInt64 v))) := hD
  refine lv_goto (tgt := 17) hx hb dL_ref_10 (by decide) ?_
  refine lv_iconst (v := 0) hx hb dL_ref_17 (by decide +kernel) ?_
  refine g_iretW (u1 := (u', vp_updL g 0 (Int32.toInt64 v))) hx hb hret hlk hQ hP hD hS dL_ref_18 rfl ?_
  rfl
set_option maxHeartbeats 4000000 in
set_option maxRecDepth 100000 in
theorem wr_ref_IOO (l : Launch) (D : va_G) (cI cZ cL : ClassId) (q : Nat → Nat) (qo : Nat) {u : SX} {g : Nat → Int64} {rmc : Room} (p0 p1 : Int32) (hrm : rmc.cells = 1 ∧ rmc.slots = 6 ∧ rmc.frames ≤ 8 ∧ rmc.locals ≤ 200) (hM : gX l yX2_ref wsX2_ref rmc D [(cI, .int), (cZ, .boolean)] (XW cI cZ q) XE XT [.ref (q 0), .int p0, .int p1] u "java/lang/IndexOutOfBoundsException") : gW l yL_ref wsL_ref rmL1 D [(cI, .int), (cZ, .boolean), (cL, .long)] (WL cI cZ cL q qo) LE XT [.ref (q 0), .int p0, .int p1, .ref qo] (u, g) (some (.int 1)) (u, g) 1 6 := by
  refine g_startW (cc := cL_ref) (maxL := 5) (ret := some .int) (hh := [(0, 10, 13, 13)]) (by decide) rfl (Nat.le_of_ble_eq_true rfl) ?_
  intro p e s m below meth c A ls Q hx hb hml hret hts hown hlk hE hP hK hD hA hl hQ hS hXT htab
  have hown : s.vm.findClass RL = some m.cls := hown
  have hl : lv_has ls 5 [(0, .ref (q 0)), (1, .int p0), (2, .int p1), (3, .ref qo)] := hl
  have hK2 := hK.sub (tys' := [(cI, .int), (cZ, .boolean)]) [0, 1] rfl
  refine lv_aload_n hx hb dL_ref_0 rfl (lv_at hl 3 rfl) ?_
  refine lv_iconst (v := 0) hx hb dL_ref_1 (by decide +kernel) ?_
  refine lv_aload_n hx hb dL_ref_2 rfl (lv_at hl 0 rfl) ?_
  refine lv_iload_n hx hb dL_ref_3 rfl (lv_at hl 1 rfl) ?_
  refine lv_iload_n hx hb dL_ref_4 rfl (lv_at hl 2 rfl) ?_
  refine g_xVF (As := [.int p0, .int p1]) (rest := [.int 0, .ref qo]) (wr := [(qo, .inl (cL, 1, .inr (.inl g)))]) (wl := WL cI cZ cL q qo (u, g)) hx hb hml hown hts hM gL_ref_X2_ref rfl hrm.1 hrm.2.1 hdX2_ref ⟨Nat.le_trans (Nat.succ_le_succ hrm.2.2.1) (Nat.le_of_ble_eq_true rfl), Nat.le_trans (Nat.add_le_add_left hrm.2.2.2 _) (Nat.le_of_ble_eq_true rfl)⟩ XE_em hE.1 XT_tm hXT hP hK2 hD hS hA 0 rfl rfl rfl hl.1 rfl (Nat.le_of_ble_eq_true rfl) dL_ref_5 ⟨Nat.le_of_ble_eq_true rfl, Nat.le_of_ble_eq_true rfl⟩ [1, 2, 3, 4, 5, 6, 7, 8, 9, 10, 11, 12, 13, 14, 15, 16, 17] [0] [0, 1, 2, 3, 4, 5, 6, 7, 8, 9, 10, 11, 12, 13, 14, 15, 16, 17] (by decide) rfl rfl (by decide) (by decide) (by decide) rfl (fun ce q9 H locs hP hD hS hce hcv hcl => ?_)
  refine vx_catch (own := RL) (name := "java/lang/IndexOutOfBoundsException") hown [] (⟨0, 10, 13, 13⟩ : ExceptionTableEntry) [] htab (fun z hz => by cases hz) (by decide) (by decide) (hts _ (List.mem_of_getElem? (i := 1) (by decide +kernel))) (va_Nw.use rfl (hE.1.1.1 _ (List.mem_of_getElem? (i := 9) rfl))) hce hcv hcl ?_
  refine lv_astore (lv' := [(4, .ref q9), (0, .ref (q 0)), (1, .int p0), (2, .int p1), (3, .ref qo)]) hx hb dL_ref_13 hl (by decide) rfl (fun ls hl => ?_)
  refine lv_iconst (v := 1) hx hb dL_ref_15 (by decide +kernel) ?_
  refine W.widen (k := 1) (n := 6) (by omega) (by omega) ?_
  exact g_iretW (u1 := (u, g)) hx hb hret hlk hQ hP hD hS dL_ref_16 rfl rfl
set_option maxHeartbeats 4000000 in
set_option maxRecDepth 100000 in
theorem wr_fileAt (l : Launch) (D : va_G) (cI cZ cL : ClassId) (q : Nat → Nat) (qo : Nat) {u u' : SX} {g : Nat → Int64} {rmc : Room} (p0 p1 : Int32) {v : Int32} (hrm : rmc.cells = 0 ∧ rmc.slots = 0 ∧ rmc.frames ≤ 8 ∧ rmc.locals ≤ 200) (hM : gM l yX2_fileAt wsX2_fileAt rmc D [(cI, .int), (cZ, .boolean)] (XW cI cZ q) XG [.ref (q 0), .int p0, .int p1] u (some (.int v)) u') : gW l yL_fileAt wsL_fileAt rmL0 D [(cI, .int), (cZ, .boolean), (cL, .long)] (WL cI cZ cL q qo) LE XT [.ref (q 0), .int p0, .int p1, .ref qo] (u, g) (some (.int 0)) (u', vp_updL g 0 (Int32.toInt64 v)) 0 0 := by
  refine g_startW (cc := cL_fileAt) (maxL := 5) (ret := some .int) (hh := [(0, 10, 13, 13)]) (by decide) rfl (Nat.le_of_ble_eq_true rfl) ?_
  intro p e s m below meth c A ls Q hx hb hml hret hts hown hlk hE hP hK hD hA hl hQ hS hXT htab
  have hown : s.vm.findClass RL = some m.cls := hown
  have hl : lv_has ls 5 [(0, .ref (q 0)), (1, .int p0), (2, .int p1), (3, .ref qo)] := hl
  have hK2 := hK.sub (tys' := [(cI, .int), (cZ, .boolean)]) [0, 1] rfl
  refine lv_aload_n hx hb dL_fileAt_0 rfl (lv_at hl 3 rfl) ?_
  refine lv_iconst (v := 0) hx hb dL_fileAt_1 (by decide +kernel) ?_
  refine lv_aload_n hx hb dL_fileAt_2 rfl (lv_at hl 0 rfl) ?_
  refine lv_iload_n hx hb dL_fileAt_3 rfl (lv_at hl 1 rfl) ?_
  refine lv_iload_n hx hb dL_fileAt_4 rfl (lv_at hl 2 rfl) ?_
  refine g_callVF (As := [.int p0, .int p1]) (rest := [.int 0, .ref qo]) (wr := [(qo, .inl (cL, 1, .inr (.inl g)))]) (wn := WL cI cZ cL q qo (u', g)) hx hb hml hown hts hM gL_fileAt_X2_fileAt rfl hrm.1 hrm.2.1 hdX2_fileAt ⟨Nat.le_trans (Nat.succ_le_succ hrm.2.2.1) (Nat.le_of_ble_eq_true rfl), Nat.le_trans (Nat.add_le_add_left hrm.2.2.2 _) (Nat.le_of_ble_eq_true rfl)⟩ XG_em hE.1.1 hP hK2 hD hS hA 0 rfl rfl rfl hl.1 rfl (Nat.le_of_ble_eq_true rfl) dL_fileAt_5 ⟨Nat.zero_le _, Nat.zero_le _⟩ [1, 2, 3, 4, 5, 6, 7, 8, 9, 10, 11, 12, 13, 14, 15, 16, 17] [0] [0, 1, 2, 3, 4, 5, 6, 7, 8, 9, 10, 11, 12, 13, 14, 15, 16, 17] (by decide) rfl rfl (by decide) (by decide) (by decide) rfl (fun H locs hP hD hS => ?_)
  refine W.eq (g2 := F0 m 8 ls [.int v, .int 0, .ref qo]) rfl ?_
  refine lv_i2l (v := Int32.toInt64 v) hx hb dL_fileAt_8 rfl ?_
  refine va_last (i := 0) hx hb hK hP hD hS 0 2 rfl rfl vp_in01 dL_fileAt_9 (fun H locs hP hD hS => ?_)
  have hP : va_P D vwCl (WL cI cZ cL q qo (u', vp_updL g 0 (Int32.toInt64 v))) H := hP
  have hD : va_D A (WL cI cZ cL q qo (u', vp_updL g 0 (Int32.toInt64 v))) := hD
  refine lv_goto (tgt := 17) hx hb dL_fileAt_10 (by decide) ?_
  refine lv_iconst (v := 0) hx hb dL_fileAt_17 (by decide +kernel) ?_
  refine g_iretW (u1 := (u', vp_updL g 0 (Int32.toInt64 v))) hx hb hret hlk hQ hP hD hS dL_fileAt_18 rfl ?_
  rfl
set_option maxHeartbeats 4000000 in
set_option maxRecDepth 100000 in
theorem wr_fileAt_IOO (l : Launch) (D : va_G) (cI cZ cL : ClassId) (q : Nat → Nat) (qo : Nat) {u : SX} {g : Nat → Int64} {rmc : Room} (p0 p1 : Int32) (hrm : rmc.cells = 1 ∧ rmc.slots = 6 ∧ rmc.frames ≤ 8 ∧ rmc.locals ≤ 200) (hM : gX l yX2_fileAt wsX2_fileAt rmc D [(cI, .int), (cZ, .boolean)] (XW cI cZ q) XE XT [.ref (q 0), .int p0, .int p1] u "java/lang/IndexOutOfBoundsException") : gW l yL_fileAt wsL_fileAt rmL1 D [(cI, .int), (cZ, .boolean), (cL, .long)] (WL cI cZ cL q qo) LE XT [.ref (q 0), .int p0, .int p1, .ref qo] (u, g) (some (.int 1)) (u, g) 1 6 := by
  refine g_startW (cc := cL_fileAt) (maxL := 5) (ret := some .int) (hh := [(0, 10, 13, 13)]) (by decide) rfl (Nat.le_of_ble_eq_true rfl) ?_
  intro p e s m below meth c A ls Q hx hb hml hret hts hown hlk hE hP hK hD hA hl hQ hS hXT htab
  have hown : s.vm.findClass RL = some m.cls := hown
  have hl : lv_has ls 5 [(0, .ref (q 0)), (1, .int p0), (2, .int p1), (3, .ref qo)] := hl
  have hK2 := hK.sub (tys' := [(cI, .int), (cZ, .boolean)]) [0, 1] rfl
  refine lv_aload_n hx hb dL_fileAt_0 rfl (lv_at hl 3 rfl) ?_
  refine lv_iconst (v := 0) hx hb dL_fileAt_1 (by decide +kernel) ?_
  refine lv_aload_n hx hb dL_fileAt_2 rfl (lv_at hl 0 rfl) ?_
  refine lv_iload_n hx hb dL_fileAt_3 rfl (lv_at hl 1 rfl) ?_
  refine lv_iload_n hx hb dL_fileAt_4 rfl (lv_at hl 2 rfl) ?_
  refine g_xVF (As := [.int p0, .int p1]) (rest := [.int 0, .ref qo]) (wr := [(qo, .inl (cL, 1, .inr (.inl g)))]) (wl := WL cI cZ cL q qo (u, g)) hx hb hml hown hts hM gL_fileAt_X2_fileAt rfl hrm.1 hrm.2.1 hdX2_fileAt ⟨Nat.le_trans (Nat.succ_le_succ hrm.2.2.1) (Nat.le_of_ble_eq_true rfl), Nat.le_trans (Nat.add_le_add_left hrm.2.2.2 _) (Nat.le_of_ble_eq_true rfl)⟩ XE_em hE.1 XT_tm hXT hP hK2 hD hS hA 0 rfl rfl rfl hl.1 rfl (Nat.le_of_ble_eq_true rfl) dL_fileAt_5 ⟨Nat.le_of_ble_eq_true rfl, Nat.le_of_ble_eq_true rfl⟩ [1, 2, 3, 4, 5, 6, 7, 8, 9, 10, 11, 12, 13, 14, 15, 16, 17] [0] [0, 1, 2, 3, 4, 5, 6, 7, 8, 9, 10, 11, 12, 13, 14, 15, 16, 17] (by decide) rfl rfl (by decide) (by decide) (by decide) rfl (fun ce q9 H locs hP hD hS hce hcv hcl => ?_)
  refine vx_catch (own := RL) (name := "java/lang/IndexOutOfBoundsException") hown [] (⟨0, 10, 13, 13⟩ : ExceptionTableEntry) [] htab (fun z hz => by cases hz) (by decide) (by decide) (hts _ (List.mem_of_getElem? (i := 1) (by decide +kernel))) (va_Nw.use rfl (hE.1.1.1 _ (List.mem_of_getElem? (i := 9) rfl))) hce hcv hcl ?_
  refine lv_astore (lv' := [(4, .ref q9), (0, .ref (q 0)), (1, .int p0), (2, .int p1), (3, .ref qo)]) hx hb dL_fileAt_13 hl (by decide) rfl (fun ls hl => ?_)
  refine lv_iconst (v := 1) hx hb dL_fileAt_15 (by decide +kernel) ?_
  refine W.widen (k := 1) (n := 6) (by omega) (by omega) ?_
  exact g_iretW (u1 := (u, g)) hx hb hret hlk hQ hP hD hS dL_fileAt_16 rfl rfl
set_option maxHeartbeats 4000000 in
set_option maxRecDepth 100000 in
theorem wr_fetch (l : Launch) (D : va_G) (cI cZ cL : ClassId) (q : Nat → Nat) (qo : Nat) {u u' : SX} {g : Nat → Int64} {rmc : Room} (p0 p1 p2 : Int32) {v : Int32} (hrm : rmc.cells = 0 ∧ rmc.slots = 0 ∧ rmc.frames ≤ 8 ∧ rmc.locals ≤ 200) (hM : gM l yX2_fetch wsX2_fetch rmc D [(cI, .int), (cZ, .boolean)] (XW cI cZ q) XG [.ref (q 0), .int p0, .int p1, .int p2] u (some (.int v)) u') : gW l yL_fetch wsL_fetch rmL0 D [(cI, .int), (cZ, .boolean), (cL, .long)] (WL cI cZ cL q qo) LE XT [.ref (q 0), .int p0, .int p1, .int p2, .ref qo] (u, g) (some (.int 0)) (u', vp_updL g 0 (Int32.toInt64 v)) 0 0 := by
  refine g_startW (cc := cL_fetch) (maxL := 6) (ret := some .int) (hh := [(0, 12, 15, 13), (0, 12, 19, 15), (0, 12, 23, 17)]) (by decide) rfl (Nat.le_of_ble_eq_true rfl) ?_
  intro p e s m below meth c A ls Q hx hb hml hret hts hown hlk hE hP hK hD hA hl hQ hS hXT htab
  have hown : s.vm.findClass RL = some m.cls := hown
  have hl : lv_has ls 6 [(0, .ref (q 0)), (1, .int p0), (2, .int p1), (3, .int p2), (4, .ref qo)] := hl
  have hK2 := hK.sub (tys' := [(cI, .int), (cZ, .boolean)]) [0, 1] rfl
  refine lv_aload hx hb dL_fetch_0 (lv_at hl 4 rfl) ?_
  refine lv_iconst (v := 0) hx hb dL_fetch_2 (by decide +kernel) ?_
  refine lv_aload_n hx hb dL_fetch_3 rfl (lv_at hl 0 rfl) ?_
  refine lv_iload_n hx hb dL_fetch_4 rfl (lv_at hl 1 rfl) ?_
  refine lv_iload_n hx hb dL_fetch_5 rfl (lv_at hl 2 rfl) ?_
  refine lv_iload_n hx hb dL_fetch_6 rfl (lv_at hl 3 rfl) ?_
  refine g_callVF (As := [.int p0, .int p1, .int p2]) (rest := [.int 0, .ref qo]) (wr := [(qo, .inl (cL, 1, .inr (.inl g)))]) (wn := WL cI cZ cL q qo (u', g)) hx hb hml hown hts hM gL_fetch_X2_fetch rfl hrm.1 hrm.2.1 hdX2_fetch ⟨Nat.le_trans (Nat.succ_le_succ hrm.2.2.1) (Nat.le_of_ble_eq_true rfl), Nat.le_trans (Nat.add_le_add_left hrm.2.2.2 _) (Nat.le_of_ble_eq_true rfl)⟩ XG_em hE.1.1 hP hK2 hD hS hA 0 rfl rfl rfl hl.1 rfl (Nat.le_of_ble_eq_true rfl) dL_fetch_7 ⟨Nat.zero_le _, Nat.zero_le _⟩ [1, 2, 3, 4, 5, 6, 7, 8, 9, 10, 11, 12, 13, 14, 15, 16, 17] [0] [0, 1, 2, 3, 4, 5, 6, 7, 8, 9, 10, 11, 12, 13, 14, 15, 16, 17] (by decide) rfl rfl (by decide) (by decide) (by decide) rfl (fun H locs hP hD hS => ?_)
  refine W.eq (g2 := F0 m 10 ls [.int v, .int 0, .ref qo]) rfl ?_
  refine lv_i2l (v := Int32.toInt64 v) hx hb dL_fetch_10 rfl ?_
  refine va_last (i := 0) hx hb hK hP hD hS 0 2 rfl rfl vp_in01 dL_fetch_11 (fun H locs hP hD hS => ?_)
  have hP : va_P D vwCl (WL cI cZ cL q qo (u', vp_updL g 0 (Int32.toInt64 v))) H := hP
  have hD : va_D A (WL cI cZ cL q qo (u', vp_updL g 0 (Int32.toInt64 v))) := hD
  refine lv_goto (tgt := 27) hx hb dL_fetch_12 (by decide) ?_
  refine lv_iconst (v := 0) hx hb dL_fetch_27 (by decide +kernel) ?_
  refine g_iretW (u1 := (u', vp_updL g 0 (Int32.toInt64 v))) hx hb hret hlk hQ hP hD hS dL_fetch_28 rfl ?_
  rfl
set_option maxHeartbeats 4000000 in
set_option maxRecDepth 100000 in
theorem wr_fetch_IOO (l : Launch) (D : va_G) (cI cZ cL : ClassId) (q : Nat → Nat) (qo : Nat) {u : SX} {g : Nat → Int64} {rmc : Room} (p0 p1 p2 : Int32) (hrm : rmc.cells = 1 ∧ rmc.slots = 6 ∧ rmc.frames ≤ 8 ∧ rmc.locals ≤ 200) (hM : gX l yX2_fetch wsX2_fetch rmc D [(cI, .int), (cZ, .boolean)] (XW cI cZ q) XE XT [.ref (q 0), .int p0, .int p1, .int p2] u "java/lang/IndexOutOfBoundsException") : gW l yL_fetch wsL_fetch rmL1 D [(cI, .int), (cZ, .boolean), (cL, .long)] (WL cI cZ cL q qo) LE XT [.ref (q 0), .int p0, .int p1, .int p2, .ref qo] (u, g) (some (.int 1)) (u, g) 1 6 := by
  refine g_startW (cc := cL_fetch) (maxL := 6) (ret := some .int) (hh := [(0, 12, 15, 13), (0, 12, 19, 15), (0, 12, 23, 17)]) (by decide) rfl (Nat.le_of_ble_eq_true rfl) ?_
  intro p e s m below meth c A ls Q hx hb hml hret hts hown hlk hE hP hK hD hA hl hQ hS hXT htab
  have hown : s.vm.findClass RL = some m.cls := hown
  have hl : lv_has ls 6 [(0, .ref (q 0)), (1, .int p0), (2, .int p1), (3, .int p2), (4, .ref qo)] := hl
  have hK2 := hK.sub (tys' := [(cI, .int), (cZ, .boolean)]) [0, 1] rfl
  refine lv_aload hx hb dL_fetch_0 (lv_at hl 4 rfl) ?_
  refine lv_iconst (v := 0) hx hb dL_fetch_2 (by decide +kernel) ?_
  refine lv_aload_n hx hb dL_fetch_3 rfl (lv_at hl 0 rfl) ?_
  refine lv_iload_n hx hb dL_fetch_4 rfl (lv_at hl 1 rfl) ?_
  refine lv_iload_n hx hb dL_fetch_5 rfl (lv_at hl 2 rfl) ?_
  refine lv_iload_n hx hb dL_fetch_6 rfl (lv_at hl 3 rfl) ?_
  refine g_xVF (As := [.int p0, .int p1, .int p2]) (rest := [.int 0, .ref qo]) (wr := [(qo, .inl (cL, 1, .inr (.inl g)))]) (wl := WL cI cZ cL q qo (u, g)) hx hb hml hown hts hM gL_fetch_X2_fetch rfl hrm.1 hrm.2.1 hdX2_fetch ⟨Nat.le_trans (Nat.succ_le_succ hrm.2.2.1) (Nat.le_of_ble_eq_true rfl), Nat.le_trans (Nat.add_le_add_left hrm.2.2.2 _) (Nat.le_of_ble_eq_true rfl)⟩ XE_em hE.1 XT_tm hXT hP hK2 hD hS hA 0 rfl rfl rfl hl.1 rfl (Nat.le_of_ble_eq_true rfl) dL_fetch_7 ⟨Nat.le_of_ble_eq_true rfl, Nat.le_of_ble_eq_true rfl⟩ [1, 2, 3, 4, 5, 6, 7, 8, 9, 10, 11, 12, 13, 14, 15, 16, 17] [0] [0, 1, 2, 3, 4, 5, 6, 7, 8, 9, 10, 11, 12, 13, 14, 15, 16, 17] (by decide) rfl rfl (by decide) (by decide) (by decide) rfl (fun ce q9 H locs hP hD hS hce hcv hcl => ?_)
  refine vx_catch (own := RL) (name := "java/lang/IndexOutOfBoundsException") hown [] (⟨0, 12, 15, 13⟩ : ExceptionTableEntry) [(⟨0, 12, 19, 15⟩ : ExceptionTableEntry), (⟨0, 12, 23, 17⟩ : ExceptionTableEntry)] htab (fun z hz => by cases hz) (by decide) (by decide) (hts _ (List.mem_of_getElem? (i := 1) (by decide +kernel))) (va_Nw.use rfl (hE.1.1.1 _ (List.mem_of_getElem? (i := 9) rfl))) hce hcv hcl ?_
  refine lv_astore (lv' := [(5, .ref q9), (0, .ref (q 0)), (1, .int p0), (2, .int p1), (3, .int p2), (4, .ref qo)]) hx hb dL_fetch_15 hl (by decide) rfl (fun ls hl => ?_)
  refine lv_iconst (v := 1) hx hb dL_fetch_17 (by decide +kernel) ?_
  refine W.widen (k := 1) (n := 6) (by omega) (by omega) ?_
  exact g_iretW (u1 := (u, g)) hx hb hret hlk hQ hP hD hS dL_fetch_18 rfl rfl
set_option maxHeartbeats 4000000 in
set_option maxRecDepth 100000 in
theorem wr_fetch_IAE (l : Launch) (D : va_G) (cI cZ cL : ClassId) (q : Nat → Nat) (qo : Nat) {u : SX} {g : Nat → Int64} {rmc : Room} (p0 p1 p2 : Int32) (hrm : rmc.cells = 1 ∧ rmc.slots = 6 ∧ rmc.frames ≤ 8 ∧ rmc.locals ≤ 200) (hM : gX l yX2_fetch wsX2_fetch rmc D [(cI, .int), (cZ, .boolean)] (XW cI cZ q) XE XT [.ref (q 0), .int p0, .int p1, .int p2] u "java/lang/IllegalArgumentException") : gW l yL_fetch wsL_fetch rmL1 D [(cI, .int), (cZ, .boolean), (cL, .long)] (WL cI cZ cL q qo) LE XT [.ref (q 0), .int p0, .int p1, .int p2, .ref qo] (u, g) (some (.int 2)) (u, g) 1 6 := by
  refine g_startW (cc := cL_fetch) (maxL := 6) (ret := some .int) (hh := [(0, 12, 15, 13), (0, 12, 19, 15), (0, 12, 23, 17)]) (by decide) rfl (Nat.le_of_ble_eq_true rfl) ?_
  intro p e s m below meth c A ls Q hx hb hml hret hts hown hlk hE hP hK hD hA hl hQ hS hXT htab
  have hown : s.vm.findClass RL = some m.cls := hown
  have hl : lv_has ls 6 [(0, .ref (q 0)), (1, .int p0), (2, .int p1), (3, .int p2), (4, .ref qo)] := hl
  have hK2 := hK.sub (tys' := [(cI, .int), (cZ, .boolean)]) [0, 1] rfl
  refine lv_aload hx hb dL_fetch_0 (lv_at hl 4 rfl) ?_
  refine lv_iconst (v := 0) hx hb dL_fetch_2 (by decide +kernel) ?_
  refine lv_aload_n hx hb dL_fetch_3 rfl (lv_at hl 0 rfl) ?_
  refine lv_iload_n hx hb dL_fetch_4 rfl (lv_at hl 1 rfl) ?_
  refine lv_iload_n hx hb dL_fetch_5 rfl (lv_at hl 2 rfl) ?_
  refine lv_iload_n hx hb dL_fetch_6 rfl (lv_at hl 3 rfl) ?_
  refine g_xVF (As := [.int p0, .int p1, .int p2]) (rest := [.int 0, .ref qo]) (wr := [(qo, .inl (cL, 1, .inr (.inl g)))]) (wl := WL cI cZ cL q qo (u, g)) hx hb hml hown hts hM gL_fetch_X2_fetch rfl hrm.1 hrm.2.1 hdX2_fetch ⟨Nat.le_trans (Nat.succ_le_succ hrm.2.2.1) (Nat.le_of_ble_eq_true rfl), Nat.le_trans (Nat.add_le_add_left hrm.2.2.2 _) (Nat.le_of_ble_eq_true rfl)⟩ XE_em hE.1 XT_tm hXT hP hK2 hD hS hA 0 rfl rfl rfl hl.1 rfl (Nat.le_of_ble_eq_true rfl) dL_fetch_7 ⟨Nat.le_of_ble_eq_true rfl, Nat.le_of_ble_eq_true rfl⟩ [1, 2, 3, 4, 5, 6, 7, 8, 9, 10, 11, 12, 13, 14, 15, 16, 17] [0] [0, 1, 2, 3, 4, 5, 6, 7, 8, 9, 10, 11, 12, 13, 14, 15, 16, 17] (by decide) rfl rfl (by decide) (by decide) (by decide) rfl (fun ce q9 H locs hP hD hS hce hcv hcl => ?_)
  refine vx_catch (own := RL) (name := "java/lang/IllegalArgumentException") hown [(⟨0, 12, 15, 13⟩ : ExceptionTableEntry)] (⟨0, 12, 19, 15⟩ : ExceptionTableEntry) [(⟨0, 12, 23, 17⟩ : ExceptionTableEntry)] htab (List.forall_mem_cons.mpr ⟨Or.inr ⟨by decide, "java/lang/IndexOutOfBoundsException", hts _ (List.mem_of_getElem? (i := 1) (by decide +kernel)), hE.2.1⟩, fun z hz => by cases hz⟩) (by decide) (by decide) (hts _ (List.mem_of_getElem? (i := 2) (by decide +kernel))) (va_Nw.use rfl (hE.1.1.1 _ (List.mem_of_getElem? (i := 10) rfl))) hce hcv hcl ?_
  refine lv_astore (lv' := [(5, .ref q9), (0, .ref (q 0)), (1, .int p0), (2, .int p1), (3, .int p2), (4, .ref qo)]) hx hb dL_fetch_19 hl (by decide) rfl (fun ls hl => ?_)
  refine lv_iconst (v := 2) hx hb dL_fetch_21 (by decide +kernel) ?_
  refine W.widen (k := 1) (n := 6) (by omega) (by omega) ?_
  exact g_iretW (u1 := (u, g)) hx hb hret hlk hQ hP hD hS dL_fetch_22 rfl rfl
set_option maxHeartbeats 4000000 in
set_option maxRecDepth 100000 in
theorem wr_fetch_ISE (l : Launch) (D : va_G) (cI cZ cL : ClassId) (q : Nat → Nat) (qo : Nat) {u : SX} {g : Nat → Int64} {rmc : Room} (p0 p1 p2 : Int32) (hrm : rmc.cells = 1 ∧ rmc.slots = 6 ∧ rmc.frames ≤ 8 ∧ rmc.locals ≤ 200) (hM : gX l yX2_fetch wsX2_fetch rmc D [(cI, .int), (cZ, .boolean)] (XW cI cZ q) XE XT [.ref (q 0), .int p0, .int p1, .int p2] u "java/lang/IllegalStateException") : gW l yL_fetch wsL_fetch rmL1 D [(cI, .int), (cZ, .boolean), (cL, .long)] (WL cI cZ cL q qo) LE XT [.ref (q 0), .int p0, .int p1, .int p2, .ref qo] (u, g) (some (.int 3)) (u, g) 1 6 := by
  refine g_startW (cc := cL_fetch) (maxL := 6) (ret := some .int) (hh := [(0, 12, 15, 13), (0, 12, 19, 15), (0, 12, 23, 17)]) (by decide) rfl (Nat.le_of_ble_eq_true rfl) ?_
  intro p e s m below meth c A ls Q hx hb hml hret hts hown hlk hE hP hK hD hA hl hQ hS hXT htab
  have hown : s.vm.findClass RL = some m.cls := hown
  have hl : lv_has ls 6 [(0, .ref (q 0)), (1, .int p0), (2, .int p1), (3, .int p2), (4, .ref qo)] := hl
  have hK2 := hK.sub (tys' := [(cI, .int), (cZ, .boolean)]) [0, 1] rfl
  refine lv_aload hx hb dL_fetch_0 (lv_at hl 4 rfl) ?_
  refine lv_iconst (v := 0) hx hb dL_fetch_2 (by decide +kernel) ?_
  refine lv_aload_n hx hb dL_fetch_3 rfl (lv_at hl 0 rfl) ?_
  refine lv_iload_n hx hb dL_fetch_4 rfl (lv_at hl 1 rfl) ?_
  refine lv_iload_n hx hb dL_fetch_5 rfl (lv_at hl 2 rfl) ?_
  refine lv_iload_n hx hb dL_fetch_6 rfl (lv_at hl 3 rfl) ?_
  refine g_xVF (As := [.int p0, .int p1, .int p2]) (rest := [.int 0, .ref qo]) (wr := [(qo, .inl (cL, 1, .inr (.inl g)))]) (wl := WL cI cZ cL q qo (u, g)) hx hb hml hown hts hM gL_fetch_X2_fetch rfl hrm.1 hrm.2.1 hdX2_fetch ⟨Nat.le_trans (Nat.succ_le_succ hrm.2.2.1) (Nat.le_of_ble_eq_true rfl), Nat.le_trans (Nat.add_le_add_left hrm.2.2.2 _) (Nat.le_of_ble_eq_true rfl)⟩ XE_em hE.1 XT_tm hXT hP hK2 hD hS hA 0 rfl rfl rfl hl.1 rfl (Nat.le_of_ble_eq_true rfl) dL_fetch_7 ⟨Nat.le_of_ble_eq_true rfl, Nat.le_of_ble_eq_true rfl⟩ [1, 2, 3, 4, 5, 6, 7, 8, 9, 10, 11, 12, 13, 14, 15, 16, 17] [0] [0, 1, 2, 3, 4, 5, 6, 7, 8, 9, 10, 11, 12, 13, 14, 15, 16, 17] (by decide) rfl rfl (by decide) (by decide) (by decide) rfl (fun ce q9 H locs hP hD hS hce hcv hcl => ?_)
  refine vx_catch (own := RL) (name := "java/lang/IllegalStateException") hown [(⟨0, 12, 15, 13⟩ : ExceptionTableEntry), (⟨0, 12, 19, 15⟩ : ExceptionTableEntry)] (⟨0, 12, 23, 17⟩ : ExceptionTableEntry) [] htab (List.forall_mem_cons.mpr ⟨Or.inr ⟨by decide, "java/lang/IndexOutOfBoundsException", hts _ (List.mem_of_getElem? (i := 1) (by decide +kernel)), hE.2.2.1⟩, (List.forall_mem_cons.mpr ⟨Or.inr ⟨by decide, "java/lang/IllegalArgumentException", hts _ (List.mem_of_getElem? (i := 2) (by decide +kernel)), hE.2.2.2⟩, fun z hz => by cases hz⟩)⟩) (by decide) (by decide) (hts _ (List.mem_of_getElem? (i := 3) (by decide +kernel))) (va_Nw.use rfl (hE.1.1.1 _ (List.mem_of_getElem? (i := 11) rfl))) hce hcv hcl ?_
  refine lv_astore (lv' := [(5, .ref q9), (0, .ref (q 0)), (1, .int p0), (2, .int p1), (3, .int p2), (4, .ref qo)]) hx hb dL_fetch_23 hl (by decide) rfl (fun ls hl => ?_)
  refine lv_iconst (v := 3) hx hb dL_fetch_25 (by decide +kernel) ?_
  refine W.widen (k := 1) (n := 6) (by omega) (by omega) ?_
  exact g_iretW (u1 := (u, g)) hx hb hret hlk hQ hP hD hS dL_fetch_26 rfl rfl
set_option maxHeartbeats 4000000 in
set_option maxRecDepth 100000 in
theorem wr_wouldFetch (l : Launch) (D : va_G) (cI cZ cL : ClassId) (q : Nat → Nat) (qo : Nat) {u u' : SX} {g : Nat → Int64} {rmc : Room} (p0 p1 : Int32) {v : Int32} (hrm : rmc.cells = 0 ∧ rmc.slots = 0 ∧ rmc.frames ≤ 8 ∧ rmc.locals ≤ 200) (hM : gM l yX2_wouldFetch wsX2_wouldFetch rmc D [(cI, .int), (cZ, .boolean)] (XW cI cZ q) XG [.ref (q 0), .int p0, .int p1] u (some (.int v)) u') : gW l yL_wouldFetch wsL_wouldFetch rmL0 D [(cI, .int), (cZ, .boolean), (cL, .long)] (WL cI cZ cL q qo) LE XT [.ref (q 0), .int p0, .int p1, .ref qo] (u, g) (some (.int 0)) (u', vp_updL g 0 (Int32.toInt64 v)) 0 0 := by
  refine g_startW (cc := cL_wouldFetch) (maxL := 5) (ret := some .int) (hh := [(0, 10, 13, 13), (0, 10, 17, 15), (0, 10, 21, 17)]) (by decide) rfl (Nat.le_of_ble_eq_true rfl) ?_
  intro p e s m below meth c A ls Q hx hb hml hret hts hown hlk hE hP hK hD hA hl hQ hS hXT htab
  have hown : s.vm.findClass RL = some m.cls := hown
  have hl : lv_has ls 5 [(0, .ref (q 0)), (1, .int p0), (2, .int p1), (3, .ref qo)] := hl
  have hK2 := hK.sub (tys' := [(cI, .int), (cZ, .boolean)]) [0, 1] rfl
  refine lv_aload_n hx hb dL_wouldFetch_0 rfl (lv_at hl 3 rfl) ?_
  refine lv_iconst (v := 0) hx hb dL_wouldFetch_1 (by decide +kernel) ?_
  refine lv_aload_n hx hb dL_wouldFetch_2 rfl (lv_at hl 0 rfl) ?_
  refine lv_iload_n hx hb dL_wouldFetch_3 rfl (lv_at hl 1 rfl) ?_
  refine lv_iload_n hx hb dL_wouldFetch_4 rfl (lv_at hl 2 rfl) ?_
  refine g_callVF (As := [.int p0, .int p1]) (rest := [.int 0, .ref qo]) (wr := [(qo, .inl (cL, 1, .inr (.inl g)))]) (wn := WL cI cZ cL q qo (u', g)) hx hb hml hown hts hM gL_wouldFetch_X2_wouldFetch rfl hrm.1 hrm.2.1 hdX2_wouldFetch ⟨Nat.le_trans (Nat.succ_le_succ hrm.2.2.1) (Nat.le_of_ble_eq_true rfl), Nat.le_trans (Nat.add_le_add_left hrm.2.2.2 _) (Nat.le_of_ble_eq_true rfl)⟩ XG_em hE.1.1 hP hK2 hD hS hA 0 rfl rfl rfl hl.1 rfl (Nat.le_of_ble_eq_true rfl) dL_wouldFetch_5 ⟨Nat.zero_le _, Nat.zero_le _⟩ [1, 2, 3, 4, 5, 6, 7, 8, 9, 10, 11, 12, 13, 14, 15, 16, 17] [0] [0, 1, 2, 3, 4, 5, 6, 7, 8, 9, 10, 11, 12, 13, 14, 15, 16, 17] (by decide) rfl rfl (by decide) (by decide) (by decide) rfl (fun H locs hP hD hS => ?_)
  refine W.eq (g2 := F0 m 8 ls [.int v, .int 0, .ref qo]) rfl ?_
  refine lv_i2l (v := Int32.toInt64 v) hx hb dL_wouldFetch_8 rfl ?_
  refine va_last (i := 0) hx hb hK hP hD hS 0 2 rfl rfl vp_in01 dL_wouldFetch_9 (fun H locs hP hD hS => ?_)
  have hP : va_P D vwCl (WL cI cZ cL q qo (u', vp_updL g 0 (Int32.toInt64 v))) H := hP
  have hD : va_D A (WL cI cZ cL q qo (u', vp_updL g 0 (Int32.toInt64 v))) := hD
  refine lv_goto (tgt := 25) hx hb dL_wouldFetch_10 (by decide) ?_
  refine lv_iconst (v := 0) hx hb dL_wouldFetch_25 (by decide +kernel) ?_
  refine g_iretW (u1 := (u', vp_updL g 0 (Int32.toInt64 v))) hx hb hret hlk hQ hP hD hS dL_wouldFetch_26 rfl ?_
  rfl
set_option maxHeartbeats 4000000 in
set_option maxRecDepth 100000 in
theorem wr_wouldFetch_IOO (l : Launch) (D : va_G) (cI cZ cL : ClassId) (q : Nat → Nat) (qo : Nat) {u : SX} {g : Nat → Int64} {rmc : Room} (p0 p1 : Int32) (hrm : rmc.cells = 1 ∧ rmc.slots = 6 ∧ rmc.frames ≤ 8 ∧ rmc.locals ≤ 200) (hM : gX l yX2_wouldFetch wsX2_wouldFetch rmc D [(cI, .int), (cZ, .boolean)] (XW cI cZ q) XE XT [.ref (q 0), .int p0, .int p1] u "java/lang/IndexOutOfBoundsException") : gW l yL_wouldFetch wsL_wouldFetch rmL1 D [(cI, .int), (cZ, .boolean), (cL, .long)] (WL cI cZ cL q qo) LE XT [.ref (q 0), .int p0, .int p1, .ref qo] (u, g) (some (.int 1)) (u, g) 1 6 := by
  refine g_startW (cc := cL_wouldFetch) (maxL := 5) (ret := some .int) (hh := [(0, 10, 13, 13), (0, 10, 17, 15), (0, 10, 21, 17)]) (by decide) rfl (Nat.le_of_ble_eq_true rfl) ?_
  intro p e s m below meth c A ls Q hx hb hml hret hts hown hlk hE hP hK hD hA hl hQ hS hXT htab
  have hown : s.vm.findClass RL = some m.cls := hown
  have hl : lv_has ls 5 [(0, .ref (q 0)), (1, .int p0), (2, .int p1), (3, .ref qo)] := hl
  have hK2 := hK.sub (tys' := [(cI, .int), (cZ, .boolean)]) [0, 1] rfl
  refine lv_aload_n hx hb dL_wouldFetch_0 rfl (lv_at hl 3 rfl) ?_
  refine lv_iconst (v := 0) hx hb dL_wouldFetch_1 (by decide +kernel) ?_
  refine lv_aload_n hx hb dL_wouldFetch_2 rfl (lv_at hl 0 rfl) ?_
  refine lv_iload_n hx hb dL_wouldFetch_3 rfl (lv_at hl 1 rfl) ?_
  refine lv_iload_n hx hb dL_wouldFetch_4 rfl (lv_at hl 2 rfl) ?_
  refine g_xVF (As := [.int p0, .int p1]) (rest := [.int 0, .ref qo]) (wr := [(qo, .inl (cL, 1, .inr (.inl g)))]) (wl := WL cI cZ cL q qo (u, g)) hx hb hml hown hts hM gL_wouldFetch_X2_wouldFetch rfl hrm.1 hrm.2.1 hdX2_wouldFetch ⟨Nat.le_trans (Nat.succ_le_succ hrm.2.2.1) (Nat.le_of_ble_eq_true rfl), Nat.le_trans (Nat.add_le_add_left hrm.2.2.2 _) (Nat.le_of_ble_eq_true rfl)⟩ XE_em hE.1 XT_tm hXT hP hK2 hD hS hA 0 rfl rfl rfl hl.1 rfl (Nat.le_of_ble_eq_true rfl) dL_wouldFetch_5 ⟨Nat.le_of_ble_eq_true rfl, Nat.le_of_ble_eq_true rfl⟩ [1, 2, 3, 4, 5, 6, 7, 8, 9, 10, 11, 12, 13, 14, 15, 16, 17] [0] [0, 1, 2, 3, 4, 5, 6, 7, 8, 9, 10, 11, 12, 13, 14, 15, 16, 17] (by decide) rfl rfl (by decide) (by decide) (by decide) rfl (fun ce q9 H locs hP hD hS hce hcv hcl => ?_)
  refine vx_catch (own := RL) (name := "java/lang/IndexOutOfBoundsException") hown [] (⟨0, 10, 13, 13⟩ : ExceptionTableEntry) [(⟨0, 10, 17, 15⟩ : ExceptionTableEntry), (⟨0, 10, 21, 17⟩ : ExceptionTableEntry)] htab (fun z hz => by cases hz) (by decide) (by decide) (hts _ (List.mem_of_getElem? (i := 1) (by decide +kernel))) (va_Nw.use rfl (hE.1.1.1 _ (List.mem_of_getElem? (i := 9) rfl))) hce hcv hcl ?_
  refine lv_astore (lv' := [(4, .ref q9), (0, .ref (q 0)), (1, .int p0), (2, .int p1), (3, .ref qo)]) hx hb dL_wouldFetch_13 hl (by decide) rfl (fun ls hl => ?_)
  refine lv_iconst (v := 1) hx hb dL_wouldFetch_15 (by decide +kernel) ?_
  refine W.widen (k := 1) (n := 6) (by omega) (by omega) ?_
  exact g_iretW (u1 := (u, g)) hx hb hret hlk hQ hP hD hS dL_wouldFetch_16 rfl rfl
set_option maxHeartbeats 4000000 in
set_option maxRecDepth 100000 in
theorem wr_wouldFetch_IAE (l : Launch) (D : va_G) (cI cZ cL : ClassId) (q : Nat → Nat) (qo : Nat) {u : SX} {g : Nat → Int64} {rmc : Room} (p0 p1 : Int32) (hrm : rmc.cells = 1 ∧ rmc.slots = 6 ∧ rmc.frames ≤ 8 ∧ rmc.locals ≤ 200) (hM : gX l yX2_wouldFetch wsX2_wouldFetch rmc D [(cI, .int), (cZ, .boolean)] (XW cI cZ q) XE XT [.ref (q 0), .int p0, .int p1] u "java/lang/IllegalArgumentException") : gW l yL_wouldFetch wsL_wouldFetch rmL1 D [(cI, .int), (cZ, .boolean), (cL, .long)] (WL cI cZ cL q qo) LE XT [.ref (q 0), .int p0, .int p1, .ref qo] (u, g) (some (.int 2)) (u, g) 1 6 := by
  refine g_startW (cc := cL_wouldFetch) (maxL := 5) (ret := some .int) (hh := [(0, 10, 13, 13), (0, 10, 17, 15), (0, 10, 21, 17)]) (by decide) rfl (Nat.le_of_ble_eq_true rfl) ?_
  intro p e s m below meth c A ls Q hx hb hml hret hts hown hlk hE hP hK hD hA hl hQ hS hXT htab
  have hown : s.vm.findClass RL = some m.cls := hown
  have hl : lv_has ls 5 [(0, .ref (q 0)), (1, .int p0), (2, .int p1), (3, .ref qo)] := hl
  have hK2 := hK.sub (tys' := [(cI, .int), (cZ, .boolean)]) [0, 1] rfl
  refine lv_aload_n hx hb dL_wouldFetch_0 rfl (lv_at hl 3 rfl) ?_
  refine lv_iconst (v := 0) hx hb dL_wouldFetch_1 (by decide +kernel) ?_
  refine lv_aload_n hx hb dL_wouldFetch_2 rfl (lv_at hl 0 rfl) ?_
  refine lv_iload_n hx hb dL_wouldFetch_3 rfl (lv_at hl 1 rfl) ?_
  refine lv_iload_n hx hb dL_wouldFetch_4 rfl (lv_at hl 2 rfl) ?_
  refine g_xVF (As := [.int p0, .int p1]) (rest := [.int 0, .ref qo]) (wr := [(qo, .inl (cL, 1, .inr (.inl g)))]) (wl := WL cI cZ cL q qo (u, g)) hx hb hml hown hts hM gL_wouldFetch_X2_wouldFetch rfl hrm.1 hrm.2.1 hdX2_wouldFetch ⟨Nat.le_trans (Nat.succ_le_succ hrm.2.2.1) (Nat.le_of_ble_eq_true rfl), Nat.le_trans (Nat.add_le_add_left hrm.2.2.2 _) (Nat.le_of_ble_eq_true rfl)⟩ XE_em hE.1 XT_tm hXT hP hK2 hD hS hA 0 rfl rfl rfl hl.1 rfl (Nat.le_of_ble_eq_true rfl) dL_wouldFetch_5 ⟨Nat.le_of_ble_eq_true rfl, Nat.le_of_ble_eq_true rfl⟩ [1, 2, 3, 4, 5, 6, 7, 8, 9, 10, 11, 12, 13, 14, 15, 16, 17] [0] [0, 1, 2, 3, 4, 5, 6, 7, 8, 9, 10, 11, 12, 13, 14, 15, 16, 17] (by decide) rfl rfl (by decide) (by decide) (by decide) rfl (fun ce q9 H locs hP hD hS hce hcv hcl => ?_)
  refine vx_catch (own := RL) (name := "java/lang/IllegalArgumentException") hown [(⟨0, 10, 13, 13⟩ : ExceptionTableEntry)] (⟨0, 10, 17, 15⟩ : ExceptionTableEntry) [(⟨0, 10, 21, 17⟩ : ExceptionTableEntry)] htab (List.forall_mem_cons.mpr ⟨Or.inr ⟨by decide, "java/lang/IndexOutOfBoundsException", hts _ (List.mem_of_getElem? (i := 1) (by decide +kernel)), hE.2.1⟩, fun z hz => by cases hz⟩) (by decide) (by decide) (hts _ (List.mem_of_getElem? (i := 2) (by decide +kernel))) (va_Nw.use rfl (hE.1.1.1 _ (List.mem_of_getElem? (i := 10) rfl))) hce hcv hcl ?_
  refine lv_astore (lv' := [(4, .ref q9), (0, .ref (q 0)), (1, .int p0), (2, .int p1), (3, .ref qo)]) hx hb dL_wouldFetch_17 hl (by decide) rfl (fun ls hl => ?_)
  refine lv_iconst (v := 2) hx hb dL_wouldFetch_19 (by decide +kernel) ?_
  refine W.widen (k := 1) (n := 6) (by omega) (by omega) ?_
  exact g_iretW (u1 := (u, g)) hx hb hret hlk hQ hP hD hS dL_wouldFetch_20 rfl rfl
set_option maxHeartbeats 4000000 in
set_option maxRecDepth 100000 in
theorem wr_wouldFetch_ISE (l : Launch) (D : va_G) (cI cZ cL : ClassId) (q : Nat → Nat) (qo : Nat) {u : SX} {g : Nat → Int64} {rmc : Room} (p0 p1 : Int32) (hrm : rmc.cells = 1 ∧ rmc.slots = 6 ∧ rmc.frames ≤ 8 ∧ rmc.locals ≤ 200) (hM : gX l yX2_wouldFetch wsX2_wouldFetch rmc D [(cI, .int), (cZ, .boolean)] (XW cI cZ q) XE XT [.ref (q 0), .int p0, .int p1] u "java/lang/IllegalStateException") : gW l yL_wouldFetch wsL_wouldFetch rmL1 D [(cI, .int), (cZ, .boolean), (cL, .long)] (WL cI cZ cL q qo) LE XT [.ref (q 0), .int p0, .int p1, .ref qo] (u, g) (some (.int 3)) (u, g) 1 6 := by
  refine g_startW (cc := cL_wouldFetch) (maxL := 5) (ret := some .int) (hh := [(0, 10, 13, 13), (0, 10, 17, 15), (0, 10, 21, 17)]) (by decide) rfl (Nat.le_of_ble_eq_true rfl) ?_
  intro p e s m below meth c A ls Q hx hb hml hret hts hown hlk hE hP hK hD hA hl hQ hS hXT htab
  have hown : s.vm.findClass RL = some m.cls := hown
  have hl : lv_has ls 5 [(0, .ref (q 0)), (1, .int p0), (2, .int p1), (3, .ref qo)] := hl
  have hK2 := hK.sub (tys' := [(cI, .int), (cZ, .boolean)]) [0, 1] rfl
  refine lv_aload_n hx hb dL_wouldFetch_0 rfl (lv_at hl 3 rfl) ?_
  refine lv_iconst (v := 0) hx hb dL_wouldFetch_1 (by decide +kernel) ?_
  refine lv_aload_n hx hb dL_wouldFetch_2 rfl (lv_at hl 0 rfl) ?_
  refine lv_iload_n hx hb dL_wouldFetch_3 rfl (lv_at hl 1 rfl) ?_
  refine lv_iload_n hx hb dL_wouldFetch_4 rfl (lv_at hl 2 rfl) ?_
  refine g_xVF (As := [.int p0, .int p1]) (rest := [.int 0, .ref qo]) (wr := [(qo, .inl (cL, 1, .inr (.inl g)))]) (wl := WL cI cZ cL q qo (u, g)) hx hb hml hown hts hM gL_wouldFetch_X2_wouldFetch rfl hrm.1 hrm.2.1 hdX2_wouldFetch ⟨Nat.le_trans (Nat.succ_le_succ hrm.2.2.1) (Nat.le_of_ble_eq_true rfl), Nat.le_trans (Nat.add_le_add_left hrm.2.2.2 _) (Nat.le_of_ble_eq_true rfl)⟩ XE_em hE.1 XT_tm hXT hP hK2 hD hS hA 0 rfl rfl rfl hl.1 rfl (Nat.le_of_ble_eq_true rfl) dL_wouldFetch_5 ⟨Nat.le_of_ble_eq_true rfl, Nat.le_of_ble_eq_true rfl⟩ [1, 2, 3, 4, 5, 6, 7, 8, 9, 10, 11, 12, 13, 14, 15, 16, 17] [0] [0, 1, 2, 3, 4, 5, 6, 7, 8, 9, 10, 11, 12, 13, 14, 15, 16, 17] (by decide) rfl rfl (by decide) (by decide) (by decide) rfl (fun ce q9 H locs hP hD hS hce hcv hcl => ?_)
  refine vx_catch (own := RL) (name := "java/lang/IllegalStateException") hown [(⟨0, 10, 13, 13⟩ : ExceptionTableEntry), (⟨0, 10, 17, 15⟩ : ExceptionTableEntry)] (⟨0, 10, 21, 17⟩ : ExceptionTableEntry) [] htab (List.forall_mem_cons.mpr ⟨Or.inr ⟨by decide, "java/lang/IndexOutOfBoundsException", hts _ (List.mem_of_getElem? (i := 1) (by decide +kernel)), hE.2.2.1⟩, (List.forall_mem_cons.mpr ⟨Or.inr ⟨by decide, "java/lang/IllegalArgumentException", hts _ (List.mem_of_getElem? (i := 2) (by decide +kernel)), hE.2.2.2⟩, fun z hz => by cases hz⟩)⟩) (by decide) (by decide) (hts _ (List.mem_of_getElem? (i := 3) (by decide +kernel))) (va_Nw.use rfl (hE.1.1.1 _ (List.mem_of_getElem? (i := 11) rfl))) hce hcv hcl ?_
  refine lv_astore (lv' := [(4, .ref q9), (0, .ref (q 0)), (1, .int p0), (2, .int p1), (3, .ref qo)]) hx hb dL_wouldFetch_21 hl (by decide) rfl (fun ls hl => ?_)
  refine lv_iconst (v := 3) hx hb dL_wouldFetch_23 (by decide +kernel) ?_
  refine W.widen (k := 1) (n := 6) (by omega) (by omega) ?_
  exact g_iretW (u1 := (u, g)) hx hb hret hlk hQ hP hD hS dL_wouldFetch_24 rfl rfl
set_option maxHeartbeats 4000000 in
set_option maxRecDepth 100000 in
theorem wr_load (l : Launch) (D : va_G) (cI cZ cL : ClassId) (q : Nat → Nat) (qo : Nat) {u u' : SX} {g : Nat → Int64} {rmc : Room} (p0 : Int32) {v : Int32} (hrm : rmc.cells = 0 ∧ rmc.slots = 0 ∧ rmc.frames ≤ 8 ∧ rmc.locals ≤ 200) (hM : gM l yX2_load wsX2_load rmc D [(cI, .int), (cZ, .boolean)] (XW cI cZ q) XG [.ref (q 0), .int p0] u (some (.int v)) u') : gW l yL_load wsL_load rmL0 D [(cI, .int), (cZ, .boolean), (cL, .long)] (WL cI cZ cL q qo) LE XT [.ref (q 0), .int p0, .ref qo] (u, g) (some (.int 0)) (u', vp_updL g 0 (bL v)) 0 0 := by
  refine g_startW (cc := cL_load) (maxL := 4) (ret := some .int) (hh := [(0, 16, 19, 15), (0, 16, 22, 17)]) (by decide) rfl (Nat.le_of_ble_eq_true rfl) ?_
  intro p e s m below meth c A ls Q hx hb hml hret hts hown hlk hE hP hK hD hA hl hQ hS hXT htab
  have hown : s.vm.findClass RL = some m.cls := hown
  have hl : lv_has ls 4 [(0, .ref (q 0)), (1, .int p0), (2, .ref qo)] := hl
  have hK2 := hK.sub (tys' := [(cI, .int), (cZ, .boolean)]) [0, 1] rfl
  refine lv_aload_n hx hb dL_load_0 rfl (lv_at hl 2 rfl) ?_
  refine lv_iconst (v := 0) hx hb dL_load_1 (by decide +kernel) ?_
  refine lv_aload_n hx hb dL_load_2 rfl (lv_at hl 0 rfl) ?_
  refine lv_iload_n hx hb dL_load_3 rfl (lv_at hl 1 rfl) ?_
  refine g_callVF (As := [.int p0]) (rest := [.int 0, .ref qo]) (wr := [(qo, .inl (cL, 1, .inr (.inl g)))]) (wn := WL cI cZ cL q qo (u', g)) hx hb hml hown hts hM gL_load_X2_load rfl hrm.1 hrm.2.1 hdX2_load ⟨Nat.le_trans (Nat.succ_le_succ hrm.2.2.1) (Nat.le_of_ble_eq_true rfl), Nat.le_trans (Nat.add_le_add_left hrm.2.2.2 _) (Nat.le_of_ble_eq_true rfl)⟩ XG_em hE.1.1 hP hK2 hD hS hA 0 rfl rfl rfl hl.1 rfl (Nat.le_of_ble_eq_true rfl) dL_load_4 ⟨Nat.zero_le _, Nat.zero_le _⟩ [1, 2, 3, 4, 5, 6, 7, 8, 9, 10, 11, 12, 13, 14, 15, 16, 17] [0] [0, 1, 2, 3, 4, 5, 6, 7, 8, 9, 10, 11, 12, 13, 14, 15, 16, 17] (by decide) rfl rfl (by decide) (by decide) (by decide) rfl (fun H locs hP hD hS => ?_)
  refine W.eq (g2 := F0 m 7 ls [.int v, .int 0, .ref qo]) rfl ?_
  refine lv_if_eq (tgt := 14) hx hb dL_load_7 (by decide) (fun c_1 => ?_) (fun c_1 => ?_)
  · refine lv_lconst (v := 0) hx hb dL_load_14 (by decide +kernel) ?_
    refine va_last (i := 0) hx hb hK hP hD hS 0 2 rfl rfl vp_in01 dL_load_15 (fun H locs hP hD hS => ?_)
    have hP : va_P D vwCl (WL cI cZ cL q qo (u', vp_updL g 0 0)) H := hP
    have hD : va_D A (WL cI cZ cL q qo (u', vp_updL g 0 0)) := hD
    refine lv_goto (tgt := 25) hx hb dL_load_16 (by decide) ?_
    refine lv_iconst (v := 0) hx hb dL_load_25 (by decide +kernel) ?_
    refine g_iretW (u1 := (u', vp_updL g 0 0)) hx hb hret hlk hQ hP hD hS dL_load_26 rfl ?_
    rw [show bL v = 0 from if_pos c_1]
  · refine lv_lconst (v := 1) hx hb dL_load_10 (by decide +kernel) ?_
    refine lv_goto (tgt := 15) hx hb dL_load_11 (by decide) ?_
    refine va_last (i := 0) hx hb hK hP hD hS 0 2 rfl rfl vp_in01 dL_load_15 (fun H locs hP hD hS => ?_)
    have hP : va_P D vwCl (WL cI cZ cL q qo (u', vp_updL g 0 1)) H := hP
    have hD : va_D A (WL cI cZ cL q qo (u', vp_updL g 0 1)) := hD
    refine lv_goto (tgt := 25) hx hb dL_load_16 (by decide) ?_
    refine lv_iconst (v := 0) hx hb dL_load_25 (by decide +kernel) ?_
    refine g_iretW (u1 := (u', vp_updL g 0 1)) hx hb hret hlk hQ hP hD hS dL_load_26 rfl ?_
    rw [show bL v = 1 from if_neg c_1]
set_option maxHeartbeats 4000000 in
set_option maxRecDepth 100000 in
theorem wr_load_IAE (l : Launch) (D : va_G) (cI cZ cL : ClassId) (q : Nat → Nat) (qo : Nat) {u : SX} {g : Nat → Int64} {rmc : Room} (p0 : Int32) (hrm : rmc.cells = 1 ∧ rmc.slots = 6 ∧ rmc.frames ≤ 8 ∧ rmc.locals ≤ 200) (hM : gX l yX2_load wsX2_load rmc D [(cI, .int), (cZ, .boolean)] (XW cI cZ q) XE XT [.ref (q 0), .int p0] u "java/lang/IllegalArgumentException") : gW l yL_load wsL_load rmL1 D [(cI, .int), (cZ, .boolean), (cL, .long)] (WL cI cZ cL q qo) LE XT [.ref (q 0), .int p0, .ref qo] (u, g) (some (.int 1)) (u, g) 1 6 := by
  refine g_startW (cc := cL_load) (maxL := 4) (ret := some .int) (hh := [(0, 16, 19, 15), (0, 16, 22, 17)]) (by decide) rfl (Nat.le_of_ble_eq_true rfl) ?_
  intro p e s m below meth c A ls Q hx hb hml hret hts hown hlk hE hP hK hD hA hl hQ hS hXT htab
  have hown : s.vm.findClass RL = some m.cls := hown
  have hl : lv_has ls 4 [(0, .ref (q 0)), (1, .int p0), (2, .ref qo)] := hl
  have hK2 := hK.sub (tys' := [(cI, .int), (cZ, .boolean)]) [0, 1] rfl
  refine lv_aload_n hx hb dL_load_0 rfl (lv_at hl 2 rfl) ?_
  refine lv_iconst (v := 0) hx hb dL_load_1 (by decide +kernel) ?_
  refine lv_aload_n hx hb dL_load_2 rfl (lv_at hl 0 rfl) ?_
  refine lv_iload_n hx hb dL_load_3 rfl (lv_at hl 1 rfl) ?_
  refine g_xVF (As := [.int p0]) (rest := [.int 0, .ref qo]) (wr := [(qo, .inl (cL, 1, .inr (.inl g)))]) (wl := WL cI cZ cL q qo (u, g)) hx hb hml hown hts hM gL_load_X2_load rfl hrm.1 hrm.2.1 hdX2_load ⟨Nat.le_trans (Nat.succ_le_succ hrm.2.2.1) (Nat.le_of_ble_eq_true rfl), Nat.le_trans (Nat.add_le_add_left hrm.2.2.2 _) (Nat.le_of_ble_eq_true rfl)⟩ XE_em hE.1 XT_tm hXT hP hK2 hD hS hA 0 rfl rfl rfl hl.1 rfl (Nat.le_of_ble_eq_true rfl) dL_load_4 ⟨Nat.le_of_ble_eq_true rfl, Nat.le_of_ble_eq_true rfl⟩ [1, 2, 3, 4, 5, 6, 7, 8, 9, 10, 11, 12, 13, 14, 15, 16, 17] [0] [0, 1, 2, 3, 4, 5, 6, 7, 8, 9, 10, 11, 12, 13, 14, 15, 16, 17] (by decide) rfl rfl (by decide) (by decide) (by decide) rfl (fun ce q9 H locs hP hD hS hce hcv hcl => ?_)
  refine vx_catch (own := RL) (name := "java/lang/IllegalArgumentException") hown [] (⟨0, 16, 19, 15⟩ : ExceptionTableEntry) [(⟨0, 16, 22, 17⟩ : ExceptionTableEntry)] htab (fun z hz => by cases hz) (by decide) (by decide) (hts _ (List.mem_of_getElem? (i := 1) (by decide +kernel))) (va_Nw.use rfl (hE.1.1.1 _ (List.mem_of_getElem? (i := 10) rfl))) hce hcv hcl ?_
  refine lv_astore_n (lv' := [(3, .ref q9), (0, .ref (q 0)), (1, .int p0), (2, .ref qo)]) hx hb dL_load_19 rfl hl (by decide) rfl (fun ls hl => ?_)
  refine lv_iconst (v := 1) hx hb dL_load_20 (by decide +kernel) ?_
  refine W.widen (k := 1) (n := 6) (by omega) (by omega) ?_
  exact g_iretW (u1 := (u, g)) hx hb hret hlk hQ hP hD hS dL_load_21 rfl rfl
set_option maxHeartbeats 4000000 in
set_option maxRecDepth 100000 in
theorem wr_load_ISE (l : Launch) (D : va_G) (cI cZ cL : ClassId) (q : Nat → Nat) (qo : Nat) {u : SX} {g : Nat → Int64} {rmc : Room} (p0 : Int32) (hrm : rmc.cells = 1 ∧ rmc.slots = 6 ∧ rmc.frames ≤ 8 ∧ rmc.locals ≤ 200) (hM : gX l yX2_load wsX2_load rmc D [(cI, .int), (cZ, .boolean)] (XW cI cZ q) XE XT [.ref (q 0), .int p0] u "java/lang/IllegalStateException") : gW l yL_load wsL_load rmL1 D [(cI, .int), (cZ, .boolean), (cL, .long)] (WL cI cZ cL q qo) LE XT [.ref (q 0), .int p0, .ref qo] (u, g) (some (.int 2)) (u, g) 1 6 := by
  refine g_startW (cc := cL_load) (maxL := 4) (ret := some .int) (hh := [(0, 16, 19, 15), (0, 16, 22, 17)]) (by decide) rfl (Nat.le_of_ble_eq_true rfl) ?_
  intro p e s m below meth c A ls Q hx hb hml hret hts hown hlk hE hP hK hD hA hl hQ hS hXT htab
  have hown : s.vm.findClass RL = some m.cls := hown
  have hl : lv_has ls 4 [(0, .ref (q 0)), (1, .int p0), (2, .ref qo)] := hl
  have hK2 := hK.sub (tys' := [(cI, .int), (cZ, .boolean)]) [0, 1] rfl
  refine lv_aload_n hx hb dL_load_0 rfl (lv_at hl 2 rfl) ?_
  refine lv_iconst (v := 0) hx hb dL_load_1 (by decide +kernel) ?_
  refine lv_aload_n hx hb dL_load_2 rfl (lv_at hl 0 rfl) ?_
  refine lv_iload_n hx hb dL_load_3 rfl (lv_at hl 1 rfl) ?_
  refine g_xVF (As := [.int p0]) (rest := [.int 0, .ref qo]) (wr := [(qo, .inl (cL, 1, .inr (.inl g)))]) (wl := WL cI cZ cL q qo (u, g)) hx hb hml hown hts hM gL_load_X2_load rfl hrm.1 hrm.2.1 hdX2_load ⟨Nat.le_trans (Nat.succ_le_succ hrm.2.2.1) (Nat.le_of_ble_eq_true rfl), Nat.le_trans (Nat.add_le_add_left hrm.2.2.2 _) (Nat.le_of_ble_eq_true rfl)⟩ XE_em hE.1 XT_tm hXT hP hK2 hD hS hA 0 rfl rfl rfl hl.1 rfl (Nat.le_of_ble_eq_true rfl) dL_load_4 ⟨Nat.le_of_ble_eq_true rfl, Nat.le_of_ble_eq_true rfl⟩ [1, 2, 3, 4, 5, 6, 7, 8, 9, 10, 11, 12, 13, 14, 15, 16, 17] [0] [0, 1, 2, 3, 4, 5, 6, 7, 8, 9, 10, 11, 12, 13, 14, 15, 16, 17] (by decide) rfl rfl (by decide) (by decide) (by decide) rfl (fun ce q9 H locs hP hD hS hce hcv hcl => ?_)
  refine vx_catch (own := RL) (name := "java/lang/IllegalStateException") hown [(⟨0, 16, 19, 15⟩ : ExceptionTableEntry)] (⟨0, 16, 22, 17⟩ : ExceptionTableEntry) [] htab (List.forall_mem_cons.mpr ⟨Or.inr ⟨by decide, "java/lang/IllegalArgumentException", hts _ (List.mem_of_getElem? (i := 1) (by decide +kernel)), hE.2.2.2⟩, fun z hz => by cases hz⟩) (by decide) (by decide) (hts _ (List.mem_of_getElem? (i := 2) (by decide +kernel))) (va_Nw.use rfl (hE.1.1.1 _ (List.mem_of_getElem? (i := 11) rfl))) hce hcv hcl ?_
  refine lv_astore_n (lv' := [(3, .ref q9), (0, .ref (q 0)), (1, .int p0), (2, .ref qo)]) hx hb dL_load_22 rfl hl (by decide) rfl (fun ls hl => ?_)
  refine lv_iconst (v := 2) hx hb dL_load_23 (by decide +kernel) ?_
  refine W.widen (k := 1) (n := 6) (by omega) (by omega) ?_
  exact g_iretW (u1 := (u, g)) hx hb hret hlk hQ hP hD hS dL_load_24 rfl rfl
set_option maxHeartbeats 4000000 in
set_option maxRecDepth 100000 in
theorem wr_protect (l : Launch) (D : va_G) (cI cZ cL : ClassId) (q : Nat → Nat) (qo : Nat) {u u' : SX} {g : Nat → Int64} {rmc : Room} (p0 p1 : Int32) {v : Int32} (hrm : rmc.cells = 0 ∧ rmc.slots = 0 ∧ rmc.frames ≤ 8 ∧ rmc.locals ≤ 200) (hM : gM l yX2_protect wsX2_protect rmc D [(cI, .int), (cZ, .boolean)] (XW cI cZ q) XG [.ref (q 0), .int p0, .int p1] u (some (.int v)) u') : gW l yL_protect wsL_protect rmL0 D [(cI, .int), (cZ, .boolean), (cL, .long)] (WL cI cZ cL q qo) LE XT [.ref (q 0), .int p0, .int p1, .ref qo] (u, g) (some (.int 0)) (u', vp_updL g 0 (bL v)) 0 0 := by
  refine g_startW (cc := cL_protect) (maxL := 5) (ret := some .int) (hh := [(0, 17, 20, 13)]) (by decide) rfl (Nat.le_of_ble_eq_true rfl) ?_
  intro p e s m below meth c A ls Q hx hb hml hret hts hown hlk hE hP hK hD hA hl hQ hS hXT htab
  have hown : s.vm.findClass RL = some m.cls := hown
  have hl : lv_has ls 5 [(0, .ref (q 0)), (1, .int p0), (2, .int p1), (3, .ref qo)] := hl
  have hK2 := hK.sub (tys' := [(cI, .int), (cZ, .boolean)]) [0, 1] rfl
  refine lv_aload_n hx hb dL_protect_0 rfl (lv_at hl 3 rfl) ?_
  refine lv_iconst (v := 0) hx hb dL_protect_1 (by decide +kernel) ?_
  refine lv_aload_n hx hb dL_protect_2 rfl (lv_at hl 0 rfl) ?_
  refine lv_iload_n hx hb dL_protect_3 rfl (lv_at hl 1 rfl) ?_
  refine lv_iload_n hx hb dL_protect_4 rfl (lv_at hl 2 rfl) ?_
  refine g_callVF (As := [.int p0, .int p1]) (rest := [.int 0, .ref qo]) (wr := [(qo, .inl (cL, 1, .inr (.inl g)))]) (wn := WL cI cZ cL q qo (u', g)) hx hb hml hown hts hM gL_protect_X2_protect rfl hrm.1 hrm.2.1 hdX2_protect ⟨Nat.le_trans (Nat.succ_le_succ hrm.2.2.1) (Nat.le_of_ble_eq_true rfl), Nat.le_trans (Nat.add_le_add_left hrm.2.2.2 _) (Nat.le_of_ble_eq_true rfl)⟩ XG_em hE.1.1 hP hK2 hD hS hA 0 rfl rfl rfl hl.1 rfl (Nat.le_of_ble_eq_true rfl) dL_protect_5 ⟨Nat.zero_le _, Nat.zero_le _⟩ [1, 2, 3, 4, 5, 6, 7, 8, 9, 10, 11, 12, 13, 14, 15, 16, 17] [0] [0, 1, 2, 3, 4, 5, 6, 7, 8, 9, 10, 11, 12, 13, 14, 15, 16, 17] (by decide) rfl rfl (by decide) (by decide) (by decide) rfl (fun H locs hP hD hS => ?_)
  refine W.eq (g2 := F0 m 8 ls [.int v, .int 0, .ref qo]) rfl ?_
  refine lv_if_eq (tgt := 15) hx hb dL_protect_8 (by decide) (fun c_1 => ?_) (fun c_1 => ?_)
  · refine lv_lconst (v := 0) hx hb dL_protect_15 (by decide +kernel) ?_
    refine va_last (i := 0) hx hb hK hP hD hS 0 2 rfl rfl vp_in01 dL_protect_16 (fun H locs hP hD hS => ?_)
    have hP : va_P D vwCl (WL cI cZ cL q qo (u', vp_updL g 0 0)) H := hP
    have hD : va_D A (WL cI cZ cL q qo (u', vp_updL g 0 0)) := hD
    refine lv_goto (tgt := 24) hx hb dL_protect_17 (by decide) ?_
    refine lv_iconst (v := 0) hx hb dL_protect_24 (by decide +kernel) ?_
    refine g_iretW (u1 := (u', vp_updL g 0 0)) hx hb hret hlk hQ hP hD hS dL_protect_25 rfl ?_
    rw [show bL v = 0 from if_pos c_1]
  · refine lv_lconst (v := 1) hx hb dL_protect_11 (by decide +kernel) ?_
    refine lv_goto (tgt := 16) hx hb dL_protect_12 (by decide) ?_
    refine va_last (i := 0) hx hb hK hP hD hS 0 2 rfl rfl vp_in01 dL_protect_16 (fun H locs hP hD hS => ?_)
    have hP : va_P D vwCl (WL cI cZ cL q qo (u', vp_updL g 0 1)) H := hP
    have hD : va_D A (WL cI cZ cL q qo (u', vp_updL g 0 1)) := hD
    refine lv_goto (tgt := 24) hx hb dL_protect_17 (by decide) ?_
    refine lv_iconst (v := 0) hx hb dL_protect_24 (by decide +kernel) ?_
    refine g_iretW (u1 := (u', vp_updL g 0 1)) hx hb hret hlk hQ hP hD hS dL_protect_25 rfl ?_
    rw [show bL v = 1 from if_neg c_1]
set_option maxHeartbeats 4000000 in
set_option maxRecDepth 100000 in
theorem wr_protect_IOO (l : Launch) (D : va_G) (cI cZ cL : ClassId) (q : Nat → Nat) (qo : Nat) {u : SX} {g : Nat → Int64} {rmc : Room} (p0 p1 : Int32) (hrm : rmc.cells = 1 ∧ rmc.slots = 6 ∧ rmc.frames ≤ 8 ∧ rmc.locals ≤ 200) (hM : gX l yX2_protect wsX2_protect rmc D [(cI, .int), (cZ, .boolean)] (XW cI cZ q) XE XT [.ref (q 0), .int p0, .int p1] u "java/lang/IndexOutOfBoundsException") : gW l yL_protect wsL_protect rmL1 D [(cI, .int), (cZ, .boolean), (cL, .long)] (WL cI cZ cL q qo) LE XT [.ref (q 0), .int p0, .int p1, .ref qo] (u, g) (some (.int 1)) (u, g) 1 6 := by
  refine g_startW (cc := cL_protect) (maxL := 5) (ret := some .int) (hh := [(0, 17, 20, 13)]) (by decide) rfl (Nat.le_of_ble_eq_true rfl) ?_
  intro p e s m below meth c A ls Q hx hb hml hret hts hown hlk hE hP hK hD hA hl hQ hS hXT htab
  have hown : s.vm.findClass RL = some m.cls := hown
  have hl : lv_has ls 5 [(0, .ref (q 0)), (1, .int p0), (2, .int p1), (3, .ref qo)] := hl
  have hK2 := hK.sub (tys' := [(cI, .int), (cZ, .boolean)]) [0, 1] rfl
  refine lv_aload_n hx hb dL_protect_0 rfl (lv_at hl 3 rfl) ?_
  refine lv_iconst (v := 0) hx hb dL_protect_1 (by decide +kernel) ?_
  refine lv_aload_n hx hb dL_protect_2 rfl (lv_at hl 0 rfl) ?_
  refine lv_iload_n hx hb dL_protect_3 rfl (lv_at hl 1 rfl) ?_
  refine lv_iload_n hx hb dL_protect_4 rfl (lv_at hl 2 rfl) ?_
  refine g_xVF (As := [.int p0, .int p1]) (rest := [.int 0, .ref qo]) (wr := [(qo, .inl (cL, 1, .inr (.inl g)))]) (wl := WL cI cZ cL q qo (u, g)) hx hb hml hown hts hM gL_protect_X2_protect rfl hrm.1 hrm.2.1 hdX2_protect ⟨Nat.le_trans (Nat.succ_le_succ hrm.2.2.1) (Nat.le_of_ble_eq_true rfl), Nat.le_trans (Nat.add_le_add_left hrm.2.2.2 _) (Nat.le_of_ble_eq_true rfl)⟩ XE_em hE.1 XT_tm hXT hP hK2 hD hS hA 0 rfl rfl rfl hl.1 rfl (Nat.le_of_ble_eq_true rfl) dL_protect_5 ⟨Nat.le_of_ble_eq_true rfl, Nat.le_of_ble_eq_true rfl⟩ [1, 2, 3, 4, 5, 6, 7, 8, 9, 10, 11, 12, 13, 14, 15, 16, 17] [0] [0, 1, 2, 3, 4, 5, 6, 7, 8, 9, 10, 11, 12, 13, 14, 15, 16, 17] (by decide) rfl rfl (by decide) (by decide) (by decide) rfl (fun ce q9 H locs hP hD hS hce hcv hcl => ?_)
  refine vx_catch (own := RL) (name := "java/lang/IndexOutOfBoundsException") hown [] (⟨0, 17, 20, 13⟩ : ExceptionTableEntry) [] htab (fun z hz => by cases hz) (by decide) (by decide) (hts _ (List.mem_of_getElem? (i := 1) (by decide +kernel))) (va_Nw.use rfl (hE.1.1.1 _ (List.mem_of_getElem? (i := 9) rfl))) hce hcv hcl ?_
  refine lv_astore (lv' := [(4, .ref q9), (0, .ref (q 0)), (1, .int p0), (2, .int p1), (3, .ref qo)]) hx hb dL_protect_20 hl (by decide) rfl (fun ls hl => ?_)
  refine lv_iconst (v := 1) hx hb dL_protect_22 (by decide +kernel) ?_
  refine W.widen (k := 1) (n := 6) (by omega) (by omega) ?_
  exact g_iretW (u1 := (u, g)) hx hb hret hlk hQ hP hD hS dL_protect_23 rfl rfl
set_option maxHeartbeats 4000000 in
set_option maxRecDepth 100000 in
theorem wr_move (l : Launch) (D : va_G) (cI cZ cL : ClassId) (q : Nat → Nat) (qo : Nat) {u u' : SX} {g : Nat → Int64} {rmc : Room} (p0 p1 p2 : Int32) {v : Int32} (hrm : rmc.cells = 0 ∧ rmc.slots = 0 ∧ rmc.frames ≤ 8 ∧ rmc.locals ≤ 200) (hM : gM l yX2_move wsX2_move rmc D [(cI, .int), (cZ, .boolean)] (XW cI cZ q) XG [.ref (q 0), .int p0, .int p1, .int p2] u (some (.int v)) u') : gW l yL_move wsL_move rmL0 D [(cI, .int), (cZ, .boolean), (cL, .long)] (WL cI cZ cL q qo) LE XT [.ref (q 0), .int p0, .int p1, .int p2, .ref qo] (u, g) (some (.int 0)) (u', vp_updL g 0 (Int32.toInt64 v)) 0 0 := by
  refine g_startW (cc := cL_move) (maxL := 6) (ret := some .int) (hh := [(0, 12, 15, 13), (0, 12, 19, 17)]) (by decide) rfl (Nat.le_of_ble_eq_true rfl) ?_
  intro p e s m below meth c A ls Q hx hb hml hret hts hown hlk hE hP hK hD hA hl hQ hS hXT htab
  have hown : s.vm.findClass RL = some m.cls := hown
  have hl : lv_has ls 6 [(0, .ref (q 0)), (1, .int p0), (2, .int p1), (3, .int p2), (4, .ref qo)] := hl
  have hK2 := hK.sub (tys' := [(cI, .int), (cZ, .boolean)]) [0, 1] rfl
  refine lv_aload hx hb dL_move_0 (lv_at hl 4 rfl) ?_
  refine lv_iconst (v := 0) hx hb dL_move_2 (by decide +kernel) ?_
  refine lv_aload_n hx hb dL_move_3 rfl (lv_at hl 0 rfl) ?_
  refine lv_iload_n hx hb dL_move_4 rfl (lv_at hl 1 rfl) ?_
  refine lv_iload_n hx hb dL_move_5 rfl (lv_at hl 2 rfl) ?_
  refine lv_iload_n hx hb dL_move_6 rfl (lv_at hl 3 rfl) ?_
  refine g_callVF (As := [.int p0, .int p1, .int p2]) (rest := [.int 0, .ref qo]) (wr := [(qo, .inl (cL, 1, .inr (.inl g)))]) (wn := WL cI cZ cL q qo (u', g)) hx hb hml hown hts hM gL_move_X2_move rfl hrm.1 hrm.2.1 hdX2_move ⟨Nat.le_trans (Nat.succ_le_succ hrm.2.2.1) (Nat.le_of_ble_eq_true rfl), Nat.le_trans (Nat.add_le_add_left hrm.2.2.2 _) (Nat.le_of_ble_eq_true rfl)⟩ XG_em hE.1.1 hP hK2 hD hS hA 0 rfl rfl rfl hl.1 rfl (Nat.le_of_ble_eq_true rfl) dL_move_7 ⟨Nat.zero_le _, Nat.zero_le _⟩ [1, 2, 3, 4, 5, 6, 7, 8, 9, 10, 11, 12, 13, 14, 15, 16, 17] [0] [0, 1, 2, 3, 4, 5, 6, 7, 8, 9, 10, 11, 12, 13, 14, 15, 16, 17] (by decide) rfl rfl (by decide) (by decide) (by decide) rfl (fun H locs hP hD hS => ?_)
  refine W.eq (g2 := F0 m 10 ls [.int v, .int 0, .ref qo]) rfl ?_
  refine lv_i2l (v := Int32.toInt64 v) hx hb dL_move_10 rfl ?_
  refine va_last (i := 0) hx hb hK hP hD hS 0 2 rfl rfl vp_in01 dL_move_11 (fun H locs hP hD hS => ?_)
  have hP : va_P D vwCl (WL cI cZ cL q qo (u', vp_updL g 0 (Int32.toInt64 v))) H := hP
  have hD : va_D A (WL cI cZ cL q qo (u', vp_updL g 0 (Int32.toInt64 v))) := hD
  refine lv_goto (tgt := 23) hx hb dL_move_12 (by decide) ?_
  refine lv_iconst (v := 0) hx hb dL_move_23 (by decide +kernel) ?_
  refine g_iretW (u1 := (u', vp_updL g 0 (Int32.toInt64 v))) hx hb hret hlk hQ hP hD hS dL_move_24 rfl ?_
  rfl
set_option maxHeartbeats 4000000 in
set_option maxRecDepth 100000 in
theorem wr_move_IOO (l : Launch) (D : va_G) (cI cZ cL : ClassId) (q : Nat → Nat) (qo : Nat) {u : SX} {g : Nat → Int64} {rmc : Room} (p0 p1 p2 : Int32) (hrm : rmc.cells = 1 ∧ rmc.slots = 6 ∧ rmc.frames ≤ 8 ∧ rmc.locals ≤ 200) (hM : gX l yX2_move wsX2_move rmc D [(cI, .int), (cZ, .boolean)] (XW cI cZ q) XE XT [.ref (q 0), .int p0, .int p1, .int p2] u "java/lang/IndexOutOfBoundsException") : gW l yL_move wsL_move rmL1 D [(cI, .int), (cZ, .boolean), (cL, .long)] (WL cI cZ cL q qo) LE XT [.ref (q 0), .int p0, .int p1, .int p2, .ref qo] (u, g) (some (.int 1)) (u, g) 1 6 := by
  refine g_startW (cc := cL_move) (maxL := 6) (ret := some .int) (hh := [(0, 12, 15, 13), (0, 12, 19, 17)]) (by decide) rfl (Nat.le_of_ble_eq_true rfl) ?_
  intro p e s m below meth c A ls Q hx hb hml hret hts hown hlk hE hP hK hD hA hl hQ hS hXT htab
  have hown : s.vm.findClass RL = some m.cls := hown
  have hl : lv_has ls 6 [(0, .ref (q 0)), (1, .int p0), (2, .int p1), (3, .int p2), (4, .ref qo)] := hl
  have hK2 := hK.sub (tys' := [(cI, .int), (cZ, .boolean)]) [0, 1] rfl
  refine lv_aload hx hb dL_move_0 (lv_at hl 4 rfl) ?_
  refine lv_iconst (v := 0) hx hb dL_move_2 (by decide +kernel) ?_
  refine lv_aload_n hx hb dL_move_3 rfl (lv_at hl 0 rfl) ?_
  refine lv_iload_n hx hb dL_move_4 rfl (lv_at hl 1 rfl) ?_
  refine lv_iload_n hx hb dL_move_5 rfl (lv_at hl 2 rfl) ?_
  refine lv_iload_n hx hb dL_move_6 rfl (lv_at hl 3 rfl) ?_
  refine g_xVF (As := [.int p0, .int p1, .int p2]) (rest := [.int 0, .ref qo]) (wr := [(qo, .inl (cL, 1, .inr (.inl g)))]) (wl := WL cI cZ cL q qo (u, g)) hx hb hml hown hts hM gL_move_X2_move rfl hrm.1 hrm.2.1 hdX2_move ⟨Nat.le_trans (Nat.succ_le_succ hrm.2.2.1) (Nat.le_of_ble_eq_true rfl), Nat.le_trans (Nat.add_le_add_left hrm.2.2.2 _) (Nat.le_of_ble_eq_true rfl)⟩ XE_em hE.1 XT_tm hXT hP hK2 hD hS hA 0 rfl rfl rfl hl.1 rfl (Nat.le_of_ble_eq_true rfl) dL_move_7 ⟨Nat.le_of_ble_eq_true rfl, Nat.le_of_ble_eq_true rfl⟩ [1, 2, 3, 4, 5, 6, 7, 8, 9, 10, 11, 12, 13, 14, 15, 16, 17] [0] [0, 1, 2, 3, 4, 5, 6, 7, 8, 9, 10, 11, 12, 13, 14, 15, 16, 17] (by decide) rfl rfl (by decide) (by decide) (by decide) rfl (fun ce q9 H locs hP hD hS hce hcv hcl => ?_)
  refine vx_catch (own := RL) (name := "java/lang/IndexOutOfBoundsException") hown [] (⟨0, 12, 15, 13⟩ : ExceptionTableEntry) [(⟨0, 12, 19, 17⟩ : ExceptionTableEntry)] htab (fun z hz => by cases hz) (by decide) (by decide) (hts _ (List.mem_of_getElem? (i := 1) (by decide +kernel))) (va_Nw.use rfl (hE.1.1.1 _ (List.mem_of_getElem? (i := 9) rfl))) hce hcv hcl ?_
  refine lv_astore (lv' := [(5, .ref q9), (0, .ref (q 0)), (1, .int p0), (2, .int p1), (3, .int p2), (4, .ref qo)]) hx hb dL_move_15 hl (by decide) rfl (fun ls hl => ?_)
  refine lv_iconst (v := 1) hx hb dL_move_17 (by decide +kernel) ?_
  refine W.widen (k := 1) (n := 6) (by omega) (by omega) ?_
  exact g_iretW (u1 := (u, g)) hx hb hret hlk hQ hP hD hS dL_move_18 rfl rfl
set_option maxHeartbeats 4000000 in
set_option maxRecDepth 100000 in
theorem wr_move_ISE (l : Launch) (D : va_G) (cI cZ cL : ClassId) (q : Nat → Nat) (qo : Nat) {u : SX} {g : Nat → Int64} {rmc : Room} (p0 p1 p2 : Int32) (hrm : rmc.cells = 1 ∧ rmc.slots = 6 ∧ rmc.frames ≤ 8 ∧ rmc.locals ≤ 200) (hM : gX l yX2_move wsX2_move rmc D [(cI, .int), (cZ, .boolean)] (XW cI cZ q) XE XT [.ref (q 0), .int p0, .int p1, .int p2] u "java/lang/IllegalStateException") : gW l yL_move wsL_move rmL1 D [(cI, .int), (cZ, .boolean), (cL, .long)] (WL cI cZ cL q qo) LE XT [.ref (q 0), .int p0, .int p1, .int p2, .ref qo] (u, g) (some (.int 2)) (u, g) 1 6 := by
  refine g_startW (cc := cL_move) (maxL := 6) (ret := some .int) (hh := [(0, 12, 15, 13), (0, 12, 19, 17)]) (by decide) rfl (Nat.le_of_ble_eq_true rfl) ?_
  intro p e s m below meth c A ls Q hx hb hml hret hts hown hlk hE hP hK hD hA hl hQ hS hXT htab
  have hown : s.vm.findClass RL = some m.cls := hown
  have hl : lv_has ls 6 [(0, .ref (q 0)), (1, .int p0), (2, .int p1), (3, .int p2), (4, .ref qo)] := hl
  have hK2 := hK.sub (tys' := [(cI, .int), (cZ, .boolean)]) [0, 1] rfl
  refine lv_aload hx hb dL_move_0 (lv_at hl 4 rfl) ?_
  refine lv_iconst (v := 0) hx hb dL_move_2 (by decide +kernel) ?_
  refine lv_aload_n hx hb dL_move_3 rfl (lv_at hl 0 rfl) ?_
  refine lv_iload_n hx hb dL_move_4 rfl (lv_at hl 1 rfl) ?_
  refine lv_iload_n hx hb dL_move_5 rfl (lv_at hl 2 rfl) ?_
  refine lv_iload_n hx hb dL_move_6 rfl (lv_at hl 3 rfl) ?_
  refine g_xVF (As := [.int p0, .int p1, .int p2]) (rest := [.int 0, .ref qo]) (wr := [(qo, .inl (cL, 1, .inr (.inl g)))]) (wl := WL cI cZ cL q qo (u, g)) hx hb hml hown hts hM gL_move_X2_move rfl hrm.1 hrm.2.1 hdX2_move ⟨Nat.le_trans (Nat.succ_le_succ hrm.2.2.1) (Nat.le_of_ble_eq_true rfl), Nat.le_trans (Nat.add_le_add_left hrm.2.2.2 _) (Nat.le_of_ble_eq_true rfl)⟩ XE_em hE.1 XT_tm hXT hP hK2 hD hS hA 0 rfl rfl rfl hl.1 rfl (Nat.le_of_ble_eq_true rfl) dL_move_7 ⟨Nat.le_of_ble_eq_true rfl, Nat.le_of_ble_eq_true rfl⟩ [1, 2, 3, 4, 5, 6, 7, 8, 9, 10, 11, 12, 13, 14, 15, 16, 17] [0] [0, 1, 2, 3, 4, 5, 6, 7, 8, 9, 10, 11, 12, 13, 14, 15, 16, 17] (by decide) rfl rfl (by decide) (by decide) (by decide) rfl (fun ce q9 H locs hP hD hS hce hcv hcl => ?_)
  refine vx_catch (own := RL) (name := "java/lang/IllegalStateException") hown [(⟨0, 12, 15, 13⟩ : ExceptionTableEntry)] (⟨0, 12, 19, 17⟩ : ExceptionTableEntry) [] htab (List.forall_mem_cons.mpr ⟨Or.inr ⟨by decide, "java/lang/IndexOutOfBoundsException", hts _ (List.mem_of_getElem? (i := 1) (by decide +kernel)), hE.2.2.1⟩, fun z hz => by cases hz⟩) (by decide) (by decide) (hts _ (List.mem_of_getElem? (i := 2) (by decide +kernel))) (va_Nw.use rfl (hE.1.1.1 _ (List.mem_of_getElem? (i := 11) rfl))) hce hcv hcl ?_
  refine lv_astore (lv' := [(5, .ref q9), (0, .ref (q 0)), (1, .int p0), (2, .int p1), (3, .int p2), (4, .ref qo)]) hx hb dL_move_19 hl (by decide) rfl (fun ls hl => ?_)
  refine lv_iconst (v := 2) hx hb dL_move_21 (by decide +kernel) ?_
  refine W.widen (k := 1) (n := 6) (by omega) (by omega) ?_
  exact g_iretW (u1 := (u, g)) hx hb hret hlk hQ hP hD hS dL_move_22 rfl rfl
set_option maxHeartbeats 4000000 in
set_option maxRecDepth 100000 in
theorem wr_collect (l : Launch) (D : va_G) (cI cZ cL : ClassId) (q : Nat → Nat) (qo : Nat) {u u' : SX} {g : Nat → Int64} {rmc : Room} (p0 : Int32) {v : Int32} (hrm : rmc.cells = 0 ∧ rmc.slots = 0 ∧ rmc.frames ≤ 8 ∧ rmc.locals ≤ 200) (hM : gM l yX2_collect wsX2_collect rmc D [(cI, .int), (cZ, .boolean)] (XW cI cZ q) XG [.ref (q 0), .int p0] u (some (.int v)) u') : gW l yL_collect wsL_collect rmL0 D [(cI, .int), (cZ, .boolean), (cL, .long)] (WL cI cZ cL q qo) LE XT [.ref (q 0), .int p0, .ref qo] (u, g) (some (.int 0)) (u', vp_updL g 0 (Int32.toInt64 v)) 0 0 := by
  refine g_startW (cc := cL_collect) (maxL := 4) (ret := some .int) (hh := [(0, 9, 12, 13)]) (by decide) rfl (Nat.le_of_ble_eq_true rfl) ?_
  intro p e s m below meth c A ls Q hx hb hml hret hts hown hlk hE hP hK hD hA hl hQ hS hXT htab
  have hown : s.vm.findClass RL = some m.cls := hown
  have hl : lv_has ls 4 [(0, .ref (q 0)), (1, .int p0), (2, .ref qo)] := hl
  have hK2 := hK.sub (tys' := [(cI, .int), (cZ, .boolean)]) [0, 1] rfl
  refine lv_aload_n hx hb dL_collect_0 rfl (lv_at hl 2 rfl) ?_
  refine lv_iconst (v := 0) hx hb dL_collect_1 (by decide +kernel) ?_
  refine lv_aload_n hx hb dL_collect_2 rfl (lv_at hl 0 rfl) ?_
  refine lv_iload_n hx hb dL_collect_3 rfl (lv_at hl 1 rfl) ?_
  refine g_callVF (As := [.int p0]) (rest := [.int 0, .ref qo]) (wr := [(qo, .inl (cL, 1, .inr (.inl g)))]) (wn := WL cI cZ cL q qo (u', g)) hx hb hml hown hts hM gL_collect_X2_collect rfl hrm.1 hrm.2.1 hdX2_collect ⟨Nat.le_trans (Nat.succ_le_succ hrm.2.2.1) (Nat.le_of_ble_eq_true rfl), Nat.le_trans (Nat.add_le_add_left hrm.2.2.2 _) (Nat.le_of_ble_eq_true rfl)⟩ XG_em hE.1.1 hP hK2 hD hS hA 0 rfl rfl rfl hl.1 rfl (Nat.le_of_ble_eq_true rfl) dL_collect_4 ⟨Nat.zero_le _, Nat.zero_le _⟩ [1, 2, 3, 4, 5, 6, 7, 8, 9, 10, 11, 12, 13, 14, 15, 16, 17] [0] [0, 1, 2, 3, 4, 5, 6, 7, 8, 9, 10, 11, 12, 13, 14, 15, 16, 17] (by decide) rfl rfl (by decide) (by decide) (by decide) rfl (fun H locs hP hD hS => ?_)
  refine W.eq (g2 := F0 m 7 ls [.int v, .int 0, .ref qo]) rfl ?_
  refine lv_i2l (v := Int32.toInt64 v) hx hb dL_collect_7 rfl ?_
  refine va_last (i := 0) hx hb hK hP hD hS 0 2 rfl rfl vp_in01 dL_collect_8 (fun H locs hP hD hS => ?_)
  have hP : va_P D vwCl (WL cI cZ cL q qo (u', vp_updL g 0 (Int32.toInt64 v))) H := hP
  have hD : va_D A (WL cI cZ cL q qo (u', vp_updL g 0 (Int32.toInt64 v))) := hD
  refine lv_goto (tgt := 15) hx hb dL_collect_9 (by decide) ?_
  refine lv_iconst (v := 0) hx hb dL_collect_15 (by decide +kernel) ?_
  refine g_iretW (u1 := (u', vp_updL g 0 (Int32.toInt64 v))) hx hb hret hlk hQ hP hD hS dL_collect_16 rfl ?_
  rfl
set_option maxHeartbeats 4000000 in
set_option maxRecDepth 100000 in
theorem wr_collect_IOO (l : Launch) (D : va_G) (cI cZ cL : ClassId) (q : Nat → Nat) (qo : Nat) {u : SX} {g : Nat → Int64} {rmc : Room} (p0 : Int32) (hrm : rmc.cells = 1 ∧ rmc.slots = 6 ∧ rmc.frames ≤ 8 ∧ rmc.locals ≤ 200) (hM : gX l yX2_collect wsX2_collect rmc D [(cI, .int), (cZ, .boolean)] (XW cI cZ q) XE XT [.ref (q 0), .int p0] u "java/lang/IndexOutOfBoundsException") : gW l yL_collect wsL_collect rmL1 D [(cI, .int), (cZ, .boolean), (cL, .long)] (WL cI cZ cL q qo) LE XT [.ref (q 0), .int p0, .ref qo] (u, g) (some (.int 1)) (u, g) 1 6 := by
  refine g_startW (cc := cL_collect) (maxL := 4) (ret := some .int) (hh := [(0, 9, 12, 13)]) (by decide) rfl (Nat.le_of_ble_eq_true rfl) ?_
  intro p e s m below meth c A ls Q hx hb hml hret hts hown hlk hE hP hK hD hA hl hQ hS hXT htab
  have hown : s.vm.findClass RL = some m.cls := hown
  have hl : lv_has ls 4 [(0, .ref (q 0)), (1, .int p0), (2, .ref qo)] := hl
  have hK2 := hK.sub (tys' := [(cI, .int), (cZ, .boolean)]) [0, 1] rfl
  refine lv_aload_n hx hb dL_collect_0 rfl (lv_at hl 2 rfl) ?_
  refine lv_iconst (v := 0) hx hb dL_collect_1 (by decide +kernel) ?_
  refine lv_aload_n hx hb dL_collect_2 rfl (lv_at hl 0 rfl) ?_
  refine lv_iload_n hx hb dL_collect_3 rfl (lv_at hl 1 rfl) ?_
  refine g_xVF (As := [.int p0]) (rest := [.int 0, .ref qo]) (wr := [(qo, .inl (cL, 1, .inr (.inl g)))]) (wl := WL cI cZ cL q qo (u, g)) hx hb hml hown hts hM gL_collect_X2_collect rfl hrm.1 hrm.2.1 hdX2_collect ⟨Nat.le_trans (Nat.succ_le_succ hrm.2.2.1) (Nat.le_of_ble_eq_true rfl), Nat.le_trans (Nat.add_le_add_left hrm.2.2.2 _) (Nat.le_of_ble_eq_true rfl)⟩ XE_em hE.1 XT_tm hXT hP hK2 hD hS hA 0 rfl rfl rfl hl.1 rfl (Nat.le_of_ble_eq_true rfl) dL_collect_4 ⟨Nat.le_of_ble_eq_true rfl, Nat.le_of_ble_eq_true rfl⟩ [1, 2, 3, 4, 5, 6, 7, 8, 9, 10, 11, 12, 13, 14, 15, 16, 17] [0] [0, 1, 2, 3, 4, 5, 6, 7, 8, 9, 10, 11, 12, 13, 14, 15, 16, 17] (by decide) rfl rfl (by decide) (by decide) (by decide) rfl (fun ce q9 H locs hP hD hS hce hcv hcl => ?_)
  refine vx_catch (own := RL) (name := "java/lang/IndexOutOfBoundsException") hown [] (⟨0, 9, 12, 13⟩ : ExceptionTableEntry) [] htab (fun z hz => by cases hz) (by decide) (by decide) (hts _ (List.mem_of_getElem? (i := 1) (by decide +kernel))) (va_Nw.use rfl (hE.1.1.1 _ (List.mem_of_getElem? (i := 9) rfl))) hce hcv hcl ?_
  refine lv_astore_n (lv' := [(3, .ref q9), (0, .ref (q 0)), (1, .int p0), (2, .ref qo)]) hx hb dL_collect_12 rfl hl (by decide) rfl (fun ls hl => ?_)
  refine lv_iconst (v := 1) hx hb dL_collect_13 (by decide +kernel) ?_
  refine W.widen (k := 1) (n := 6) (by omega) (by omega) ?_
  exact g_iretW (u1 := (u, g)) hx hb hret hlk hQ hP hD hS dL_collect_14 rfl rfl
set_option maxHeartbeats 4000000 in
set_option maxRecDepth 100000 in
theorem wr_has (l : Launch) (D : va_G) (cI cZ cL : ClassId) (q : Nat → Nat) (qo : Nat) {u u' : SX} {g : Nat → Int64} {rmc : Room} (p0 p1 : Int32) {v : Int32} (hrm : rmc.cells = 0 ∧ rmc.slots = 0 ∧ rmc.frames ≤ 8 ∧ rmc.locals ≤ 200) (hM : gM l yX2_has wsX2_has rmc D [(cI, .int), (cZ, .boolean)] (XW cI cZ q) XG [.ref (q 0), .int p0, .int p1] u (some (.int v)) u') : gW l yL_has wsL_has rmL0 D [(cI, .int), (cZ, .boolean), (cL, .long)] (WL cI cZ cL q qo) LE XT [.ref (q 0), .int p0, .int p1, .ref qo] (u, g) (some (.int 0)) (u', vp_updL g 0 (bL v)) 0 0 := by
  refine g_startW (cc := cL_has) (maxL := 5) (ret := some .int) (hh := [(0, 17, 20, 13)]) (by decide) rfl (Nat.le_of_ble_eq_true rfl) ?_
  intro p e s m below meth c A ls Q hx hb hml hret hts hown hlk hE hP hK hD hA hl hQ hS hXT htab
  have hown : s.vm.findClass RL = some m.cls := hown
  have hl : lv_has ls 5 [(0, .ref (q 0)), (1, .int p0), (2, .int p1), (3, .ref qo)] := hl
  have hK2 := hK.sub (tys' := [(cI, .int), (cZ, .boolean)]) [0, 1] rfl
  refine lv_aload_n hx hb dL_has_0 rfl (lv_at hl 3 rfl) ?_
  refine lv_iconst (v := 0) hx hb dL_has_1 (by decide +kernel) ?_
  refine lv_aload_n hx hb dL_has_2 rfl (lv_at hl 0 rfl) ?_
  refine lv_iload_n hx hb dL_has_3 rfl (lv_at hl 1 rfl) ?_
  refine lv_iload_n hx hb dL_has_4 rfl (lv_at hl 2 rfl) ?_
  refine g_callVF (As := [.int p0, .int p1]) (rest := [.int 0, .ref qo]) (wr := [(qo, .inl (cL, 1, .inr (.inl g)))]) (wn := WL cI cZ cL q qo (u', g)) hx hb hml hown hts hM gL_has_X2_has rfl hrm.1 hrm.2.1 hdX2_has ⟨Nat.le_trans (Nat.succ_le_succ hrm.2.2.1) (Nat.le_of_ble_eq_true rfl), Nat.le_trans (Nat.add_le_add_left hrm.2.2.2 _) (Nat.le_of_ble_eq_true rfl)⟩ XG_em hE.1.1 hP hK2 hD hS hA 0 rfl rfl rfl hl.1 rfl (Nat.le_of_ble_eq_true rfl) dL_has_5 ⟨Nat.zero_le _, Nat.zero_le _⟩ [1, 2, 3, 4, 5, 6, 7, 8, 9, 10, 11, 12, 13, 14, 15, 16, 17] [0] [0, 1, 2, 3, 4, 5, 6, 7, 8, 9, 10, 11, 12, 13, 14, 15, 16, 17] (by decide) rfl rfl (by decide) (by decide) (by decide) rfl (fun H locs hP hD hS => ?_)
  refine W.eq (g2 := F0 m 8 ls [.int v, .int 0, .ref qo]) rfl ?_
  refine lv_if_eq (tgt := 15) hx hb dL_has_8 (by decide) (fun c_1 => ?_) (fun c_1 => ?_)
  · refine lv_lconst (v := 0) hx hb dL_has_15 (by decide +kernel) ?_
    refine va_last (i := 0) hx hb hK hP hD hS 0 2 rfl rfl vp_in01 dL_has_16 (fun H locs hP hD hS => ?_)
    have hP : va_P D vwCl (WL cI cZ cL q qo (u', vp_updL g 0 0)) H := hP
    have hD : va_D A (WL cI cZ cL q qo (u', vp_updL g 0 0)) := hD
    refine lv_goto (tgt := 24) hx hb dL_has_17 (by decide) ?_
    refine lv_iconst (v := 0) hx hb dL_has_24 (by decide +kernel) ?_
    refine g_iretW (u1 := (u', vp_updL g 0 0)) hx hb hret hlk hQ hP hD hS dL_has_25 rfl ?_
    rw [show bL v = 0 from if_pos c_1]
  · refine lv_lconst (v := 1) hx hb dL_has_11 (by decide +kernel) ?_
    refine lv_goto (tgt := 16) hx hb dL_has_12 (by decide) ?_
    refine va_last (i := 0) hx hb hK hP hD hS 0 2 rfl rfl vp_in01 dL_has_16 (fun H locs hP hD hS => ?_)
    have hP : va_P D vwCl (WL cI cZ cL q qo (u', vp_updL g 0 1)) H := hP
    have hD : va_D A (WL cI cZ cL q qo (u', vp_updL g 0 1)) := hD
    refine lv_goto (tgt := 24) hx hb dL_has_17 (by decide) ?_
    refine lv_iconst (v := 0) hx hb dL_has_24 (by decide +kernel) ?_
    refine g_iretW (u1 := (u', vp_updL g 0 1)) hx hb hret hlk hQ hP hD hS dL_has_25 rfl ?_
    rw [show bL v = 1 from if_neg c_1]
set_option maxHeartbeats 4000000 in
set_option maxRecDepth 100000 in
theorem wr_has_IOO (l : Launch) (D : va_G) (cI cZ cL : ClassId) (q : Nat → Nat) (qo : Nat) {u : SX} {g : Nat → Int64} {rmc : Room} (p0 p1 : Int32) (hrm : rmc.cells = 1 ∧ rmc.slots = 6 ∧ rmc.frames ≤ 8 ∧ rmc.locals ≤ 200) (hM : gX l yX2_has wsX2_has rmc D [(cI, .int), (cZ, .boolean)] (XW cI cZ q) XE XT [.ref (q 0), .int p0, .int p1] u "java/lang/IndexOutOfBoundsException") : gW l yL_has wsL_has rmL1 D [(cI, .int), (cZ, .boolean), (cL, .long)] (WL cI cZ cL q qo) LE XT [.ref (q 0), .int p0, .int p1, .ref qo] (u, g) (some (.int 1)) (u, g) 1 6 := by
  refine g_startW (cc := cL_has) (maxL := 5) (ret := some .int) (hh := [(0, 17, 20, 13)]) (by decide) rfl (Nat.le_of_ble_eq_true rfl) ?_
  intro p e s m below meth c A ls Q hx hb hml hret hts hown hlk hE hP hK hD hA hl hQ hS hXT htab
  have hown : s.vm.findClass RL = some m.cls := hown
  have hl : lv_has ls 5 [(0, .ref (q 0)), (1, .int p0), (2, .int p1), (3, .ref qo)] := hl
  have hK2 := hK.sub (tys' := [(cI, .int), (cZ, .boolean)]) [0, 1] rfl
  refine lv_aload_n hx hb dL_has_0 rfl (lv_at hl 3 rfl) ?_
  refine lv_iconst (v := 0) hx hb dL_has_1 (by decide +kernel) ?_
  refine lv_aload_n hx hb dL_has_2 rfl (lv_at hl 0 rfl) ?_
  refine lv_iload_n hx hb dL_has_3 rfl (lv_at hl 1 rfl) ?_
  refine lv_iload_n hx hb dL_has_4 rfl (lv_at hl 2 rfl) ?_
  refine g_xVF (As := [.int p0, .int p1]) (rest := [.int 0, .ref qo]) (wr := [(qo, .inl (cL, 1, .inr (.inl g)))]) (wl := WL cI cZ cL q qo (u, g)) hx hb hml hown hts hM gL_has_X2_has rfl hrm.1 hrm.2.1 hdX2_has ⟨Nat.le_trans (Nat.succ_le_succ hrm.2.2.1) (Nat.le_of_ble_eq_true rfl), Nat.le_trans (Nat.add_le_add_left hrm.2.2.2 _) (Nat.le_of_ble_eq_true rfl)⟩ XE_em hE.1 XT_tm hXT hP hK2 hD hS hA 0 rfl rfl rfl hl.1 rfl (Nat.le_of_ble_eq_true rfl) dL_has_5 ⟨Nat.le_of_ble_eq_true rfl, Nat.le_of_ble_eq_true rfl⟩ [1, 2, 3, 4, 5, 6, 7, 8, 9, 10, 11, 12, 13, 14, 15, 16, 17] [0] [0, 1, 2, 3, 4, 5, 6, 7, 8, 9, 10, 11, 12, 13, 14, 15, 16, 17] (by decide) rfl rfl (by decide) (by decide) (by decide) rfl (fun ce q9 H locs hP hD hS hce hcv hcl => ?_)
  refine vx_catch (own := RL) (name := "java/lang/IndexOutOfBoundsException") hown [] (⟨0, 17, 20, 13⟩ : ExceptionTableEntry) [] htab (fun z hz => by cases hz) (by decide) (by decide) (hts _ (List.mem_of_getElem? (i := 1) (by decide +kernel))) (va_Nw.use rfl (hE.1.1.1 _ (List.mem_of_getElem? (i := 9) rfl))) hce hcv hcl ?_
  refine lv_astore (lv' := [(4, .ref q9), (0, .ref (q 0)), (1, .int p0), (2, .int p1), (3, .ref qo)]) hx hb dL_has_20 hl (by decide) rfl (fun ls hl => ?_)
  refine lv_iconst (v := 1) hx hb dL_has_22 (by decide +kernel) ?_
  refine W.widen (k := 1) (n := 6) (by omega) (by omega) ?_
  exact g_iretW (u1 := (u, g)) hx hb hret hlk hQ hP hD hS dL_has_23 rfl rfl
set_option maxHeartbeats 4000000 in
set_option maxRecDepth 100000 in
theorem wr_hasFile (l : Launch) (D : va_G) (cI cZ cL : ClassId) (q : Nat → Nat) (qo : Nat) {u u' : SX} {g : Nat → Int64} {rmc : Room} (p0 p1 : Int32) {v : Int32} (hrm : rmc.cells = 0 ∧ rmc.slots = 0 ∧ rmc.frames ≤ 8 ∧ rmc.locals ≤ 200) (hM : gM l yX2_hasFile wsX2_hasFile rmc D [(cI, .int), (cZ, .boolean)] (XW cI cZ q) XG [.ref (q 0), .int p0, .int p1] u (some (.int v)) u') : gW l yL_hasFile wsL_hasFile rmL0 D [(cI, .int), (cZ, .boolean), (cL, .long)] (WL cI cZ cL q qo) LE XT [.ref (q 0), .int p0, .int p1, .ref qo] (u, g) (some (.int 0)) (u', vp_updL g 0 (bL v)) 0 0 := by
  refine g_startW (cc := cL_hasFile) (maxL := 5) (ret := some .int) (hh := [(0, 17, 20, 13), (0, 17, 24, 15)]) (by decide) rfl (Nat.le_of_ble_eq_true rfl) ?_
  intro p e s m below meth c A ls Q hx hb hml hret hts hown hlk hE hP hK hD hA hl hQ hS hXT htab
  have hown : s.vm.findClass RL = some m.cls := hown
  have hl : lv_has ls 5 [(0, .ref (q 0)), (1, .int p0), (2, .int p1), (3, .ref qo)] := hl
  have hK2 := hK.sub (tys' := [(cI, .int), (cZ, .boolean)]) [0, 1] rfl
  refine lv_aload_n hx hb dL_hasFile_0 rfl (lv_at hl 3 rfl) ?_
  refine lv_iconst (v := 0) hx hb dL_hasFile_1 (by decide +kernel) ?_
  refine lv_aload_n hx hb dL_hasFile_2 rfl (lv_at hl 0 rfl) ?_
  refine lv_iload_n hx hb dL_hasFile_3 rfl (lv_at hl 1 rfl) ?_
  refine lv_iload_n hx hb dL_hasFile_4 rfl (lv_at hl 2 rfl) ?_
  refine g_callVF (As := [.int p0, .int p1]) (rest := [.int 0, .ref qo]) (wr := [(qo, .inl (cL, 1, .inr (.inl g)))]) (wn := WL cI cZ cL q qo (u', g)) hx hb hml hown hts hM gL_hasFile_X2_hasFile rfl hrm.1 hrm.2.1 hdX2_hasFile ⟨Nat.le_trans (Nat.succ_le_succ hrm.2.2.1) (Nat.le_of_ble_eq_true rfl), Nat.le_trans (Nat.add_le_add_left hrm.2.2.2 _) (Nat.le_of_ble_eq_true rfl)⟩ XG_em hE.1.1 hP hK2 hD hS hA 0 rfl rfl rfl hl.1 rfl (Nat.le_of_ble_eq_true rfl) dL_hasFile_5 ⟨Nat.zero_le _, Nat.zero_le _⟩ [1, 2, 3, 4, 5, 6, 7, 8, 9, 10, 11, 12, 13, 14, 15, 16, 17] [0] [0, 1, 2, 3, 4, 5, 6, 7, 8, 9, 10, 11, 12, 13, 14, 15, 16, 17] (by decide) rfl rfl (by decide) (by decide) (by decide) rfl (fun H locs hP hD hS => ?_)
  refine W.eq (g2 := F0 m 8 ls [.int v, .int 0, .ref qo]) rfl ?_
  refine lv_if_eq (tgt := 15) hx hb dL_hasFile_8 (by decide) (fun c_1 => ?_) (fun c_1 => ?_)
  · refine lv_lconst (v := 0) hx hb dL_hasFile_15 (by decide +kernel) ?_
    refine va_last (i := 0) hx hb hK hP hD hS 0 2 rfl rfl vp_in01 dL_hasFile_16 (fun H locs hP hD hS => ?_)
    have hP : va_P D vwCl (WL cI cZ cL q qo (u', vp_updL g 0 0)) H := hP
    have hD : va_D A (WL cI cZ cL q qo (u', vp_updL g 0 0)) := hD
    refine lv_goto (tgt := 28) hx hb dL_hasFile_17 (by decide) ?_
    refine lv_iconst (v := 0) hx hb dL_hasFile_28 (by decide +kernel) ?_
    refine g_iretW (u1 := (u', vp_updL g 0 0)) hx hb hret hlk hQ hP hD hS dL_hasFile_29 rfl ?_
    rw [show bL v = 0 from if_pos c_1]
  · refine lv_lconst (v := 1) hx hb dL_hasFile_11 (by decide +kernel) ?_
    refine lv_goto (tgt := 16) hx hb dL_hasFile_12 (by decide) ?_
    refine va_last (i := 0) hx hb hK hP hD hS 0 2 rfl rfl vp_in01 dL_hasFile_16 (fun H locs hP hD hS => ?_)
    have hP : va_P D vwCl (WL cI cZ cL q qo (u', vp_updL g 0 1)) H := hP
    have hD : va_D A (WL cI cZ cL q qo (u', vp_updL g 0 1)) := hD
    refine lv_goto (tgt := 28) hx hb dL_hasFile_17 (by decide) ?_
    refine lv_iconst (v := 0) hx hb dL_hasFile_28 (by decide +kernel) ?_
    refine g_iretW (u1 := (u', vp_updL g 0 1)) hx hb hret hlk hQ hP hD hS dL_hasFile_29 rfl ?_
    rw [show bL v = 1 from if_neg c_1]
set_option maxHeartbeats 4000000 in
set_option maxRecDepth 100000 in
theorem wr_hasFile_IOO (l : Launch) (D : va_G) (cI cZ cL : ClassId) (q : Nat → Nat) (qo : Nat) {u : SX} {g : Nat → Int64} {rmc : Room} (p0 p1 : Int32) (hrm : rmc.cells = 1 ∧ rmc.slots = 6 ∧ rmc.frames ≤ 8 ∧ rmc.locals ≤ 200) (hM : gX l yX2_hasFile wsX2_hasFile rmc D [(cI, .int), (cZ, .boolean)] (XW cI cZ q) XE XT [.ref (q 0), .int p0, .int p1] u "java/lang/IndexOutOfBoundsException") : gW l yL_hasFile wsL_hasFile rmL1 D [(cI, .int), (cZ, .boolean), (cL, .long)] (WL cI cZ cL q qo) LE XT [.ref (q 0), .int p0, .int p1, .ref qo] (u, g) (some (.int 1)) (u, g) 1 6 := by
  refine g_startW (cc := cL_hasFile) (maxL := 5) (ret := some .int) (hh := [(0, 17, 20, 13), (0, 17, 24, 15)]) (by decide) rfl (Nat.le_of_ble_eq_true rfl) ?_
  intro p e s m below meth c A ls Q hx hb hml hret hts hown hlk hE hP hK hD hA hl hQ hS hXT htab
  have hown : s.vm.findClass RL = some m.cls := hown
  have hl : lv_has ls 5 [(0, .ref (q 0)), (1, .int p0), (2, .int p1), (3, .ref qo)] := hl
  have hK2 := hK.sub (tys' := [(cI, .int), (cZ, .boolean)]) [0, 1] rfl
  refine lv_aload_n hx hb dL_hasFile_0 rfl (lv_at hl 3 rfl) ?_
  refine lv_iconst (v := 0) hx hb dL_hasFile_1 (by decide +kernel) ?_
  refine lv_aload_n hx hb dL_hasFile_2 rfl (lv_at hl 0 rfl) ?_
  refine lv_iload_n hx hb dL_hasFile_3 rfl (lv_at hl 1 rfl) ?_
  refine lv_iload_n hx hb dL_hasFile_4 rfl (lv_at hl 2 rfl) ?_
  refine g_xVF (As := [.int p0, .int p1]) (rest := [.int 0, .ref qo]) (wr := [(qo, .inl (cL, 1, .inr (.inl g)))]) (wl := WL cI cZ cL q qo (u, g)) hx hb hml hown hts hM gL_hasFile_X2_hasFile rfl hrm.1 hrm.2.1 hdX2_hasFile ⟨Nat.le_trans (Nat.succ_le_succ hrm.2.2.1) (Nat.le_of_ble_eq_true rfl), Nat.le_trans (Nat.add_le_add_left hrm.2.2.2 _) (Nat.le_of_ble_eq_true rfl)⟩ XE_em hE.1 XT_tm hXT hP hK2 hD hS hA 0 rfl rfl rfl hl.1 rfl (Nat.le_of_ble_eq_true rfl) dL_hasFile_5 ⟨Nat.le_of_ble_eq_true rfl, Nat.le_of_ble_eq_true rfl⟩ [1, 2, 3, 4, 5, 6, 7, 8, 9, 10, 11, 12, 13, 14, 15, 16, 17] [0] [0, 1, 2, 3, 4, 5, 6, 7, 8, 9, 10, 11, 12, 13, 14, 15, 16, 17] (by decide) rfl rfl (by decide) (by decide) (by decide) rfl (fun ce q9 H locs hP hD hS hce hcv hcl => ?_)
  refine vx_catch (own := RL) (name := "java/lang/IndexOutOfBoundsException") hown [] (⟨0, 17, 20, 13⟩ : ExceptionTableEntry) [(⟨0, 17, 24, 15⟩ : ExceptionTableEntry)] htab (fun z hz => by cases hz) (by decide) (by decide) (hts _ (List.mem_of_getElem? (i := 1) (by decide +kernel))) (va_Nw.use rfl (hE.1.1.1 _ (List.mem_of_getElem? (i := 9) rfl))) hce hcv hcl ?_
  refine lv_astore (lv' := [(4, .ref q9), (0, .ref (q 0)), (1, .int p0), (2, .int p1), (3, .ref qo)]) hx hb dL_hasFile_20 hl (by decide) rfl (fun ls hl => ?_)
  refine lv_iconst (v := 1) hx hb dL_hasFile_22 (by decide +kernel) ?_
  refine W.widen (k := 1) (n := 6) (by omega) (by omega) ?_
  exact g_iretW (u1 := (u, g)) hx hb hret hlk hQ hP hD hS dL_hasFile_23 rfl rfl
set_option maxHeartbeats 4000000 in
set_option maxRecDepth 100000 in
theorem wr_hasFile_IAE (l : Launch) (D : va_G) (cI cZ cL : ClassId) (q : Nat → Nat) (qo : Nat) {u : SX} {g : Nat → Int64} {rmc : Room} (p0 p1 : Int32) (hrm : rmc.cells = 1 ∧ rmc.slots = 6 ∧ rmc.frames ≤ 8 ∧ rmc.locals ≤ 200) (hM : gX l yX2_hasFile wsX2_hasFile rmc D [(cI, .int), (cZ, .boolean)] (XW cI cZ q) XE XT [.ref (q 0), .int p0, .int p1] u "java/lang/IllegalArgumentException") : gW l yL_hasFile wsL_hasFile rmL1 D [(cI, .int), (cZ, .boolean), (cL, .long)] (WL cI cZ cL q qo) LE XT [.ref (q 0), .int p0, .int p1, .ref qo] (u, g) (some (.int 2)) (u, g) 1 6 := by
  refine g_startW (cc := cL_hasFile) (maxL := 5) (ret := some .int) (hh := [(0, 17, 20, 13), (0, 17, 24, 15)]) (by decide) rfl (Nat.le_of_ble_eq_true rfl) ?_
  intro p e s m below meth c A ls Q hx hb hml hret hts hown hlk hE hP hK hD hA hl hQ hS hXT htab
  have hown : s.vm.findClass RL = some m.cls := hown
  have hl : lv_has ls 5 [(0, .ref (q 0)), (1, .int p0), (2, .int p1), (3, .ref qo)] := hl
  have hK2 := hK.sub (tys' := [(cI, .int), (cZ, .boolean)]) [0, 1] rfl
  refine lv_aload_n hx hb dL_hasFile_0 rfl (lv_at hl 3 rfl) ?_
  refine lv_iconst (v := 0) hx hb dL_hasFile_1 (by decide +kernel) ?_
  refine lv_aload_n hx hb dL_hasFile_2 rfl (lv_at hl 0 rfl) ?_
  refine lv_iload_n hx hb dL_hasFile_3 rfl (lv_at hl 1 rfl) ?_
  refine lv_iload_n hx hb dL_hasFile_4 rfl (lv_at hl 2 rfl) ?_
  refine g_xVF (As := [.int p0, .int p1]) (rest := [.int 0, .ref qo]) (wr := [(qo, .inl (cL, 1, .inr (.inl g)))]) (wl := WL cI cZ cL q qo (u, g)) hx hb hml hown hts hM gL_hasFile_X2_hasFile rfl hrm.1 hrm.2.1 hdX2_hasFile ⟨Nat.le_trans (Nat.succ_le_succ hrm.2.2.1) (Nat.le_of_ble_eq_true rfl), Nat.le_trans (Nat.add_le_add_left hrm.2.2.2 _) (Nat.le_of_ble_eq_true rfl)⟩ XE_em hE.1 XT_tm hXT hP hK2 hD hS hA 0 rfl rfl rfl hl.1 rfl (Nat.le_of_ble_eq_true rfl) dL_hasFile_5 ⟨Nat.le_of_ble_eq_true rfl, Nat.le_of_ble_eq_true rfl⟩ [1, 2, 3, 4, 5, 6, 7, 8, 9, 10, 11, 12, 13, 14, 15, 16, 17] [0] [0, 1, 2, 3, 4, 5, 6, 7, 8, 9, 10, 11, 12, 13, 14, 15, 16, 17] (by decide) rfl rfl (by decide) (by decide) (by decide) rfl (fun ce q9 H locs hP hD hS hce hcv hcl => ?_)
  refine vx_catch (own := RL) (name := "java/lang/IllegalArgumentException") hown [(⟨0, 17, 20, 13⟩ : ExceptionTableEntry)] (⟨0, 17, 24, 15⟩ : ExceptionTableEntry) [] htab (List.forall_mem_cons.mpr ⟨Or.inr ⟨by decide, "java/lang/IndexOutOfBoundsException", hts _ (List.mem_of_getElem? (i := 1) (by decide +kernel)), hE.2.1⟩, fun z hz => by cases hz⟩) (by decide) (by decide) (hts _ (List.mem_of_getElem? (i := 2) (by decide +kernel))) (va_Nw.use rfl (hE.1.1.1 _ (List.mem_of_getElem? (i := 10) rfl))) hce hcv hcl ?_
  refine lv_astore (lv' := [(4, .ref q9), (0, .ref (q 0)), (1, .int p0), (2, .int p1), (3, .ref qo)]) hx hb dL_hasFile_24 hl (by decide) rfl (fun ls hl => ?_)
  refine lv_iconst (v := 2) hx hb dL_hasFile_26 (by decide +kernel) ?_
  refine W.widen (k := 1) (n := 6) (by omega) (by omega) ?_
  exact g_iretW (u1 := (u, g)) hx hb hret hlk hQ hP hD hS dL_hasFile_27 rfl rfl
set_option maxHeartbeats 4000000 in
set_option maxRecDepth 100000 in
theorem wr_isShallow (l : Launch) (D : va_G) (cI cZ cL : ClassId) (q : Nat → Nat) (qo : Nat) {u u' : SX} {g : Nat → Int64} {rmc : Room} (p0 : Int32) {v : Int32} (hrm : rmc.cells = 0 ∧ rmc.slots = 0 ∧ rmc.frames ≤ 8 ∧ rmc.locals ≤ 200) (hM : gM l yX2_isShallow wsX2_isShallow rmc D [(cI, .int), (cZ, .boolean)] (XW cI cZ q) XG [.ref (q 0), .int p0] u (some (.int v)) u') : gW l yL_isShallow wsL_isShallow rmL0 D [(cI, .int), (cZ, .boolean), (cL, .long)] (WL cI cZ cL q qo) LE XT [.ref (q 0), .int p0, .ref qo] (u, g) (some (.int 0)) (u', vp_updL g 0 (bL v)) 0 0 := by
  refine g_startW (cc := cL_isShallow) (maxL := 4) (ret := some .int) (hh := [(0, 16, 19, 13)]) (by decide) rfl (Nat.le_of_ble_eq_true rfl) ?_
  intro p e s m below meth c A ls Q hx hb hml hret hts hown hlk hE hP hK hD hA hl hQ hS hXT htab
  have hown : s.vm.findClass RL = some m.cls := hown
  have hl : lv_has ls 4 [(0, .ref (q 0)), (1, .int p0), (2, .ref qo)] := hl
  have hK2 := hK.sub (tys' := [(cI, .int), (cZ, .boolean)]) [0, 1] rfl
  refine lv_aload_n hx hb dL_isShallow_0 rfl (lv_at hl 2 rfl) ?_
  refine lv_iconst (v := 0) hx hb dL_isShallow_1 (by decide +kernel) ?_
  refine lv_aload_n hx hb dL_isShallow_2 rfl (lv_at hl 0 rfl) ?_
  refine lv_iload_n hx hb dL_isShallow_3 rfl (lv_at hl 1 rfl) ?_
  refine g_callVF (As := [.int p0]) (rest := [.int 0, .ref qo]) (wr := [(qo, .inl (cL, 1, .inr (.inl g)))]) (wn := WL cI cZ cL q qo (u', g)) hx hb hml hown hts hM gL_isShallow_X2_isShallow rfl hrm.1 hrm.2.1 hdX2_isShallow ⟨Nat.le_trans (Nat.succ_le_succ hrm.2.2.1) (Nat.le_of_ble_eq_true rfl), Nat.le_trans (Nat.add_le_add_left hrm.2.2.2 _) (Nat.le_of_ble_eq_true rfl)⟩ XG_em hE.1.1 hP hK2 hD hS hA 0 rfl rfl rfl hl.1 rfl (Nat.le_of_ble_eq_true rfl) dL_isShallow_4 ⟨Nat.zero_le _, Nat.zero_le _⟩ [1, 2, 3, 4, 5, 6, 7, 8, 9, 10, 11, 12, 13, 14, 15, 16, 17] [0] [0, 1, 2, 3, 4, 5, 6, 7, 8, 9, 10, 11, 12, 13, 14, 15, 16, 17] (by decide) rfl rfl (by decide) (by decide) (by decide) rfl (fun H locs hP hD hS => ?_)
  refine W.eq (g2 := F0 m 7 ls [.int v, .int 0, .ref qo]) rfl ?_
  refine lv_if_eq (tgt := 14) hx hb dL_isShallow_7 (by decide) (fun c_1 => ?_) (fun c_1 => ?_)
  · refine lv_lconst (v := 0) hx hb dL_isShallow_14 (by decide +kernel) ?_
    refine va_last (i := 0) hx hb hK hP hD hS 0 2 rfl rfl vp_in01 dL_isShallow_15 (fun H locs hP hD hS => ?_)
    have hP : va_P D vwCl (WL cI cZ cL q qo (u', vp_updL g 0 0)) H := hP
    have hD : va_D A (WL cI cZ cL q qo (u', vp_updL g 0 0)) := hD
    refine lv_goto (tgt := 22) hx hb dL_isShallow_16 (by decide) ?_
    refine lv_iconst (v := 0) hx hb dL_isShallow_22 (by decide +kernel) ?_
    refine g_iretW (u1 := (u', vp_updL g 0 0)) hx hb hret hlk hQ hP hD hS dL_isShallow_23 rfl ?_
    rw [show bL v = 0 from if_pos c_1]
  · refine lv_lconst (v := 1) hx hb dL_isShallow_10 (by decide +kernel) ?_
    refine lv_goto (tgt := 15) hx hb dL_isShallow_11 (by decide) ?_
    refine va_last (i := 0) hx hb hK hP hD hS 0 2 rfl rfl vp_in01 dL_isShallow_15 (fun H locs hP hD hS => ?_)
    have hP : va_P D vwCl (WL cI cZ cL q qo (u', vp_updL g 0 1)) H := hP
    have hD : va_D A (WL cI cZ cL q qo (u', vp_updL g 0 1)) := hD
    refine lv_goto (tgt := 22) hx hb dL_isShallow_16 (by decide) ?_
    refine lv_iconst (v := 0) hx hb dL_isShallow_22 (by decide +kernel) ?_
    refine g_iretW (u1 := (u', vp_updL g 0 1)) hx hb hret hlk hQ hP hD hS dL_isShallow_23 rfl ?_
    rw [show bL v = 1 from if_neg c_1]
set_option maxHeartbeats 4000000 in
set_option maxRecDepth 100000 in
theorem wr_isShallow_IOO (l : Launch) (D : va_G) (cI cZ cL : ClassId) (q : Nat → Nat) (qo : Nat) {u : SX} {g : Nat → Int64} {rmc : Room} (p0 : Int32) (hrm : rmc.cells = 1 ∧ rmc.slots = 6 ∧ rmc.frames ≤ 8 ∧ rmc.locals ≤ 200) (hM : gX l yX2_isShallow wsX2_isShallow rmc D [(cI, .int), (cZ, .boolean)] (XW cI cZ q) XE XT [.ref (q 0), .int p0] u "java/lang/IndexOutOfBoundsException") : gW l yL_isShallow wsL_isShallow rmL1 D [(cI, .int), (cZ, .boolean), (cL, .long)] (WL cI cZ cL q qo) LE XT [.ref (q 0), .int p0, .ref qo] (u, g) (some (.int 1)) (u, g) 1 6 := by
  refine g_startW (cc := cL_isShallow) (maxL := 4) (ret := some .int) (hh := [(0, 16, 19, 13)]) (by decide) rfl (Nat.le_of_ble_eq_true rfl) ?_
  intro p e s m below meth c A ls Q hx hb hml hret hts hown hlk hE hP hK hD hA hl hQ hS hXT htab
  have hown : s.vm.findClass RL = some m.cls := hown
  have hl : lv_has ls 4 [(0, .ref (q 0)), (1, .int p0), (2, .ref qo)] := hl
  have hK2 := hK.sub (tys' := [(cI, .int), (cZ, .boolean)]) [0, 1] rfl
  refine lv_aload_n hx hb dL_isShallow_0 rfl (lv_at hl 2 rfl) ?_
  refine lv_iconst (v := 0) hx hb dL_isShallow_1 (by decide +kernel) ?_
  refine lv_aload_n hx hb dL_isShallow_2 rfl (lv_at hl 0 rfl) ?_
  refine lv_iload_n hx hb dL_isShallow_3 rfl (lv_at hl 1 rfl) ?_
  refine g_xVF (As := [.int p0]) (rest := [.int 0, .ref qo]) (wr := [(qo, .inl (cL, 1, .inr (.inl g)))]) (wl := WL cI cZ cL q qo (u, g)) hx hb hml hown hts hM gL_isShallow_X2_isShallow rfl hrm.1 hrm.2.1 hdX2_isShallow ⟨Nat.le_trans (Nat.succ_le_succ hrm.2.2.1) (Nat.le_of_ble_eq_true rfl), Nat.le_trans (Nat.add_le_add_left hrm.2.2.2 _) (Nat.le_of_ble_eq_true rfl)⟩ XE_em hE.1 XT_tm hXT hP hK2 hD hS hA 0 rfl rfl rfl hl.1 rfl (Nat.le_of_ble_eq_true rfl) dL_isShallow_4 ⟨Nat.le_of_ble_eq_true rfl, Nat.le_of_ble_eq_true rfl⟩ [1, 2, 3, 4, 5, 6, 7, 8, 9, 10, 11, 12, 13, 14, 15, 16, 17] [0] [0, 1, 2, 3, 4, 5, 6, 7, 8, 9, 10, 11, 12, 13, 14, 15, 16, 17] (by decide) rfl rfl (by decide) (by decide) (by decide) rfl (fun ce q9 H locs hP hD hS hce hcv hcl => ?_)
  refine vx_catch (own := RL) (name := "java/lang/IndexOutOfBoundsException") hown [] (⟨0, 16, 19, 13⟩ : ExceptionTableEntry) [] htab (fun z hz => by cases hz) (by decide) (by decide) (hts _ (List.mem_of_getElem? (i := 1) (by decide +kernel))) (va_Nw.use rfl (hE.1.1.1 _ (List.mem_of_getElem? (i := 9) rfl))) hce hcv hcl ?_
  refine lv_astore_n (lv' := [(3, .ref q9), (0, .ref (q 0)), (1, .int p0), (2, .ref qo)]) hx hb dL_isShallow_19 rfl hl (by decide) rfl (fun ls hl => ?_)
  refine lv_iconst (v := 1) hx hb dL_isShallow_20 (by decide +kernel) ?_
  refine W.widen (k := 1) (n := 6) (by omega) (by omega) ?_
  exact g_iretW (u1 := (u, g)) hx hb hret hlk hQ hP hD hS dL_isShallow_21 rfl rfl
set_option maxHeartbeats 4000000 in
set_option maxRecDepth 100000 in
theorem wr_isAncestor (l : Launch) (D : va_G) (cI cZ cL : ClassId) (q : Nat → Nat) (qo : Nat) {u u' : SX} {g : Nat → Int64} {rmc : Room} (p0 p1 p2 : Int32) {v : Int32} (hrm : rmc.cells = 0 ∧ rmc.slots = 0 ∧ rmc.frames ≤ 8 ∧ rmc.locals ≤ 200) (hM : gM l yX2_isAncestor wsX2_isAncestor rmc D [(cI, .int), (cZ, .boolean)] (XW cI cZ q) XG [.ref (q 0), .int p0, .int p1, .int p2] u (some (.int v)) u') : gW l yL_isAncestor wsL_isAncestor rmL0 D [(cI, .int), (cZ, .boolean), (cL, .long)] (WL cI cZ cL q qo) LE XT [.ref (q 0), .int p0, .int p1, .int p2, .ref qo] (u, g) (some (.int 0)) (u', vp_updL g 0 (bL v)) 0 0 := by
  refine g_startW (cc := cL_isAncestor) (maxL := 6) (ret := some .int) (hh := [(0, 19, 22, 13)]) (by decide) rfl (Nat.le_of_ble_eq_true rfl) ?_
  intro p e s m below meth c A ls Q hx hb hml hret hts hown hlk hE hP hK hD hA hl hQ hS hXT htab
  have hown : s.vm.findClass RL = some m.cls := hown
  have hl : lv_has ls 6 [(0, .ref (q 0)), (1, .int p0), (2, .int p1), (3, .int p2), (4, .ref qo)] := hl
  have hK2 := hK.sub (tys' := [(cI, .int), (cZ, .boolean)]) [0, 1] rfl
  refine lv_aload hx hb dL_isAncestor_0 (lv_at hl 4 rfl) ?_
  refine lv_iconst (v := 0) hx hb dL_isAncestor_2 (by decide +kernel) ?_
  refine lv_aload_n hx hb dL_isAncestor_3 rfl (lv_at hl 0 rfl) ?_
  refine lv_iload_n hx hb dL_isAncestor_4 rfl (lv_at hl 1 rfl) ?_
  refine lv_iload_n hx hb dL_isAncestor_5 rfl (lv_at hl 2 rfl) ?_
  refine lv_iload_n hx hb dL_isAncestor_6 rfl (lv_at hl 3 rfl) ?_
  refine g_callVF (As := [.int p0, .int p1, .int p2]) (rest := [.int 0, .ref qo]) (wr := [(qo, .inl (cL, 1, .inr (.inl g)))]) (wn := WL cI cZ cL q qo (u', g)) hx hb hml hown hts hM gL_isAncestor_X2_isAncestor rfl hrm.1 hrm.2.1 hdX2_isAncestor ⟨Nat.le_trans (Nat.succ_le_succ hrm.2.2.1) (Nat.le_of_ble_eq_true rfl), Nat.le_trans (Nat.add_le_add_left hrm.2.2.2 _) (Nat.le_of_ble_eq_true rfl)⟩ XG_em hE.1.1 hP hK2 hD hS hA 0 rfl rfl rfl hl.1 rfl (Nat.le_of_ble_eq_true rfl) dL_isAncestor_7 ⟨Nat.zero_le _, Nat.zero_le _⟩ [1, 2, 3, 4, 5, 6, 7, 8, 9, 10, 11, 12, 13, 14, 15, 16, 17] [0] [0, 1, 2, 3, 4, 5, 6, 7, 8, 9, 10, 11, 12, 13, 14, 15, 16, 17] (by decide) rfl rfl (by decide) (by decide) (by decide) rfl (fun H locs hP hD hS => ?_)
  refine W.eq (g2 := F0 m 10 ls [.int v, .int 0, .ref qo]) rfl ?_
  refine lv_if_eq (tgt := 17) hx hb dL_isAncestor_10 (by decide) (fun c_1 => ?_) (fun c_1 => ?_)
  · refine lv_lconst (v := 0) hx hb dL_isAncestor_17 (by decide +kernel) ?_
    refine va_last (i := 0) hx hb hK hP hD hS 0 2 rfl rfl vp_in01 dL_isAncestor_18 (fun H locs hP hD hS => ?_)
    have hP : va_P D vwCl (WL cI cZ cL q qo (u', vp_updL g 0 0)) H := hP
    have hD : va_D A (WL cI cZ cL q qo (u', vp_updL g 0 0)) := hD
    refine lv_goto (tgt := 26) hx hb dL_isAncestor_19 (by decide) ?_
    refine lv_iconst (v := 0) hx hb dL_isAncestor_26 (by decide +kernel) ?_
    refine g_iretW (u1 := (u', vp_updL g 0 0)) hx hb hret hlk hQ hP hD hS dL_isAncestor_27 rfl ?_
    rw [show bL v = 0 from if_pos c_1]
  · refine lv_lconst (v := 1) hx hb dL_isAncestor_13 (by decide +kernel) ?_
    refine lv_goto (tgt := 18) hx hb dL_isAncestor_14 (by decide) ?_
    refine va_last (i := 0) hx hb hK hP hD hS 0 2 rfl rfl vp_in01 dL_isAncestor_18 (fun H locs hP hD hS => ?_)
    have hP : va_P D vwCl (WL cI cZ cL q qo (u', vp_updL g 0 1)) H := hP
    have hD : va_D A (WL cI cZ cL q qo (u', vp_updL g 0 1)) := hD
    refine lv_goto (tgt := 26) hx hb dL_isAncestor_19 (by decide) ?_
    refine lv_iconst (v := 0) hx hb dL_isAncestor_26 (by decide +kernel) ?_
    refine g_iretW (u1 := (u', vp_updL g 0 1)) hx hb hret hlk hQ hP hD hS dL_isAncestor_27 rfl ?_
    rw [show bL v = 1 from if_neg c_1]
set_option maxHeartbeats 4000000 in
set_option maxRecDepth 100000 in
theorem wr_isAncestor_IOO (l : Launch) (D : va_G) (cI cZ cL : ClassId) (q : Nat → Nat) (qo : Nat) {u : SX} {g : Nat → Int64} {rmc : Room} (p0 p1 p2 : Int32) (hrm : rmc.cells = 1 ∧ rmc.slots = 6 ∧ rmc.frames ≤ 8 ∧ rmc.locals ≤ 200) (hM : gX l yX2_isAncestor wsX2_isAncestor rmc D [(cI, .int), (cZ, .boolean)] (XW cI cZ q) XE XT [.ref (q 0), .int p0, .int p1, .int p2] u "java/lang/IndexOutOfBoundsException") : gW l yL_isAncestor wsL_isAncestor rmL1 D [(cI, .int), (cZ, .boolean), (cL, .long)] (WL cI cZ cL q qo) LE XT [.ref (q 0), .int p0, .int p1, .int p2, .ref qo] (u, g) (some (.int 1)) (u, g) 1 6 := by
  refine g_startW (cc := cL_isAncestor) (maxL := 6) (ret := some .int) (hh := [(0, 19, 22, 13)]) (by decide) rfl (Nat.le_of_ble_eq_true rfl) ?_
  intro p e s m below meth c A ls Q hx hb hml hret hts hown hlk hE hP hK hD hA hl hQ hS hXT htab
  have hown : s.vm.findClass RL = some m.cls := hown
  have hl : lv_has ls 6 [(0, .ref (q 0)), (1, .int p0), (2, .int p1), (3, .int p2), (4, .ref qo)] := hl
  have hK2 := hK.sub (tys' := [(cI, .int), (cZ, .boolean)]) [0, 1] rfl
  refine lv_aload hx hb dL_isAncestor_0 (lv_at hl 4 rfl) ?_
  refine lv_iconst (v := 0) hx hb dL_isAncestor_2 (by decide +kernel) ?_
  refine lv_aload_n hx hb dL_isAncestor_3 rfl (lv_at hl 0 rfl) ?_
  refine lv_iload_n hx hb dL_isAncestor_4 rfl (lv_at hl 1 rfl) ?_
  refine lv_iload_n hx hb dL_isAncestor_5 rfl (lv_at hl 2 rfl) ?_
  refine lv_iload_n hx hb dL_isAncestor_6 rfl (lv_at hl 3 rfl) ?_
  refine g_xVF (As := [.int p0, .int p1, .int p2]) (rest := [.int 0, .ref qo]) (wr := [(qo, .inl (cL, 1, .inr (.inl g)))]) (wl := WL cI cZ cL q qo (u, g)) hx hb hml hown hts hM gL_isAncestor_X2_isAncestor rfl hrm.1 hrm.2.1 hdX2_isAncestor ⟨Nat.le_trans (Nat.succ_le_succ hrm.2.2.1) (Nat.le_of_ble_eq_true rfl), Nat.le_trans (Nat.add_le_add_left hrm.2.2.2 _) (Nat.le_of_ble_eq_true rfl)⟩ XE_em hE.1 XT_tm hXT hP hK2 hD hS hA 0 rfl rfl rfl hl.1 rfl (Nat.le_of_ble_eq_true rfl) dL_isAncestor_7 ⟨Nat.le_of_ble_eq_true rfl, Nat.le_of_ble_eq_true rfl⟩ [1, 2, 3, 4, 5, 6, 7, 8, 9, 10, 11, 12, 13, 14, 15, 16, 17] [0] [0, 1, 2, 3, 4, 5, 6, 7, 8, 9, 10, 11, 12, 13, 14, 15, 16, 17] (by decide) rfl rfl (by decide) (by decide) (by decide) rfl (fun ce q9 H locs hP hD hS hce hcv hcl => ?_)
  refine vx_catch (own := RL) (name := "java/lang/IndexOutOfBoundsException") hown [] (⟨0, 19, 22, 13⟩ : ExceptionTableEntry) [] htab (fun z hz => by cases hz) (by decide) (by decide) (hts _ (List.mem_of_getElem? (i := 1) (by decide +kernel))) (va_Nw.use rfl (hE.1.1.1 _ (List.mem_of_getElem? (i := 9) rfl))) hce hcv hcl ?_
  refine lv_astore (lv' := [(5, .ref q9), (0, .ref (q 0)), (1, .int p0), (2, .int p1), (3, .int p2), (4, .ref qo)]) hx hb dL_isAncestor_22 hl (by decide) rfl (fun ls hl => ?_)
  refine lv_iconst (v := 1) hx hb dL_isAncestor_24 (by decide +kernel) ?_
  refine W.widen (k := 1) (n := 6) (by omega) (by omega) ?_
  exact g_iretW (u1 := (u, g)) hx hb hret hlk hQ hP hD hS dL_isAncestor_25 rfl rfl
