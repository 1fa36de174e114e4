abbrev rmX2_make_ns : Room := { frames := 7, cells := 1, slots := 6, locals := 103 }
set_option maxHeartbeats 4000000 in
set_option maxRecDepth 100000 in
theorem ctX2_make_ns (l : Launch) (hst : l.stackTraces = false) (D : va_G) (cI cZ : ClassId) (q : Nat → Nat) (u : SX) (p0 p1 p2 p3 p4 : Int32) (h : xRange p0 2 = 0) : gX l yX2_make wsX2_make rmX2_make_ns D [(cI, .int), (cZ, .boolean)] (XW cI cZ q) XE XT [.ref (q 0), .int p0, .int p1, .int p2, .int p3, .int p4] u "java/lang/IndexOutOfBoundsException" := by
  refine g_startX (cc := cX2_make) (maxL := 8) (ret := (some .int)) (by decide) rfl (Nat.le_of_ble_eq_true rfl) ?_
  intro p e s m below meth c A ls Q hx hb hml hret hts hown hlk hXE hP hK hD hA hl hQ hS hXT htab
  have hE := hXE.1
  have hown : s.vm.findClass RX2 = some m.cls := hown
  have hl : lv_has ls 8 [(0, .ref (q 0)), (1, .int p0), (2, .int p1), (3, .int p2), (4, .int p3), (5, .int p4)] := hl
  refine lv_aload_n hx hb dX2_make_0 rfl (lv_at hl 0 rfl) ?_
  refine lv_iload_n hx hb dX2_make_1 rfl (lv_at hl 1 rfl) ?_
  exact g_xV (As := [.int p0]) (rest := []) hx hb hml hown hts (ctX2_storeOf_x l hst D cI cZ q u p0 h) gX2_make_X2_storeOf rfl rfl rfl hdX2_storeOf ⟨Nat.le_of_ble_eq_true rfl, Nat.le_of_ble_eq_true rfl⟩ XE_em hXE XT_tm (fun U hU hW => g_Tin XT_tm hXT hD hS hA hU hW) hP hK hD hS hA 0 rfl rfl rfl hl.1 rfl (Nat.le_of_ble_eq_true rfl) dX2_make_2 ⟨Nat.le_of_ble_eq_true rfl, Nat.le_of_ble_eq_true rfl⟩ (fun _ _ _ _ _ hE1 hP1 hD1 hS1 hz9 _ hce hcv hcl => g_out hQ htab hlk hE1 hP1 hD1 hS1 (Nat.le_trans (Nat.succ_le_succ hS.1) hz9) hce hcv hcl (Nat.le_refl _) (Nat.le_refl _))
abbrev rmX2_setRef_ns : Room := { frames := 7, cells := 1, slots := 6, locals := 103 }
set_option maxHeartbeats 4000000 in
set_option maxRecDepth 100000 in
theorem ctX2_setRef_ns (l : Launch) (hst : l.stackTraces = false) (D : va_G) (cI cZ : ClassId) (q : Nat → Nat) (u : SX) (p0 p1 p2 : Int32) (h : xRange p0 2 = 0) : gX l yX2_setRef wsX2_setRef rmX2_setRef_ns D [(cI, .int), (cZ, .boolean)] (XW cI cZ q) XE XT [.ref (q 0), .int p0, .int p1, .int p2] u "java/lang/IndexOutOfBoundsException" := by
  refine g_startX (cc := cX2_setRef) (maxL := 6) (ret := (some .int)) (by decide) rfl (Nat.le_of_ble_eq_true rfl) ?_
  intro p e s m below meth c A ls Q hx hb hml hret hts hown hlk hXE hP hK hD hA hl hQ hS hXT htab
  have hE := hXE.1
  have hown : s.vm.findClass RX2 = some m.cls := hown
  have hl : lv_has ls 6 [(0, .ref (q 0)), (1, .int p0), (2, .int p1), (3, .int p2)] := hl
  refine lv_aload_n hx hb dX2_setRef_0 rfl (lv_at hl 0 rfl) ?_
  refine lv_iload_n hx hb dX2_setRef_1 rfl (lv_at hl 1 rfl) ?_
  exact g_xV (As := [.int p0]) (rest := []) hx hb hml hown hts (ctX2_storeOf_x l hst D cI cZ q u p0 h) gX2_setRef_X2_storeOf rfl rfl rfl hdX2_storeOf ⟨Nat.le_of_ble_eq_true rfl, Nat.le_of_ble_eq_true rfl⟩ XE_em hXE XT_tm (fun U hU hW => g_Tin XT_tm hXT hD hS hA hU hW) hP hK hD hS hA 0 rfl rfl rfl hl.1 rfl (Nat.le_of_ble_eq_true rfl) dX2_setRef_2 ⟨Nat.le_of_ble_eq_true rfl, Nat.le_of_ble_eq_true rfl⟩ (fun _ _ _ _ _ hE1 hP1 hD1 hS1 hz9 _ hce hcv hcl => g_out hQ htab hlk hE1 hP1 hD1 hS1 (Nat.le_trans (Nat.succ_le_succ hS.1) hz9) hce hcv hcl (Nat.le_refl _) (Nat.le_refl _))
abbrev rmX2_ref_ns : Room := { frames := 7, cells := 1, slots := 6, locals := 103 }
set_option maxHeartbeats 4000000 in
set_option maxRecDepth 100000 in
theorem ctX2_ref_ns (l : Launch) (hst : l.stackTraces = false) (D : va_G) (cI cZ : ClassId) (q : Nat → Nat) (u : SX) (p0 p1 : Int32) (h : xRange p0 2 = 0) : gX l yX2_ref wsX2_ref rmX2_ref_ns D [(cI, .int), (cZ, .boolean)] (XW cI cZ q) XE XT [.ref (q 0), .int p0, .int p1] u "java/lang/IndexOutOfBoundsException" := by
  refine g_startX (cc := cX2_ref) (maxL := 4) (ret := (some .int)) (by decide) rfl (Nat.le_of_ble_eq_true rfl) ?_
  intro p e s m below meth c A ls Q hx hb hml hret hts hown hlk hXE hP hK hD hA hl hQ hS hXT htab
  have hE := hXE.1
  have hown : s.vm.findClass RX2 = some m.cls := hown
  have hl : lv_has ls 4 [(0, .ref (q 0)), (1, .int p0), (2, .int p1)] := hl
  refine lv_aload_n hx hb dX2_ref_0 rfl (lv_at hl 0 rfl) ?_
  refine lv_iload_n hx hb dX2_ref_1 rfl (lv_at hl 1 rfl) ?_
  exact g_xV (As := [.int p0]) (rest := []) hx hb hml hown hts (ctX2_storeOf_x l hst D cI cZ q u p0 h) gX2_ref_X2_storeOf rfl rfl rfl hdX2_storeOf ⟨Nat.le_of_ble_eq_true rfl, Nat.le_of_ble_eq_true rfl⟩ XE_em hXE XT_tm (fun U hU hW => g_Tin XT_tm hXT hD hS hA hU hW) hP hK hD hS hA 0 rfl rfl rfl hl.1 rfl (Nat.le_of_ble_eq_true rfl) dX2_ref_2 ⟨Nat.le_of_ble_eq_true rfl, Nat.le_of_ble_eq_true rfl⟩ (fun _ _ _ _ _ hE1 hP1 hD1 hS1 hz9 _ hce hcv hcl => g_out hQ htab hlk hE1 hP1 hD1 hS1 (Nat.le_trans (Nat.succ_le_succ hS.1) hz9) hce hcv hcl (Nat.le_refl _) (Nat.le_refl _))
abbrev rmX2_collect_ns : Room := { frames := 7, cells := 1, slots := 6, locals := 103 }
set_option maxHeartbeats 4000000 in
set_option maxRecDepth 100000 in
theorem ctX2_collect_ns (l : Launch) (hst : l.stackTraces = false) (D : va_G) (cI cZ : ClassId) (q : Nat → Nat) (u : SX) (p0 : Int32) (h : xRange p0 2 = 0) : gX l yX2_collect wsX2_collect rmX2_collect_ns D [(cI, .int), (cZ, .boolean)] (XW cI cZ q) XE XT [.ref (q 0), .int p0] u "java/lang/IndexOutOfBoundsException" := by
  refine g_startX (cc := cX2_collect) (maxL := 6) (ret := (some .int)) (by decide) rfl (Nat.le_of_ble_eq_true rfl) ?_
  intro p e s m below meth c A ls Q hx hb hml hret hts hown hlk hXE hP hK hD hA hl hQ hS hXT htab
  have hE := hXE.1
  have hown : s.vm.findClass RX2 = some m.cls := hown
  have hl : lv_has ls 6 [(0, .ref (q 0)), (1, .int p0)] := hl
  refine lv_aload_n hx hb dX2_collect_0 rfl (lv_at hl 0 rfl) ?_
  refine lv_iload_n hx hb dX2_collect_1 rfl (lv_at hl 1 rfl) ?_
  exact g_xV (As := [.int p0]) (rest := []) hx hb hml hown hts (ctX2_storeOf_x l hst D cI cZ q u p0 h) gX2_collect_X2_storeOf rfl rfl rfl hdX2_storeOf ⟨Nat.le_of_ble_eq_true rfl, Nat.le_of_ble_eq_true rfl⟩ XE_em hXE XT_tm (fun U hU hW => g_Tin XT_tm hXT hD hS hA hU hW) hP hK hD hS hA 0 rfl rfl rfl hl.1 rfl (Nat.le_of_ble_eq_true rfl) dX2_collect_2 ⟨Nat.le_of_ble_eq_true rfl, Nat.le_of_ble_eq_true rfl⟩ (fun _ _ _ _ _ hE1 hP1 hD1 hS1 hz9 _ hce hcv hcl => g_out hQ htab hlk hE1 hP1 hD1 hS1 (Nat.le_trans (Nat.succ_le_succ hS.1) hz9) hce hcv hcl (Nat.le_refl _) (Nat.le_refl _))
abbrev rmX2_has_ns : Room := { frames := 7, cells := 1, slots := 6, locals := 103 }
set_option maxHeartbeats 4000000 in
set_option maxRecDepth 100000 in
theorem ctX2_has_ns (l : Launch) (hst : l.stackTraces = false) (D : va_G) (cI cZ : ClassId) (q : Nat → Nat) (u : SX) (p0 p1 : Int32) (h : xRange p0 2 = 0) : gX l yX2_has wsX2_has rmX2_has_ns D [(cI, .int), (cZ, .boolean)] (XW cI cZ q) XE XT [.ref (q 0), .int p0, .int p1] u "java/lang/IndexOutOfBoundsException" := by
  refine g_startX (cc := cX2_has) (maxL := 4) (ret := (some .boolean)) (by decide) rfl (Nat.le_of_ble_eq_true rfl) ?_
  intro p e s m below meth c A ls Q hx hb hml hret hts hown hlk hXE hP hK hD hA hl hQ hS hXT htab
  have hE := hXE.1
  have hown : s.vm.findClass RX2 = some m.cls := hown
  have hl : lv_has ls 4 [(0, .ref (q 0)), (1, .int p0), (2, .int p1)] := hl
  refine lv_aload_n hx hb dX2_has_0 rfl (lv_at hl 0 rfl) ?_
  refine lv_iload_n hx hb dX2_has_1 rfl (lv_at hl 1 rfl) ?_
  exact g_xV (As := [.int p0]) (rest := []) hx hb hml hown hts (ctX2_storeOf_x l hst D cI cZ q u p0 h) gX2_has_X2_storeOf rfl rfl rfl hdX2_storeOf ⟨Nat.le_of_ble_eq_true rfl, Nat.le_of_ble_eq_true rfl⟩ XE_em hXE XT_tm (fun U hU hW => g_Tin XT_tm hXT hD hS hA hU hW) hP hK hD hS hA 0 rfl rfl rfl hl.1 rfl (Nat.le_of_ble_eq_true rfl) dX2_has_2 ⟨Nat.le_of_ble_eq_true rfl, Nat.le_of_ble_eq_true rfl⟩ (fun _ _ _ _ _ hE1 hP1 hD1 hS1 hz9 _ hce hcv hcl => g_out hQ htab hlk hE1 hP1 hD1 hS1 (Nat.le_trans (Nat.succ_le_succ hS.1) hz9) hce hcv hcl (Nat.le_refl _) (Nat.le_refl _))
abbrev rmX2_hasFile_ns : Room := { frames := 7, cells := 1, slots := 6, locals := 103 }
set_option maxHeartbeats 4000000 in
set_option maxRecDepth 100000 in
theorem ctX2_hasFile_ns (l : Launch) (hst : l.stackTraces = false) (D : va_G) (cI cZ : ClassId) (q : Nat → Nat) (u : SX) (p0 p1 : Int32) (h : xRange p0 2 = 0) : gX l yX2_hasFile wsX2_hasFile rmX2_hasFile_ns D [(cI, .int), (cZ, .boolean)] (XW cI cZ q) XE XT [.ref (q 0), .int p0, .int p1] u "java/lang/IndexOutOfBoundsException" := by
  refine g_startX (cc := cX2_hasFile) (maxL := 4) (ret := (some .boolean)) (by decide) rfl (Nat.le_of_ble_eq_true rfl) ?_
  intro p e s m below meth c A ls Q hx hb hml hret hts hown hlk hXE hP hK hD hA hl hQ hS hXT htab
  have hE := hXE.1
  have hown : s.vm.findClass RX2 = some m.cls := hown
  have hl : lv_has ls 4 [(0, .ref (q 0)), (1, .int p0), (2, .int p1)] := hl
  refine lv_aload_n hx hb dX2_hasFile_0 rfl (lv_at hl 0 rfl) ?_
  refine lv_iload_n hx hb dX2_hasFile_1 rfl (lv_at hl 1 rfl) ?_
  exact g_xV (As := [.int p0]) (rest := []) hx hb hml hown hts (ctX2_storeOf_x l hst D cI cZ q u p0 h) gX2_hasFile_X2_storeOf rfl rfl rfl hdX2_storeOf ⟨Nat.le_of_ble_eq_true rfl, Nat.le_of_ble_eq_true rfl⟩ XE_em hXE XT_tm (fun U hU hW => g_Tin XT_tm hXT hD hS hA hU hW) hP hK hD hS hA 0 rfl rfl rfl hl.1 rfl (Nat.le_of_ble_eq_true rfl) dX2_hasFile_2 ⟨Nat.le_of_ble_eq_true rfl, Nat.le_of_ble_eq_true rfl⟩ (fun _ _ _ _ _ hE1 hP1 hD1 hS1 hz9 _ hce hcv hcl => g_out hQ htab hlk hE1 hP1 hD1 hS1 (Nat.le_trans (Nat.succ_le_succ hS.1) hz9) hce hcv hcl (Nat.le_refl _) (Nat.le_refl _))
abbrev rmX2_isAncestor_ns : Room := { frames := 7, cells := 1, slots := 6, locals := 103 }
set_option maxHeartbeats 4000000 in
set_option maxRecDepth 100000 in
theorem ctX2_isAncestor_ns (l : Launch) (hst : l.stackTraces = false) (D : va_G) (cI cZ : ClassId) (q : Nat → Nat) (u : SX) (p0 p1 p2 : Int32) (h : xRange p0 2 = 0) : gX l yX2_isAncestor wsX2_isAncestor rmX2_isAncestor_ns D [(cI, .int), (cZ, .boolean)] (XW cI cZ q) XE XT [.ref (q 0), .int p0, .int p1, .int p2] u "java/lang/IndexOutOfBoundsException" := by
  refine g_startX (cc := cX2_isAncestor) (maxL := 5) (ret := (some .boolean)) (by decide) rfl (Nat.le_of_ble_eq_true rfl) ?_
  intro p e s m below meth c A ls Q hx hb hml hret hts hown hlk hXE hP hK hD hA hl hQ hS hXT htab
  have hE := hXE.1
  have hown : s.vm.findClass RX2 = some m.cls := hown
  have hl : lv_has ls 5 [(0, .ref (q 0)), (1, .int p0), (2, .int p1), (3, .int p2)] := hl
  refine lv_aload_n hx hb dX2_isAncestor_0 rfl (lv_at hl 0 rfl) ?_
  refine lv_iload_n hx hb dX2_isAncestor_1 rfl (lv_at hl 1 rfl) ?_
  exact g_xV (As := [.int p0]) (rest := []) hx hb hml hown hts (ctX2_storeOf_x l hst D cI cZ q u p0 h) gX2_isAncestor_X2_storeOf rfl rfl rfl hdX2_storeOf ⟨Nat.le_of_ble_eq_true rfl, Nat.le_of_ble_eq_true rfl⟩ XE_em hXE XT_tm (fun U hU hW => g_Tin XT_tm hXT hD hS hA hU hW) hP hK hD hS hA 0 rfl rfl rfl hl.1 rfl (Nat.le_of_ble_eq_true rfl) dX2_isAncestor_2 ⟨Nat.le_of_ble_eq_true rfl, Nat.le_of_ble_eq_true rfl⟩ (fun _ _ _ _ _ hE1 hP1 hD1 hS1 hz9 _ hce hcv hcl => g_out hQ htab hlk hE1 hP1 hD1 hS1 (Nat.le_trans (Nat.succ_le_succ hS.1) hz9) hce hcv hcl (Nat.le_refl _) (Nat.le_refl _))
theorem lkX2_make_c55 : Cond.classLink RX2 55 "java/lang/IllegalArgumentException" ∈ wsX2_make := List.mem_of_getElem? (i := 1) (by decide +kernel)
theorem lkX2_make_c66 : Cond.classLink RX2 66 "java/lang/IllegalStateException" ∈ wsX2_make := List.mem_of_getElem? (i := 3) (by decide +kernel)
theorem lkX2_make_iIAE : Cond.initialized "java/lang/IllegalArgumentException" ∈ wsX2_make := List.mem_of_getElem? (i := 2) (by decide +kernel)
theorem lkX2_make_iISE : Cond.initialized "java/lang/IllegalStateException" ∈ wsX2_make := List.mem_of_getElem? (i := 4) (by decide +kernel)
theorem atX2_make_59 : ∀ w ∈ (vx_atS RX2 59 "java/lang/IllegalArgumentException" xNm).filter goodWord, w ∈ wsX2_make := fun w h => List.mem_cons_of_mem _ (List.mem_append_left _ (List.mem_append_left _ (List.mem_append_right _ h)))
theorem atX2_make_70 : ∀ w ∈ (vx_atS RX2 70 "java/lang/IllegalStateException" xNm).filter goodWord, w ∈ wsX2_make := fun w h => List.mem_cons_of_mem _ (List.mem_append_left _ (List.mem_append_right _ h))
abbrev rmX2_make_x0 : Room := { frames := 7, cells := 1, slots := 6, locals := 103 }
set_option maxHeartbeats 4000000 in
set_option maxRecDepth 100000 in
theorem ctX2_make_x0 (l : Launch) (hst : l.stackTraces = false) (D : va_G) (cI cZ : ClassId) (q : Nat → Nat) (u : SX) (n : Nat) (hn : u.1 15 0 = nI n) (h60 : n ≤ 60) (p0 p1 p2 p3 p4 : Int32) (hs : p0 = 0) (z : Int32) (hz : xMakeC n (u.2 0) p1 p2 p3 p4 = z) (hz0 : ¬ z = 0) : gX l yX2_make wsX2_make rmX2_make_x0 D [(cI, .int), (cZ, .boolean)] (XW cI cZ q) XE XT [.ref (q 0), .int p0, .int p1, .int p2, .int p3, .int p4] u (exA z) := by
  refine g_startX (cc := cX2_make) (maxL := 8) (ret := (some .int)) (by decide) rfl (Nat.le_of_ble_eq_true rfl) ?_
  intro p e s m below meth c A ls Q hx hb hml hret hts hown hlk hXE hP hK hD hA hl hQ hS hXT htab
  have hE := hXE.1
  have hown : s.vm.findClass RX2 = some m.cls := hown
  have hl : lv_has ls 8 [(0, .ref (q 0)), (1, .int p0), (2, .int p1), (3, .int p2), (4, .int p3), (5, .int p4)] := hl
  refine lv_aload_n hx hb dX2_make_0 rfl (lv_at hl 0 rfl) ?_
  refine lv_iload_n hx hb dX2_make_1 rfl (lv_at hl 1 rfl) ?_
  refine g_callV (As := [.int p0]) (rest := []) hx hb hml hown hts (ctX2_storeOf_0 l D cI cZ q u p0 hs) gX2_make_X2_storeOf rfl rfl rfl hdX2_storeOf ⟨Nat.le_of_ble_eq_true rfl, Nat.le_of_ble_eq_true rfl⟩ XG_em hE hP hK hD hS hA 0 rfl rfl rfl hl.1 rfl (Nat.le_of_ble_eq_true rfl) dX2_make_2 ⟨Nat.zero_le _, Nat.zero_le _⟩ (fun H locs hP hD hS => ?_)
  have hP : va_P D vwCl (XW cI cZ q u) H := hP
  have hD : va_D A (XW cI cZ q u) := hD
  refine W.eq (g2 := F0 m 5 ls [.ref (q 2)]) rfl ?_
  refine lv_astore (lv' := [(6, .ref (q 2)), (0, .ref (q 0)), (1, .int p0), (2, .int p1), (3, .int p2), (4, .int p3), (5, .int p4)]) hx hb dX2_make_5 hl (by decide) rfl (fun ls hl => ?_)
  refine lv_iload hx hb dX2_make_7 (lv_at hl 5 rfl) ?_
  by_cases k_9 : xRange p3 4 = 0
  · have hzz : z = 1 := hz.symm.trans (by unfold xMakeC; rw [if_pos k_9])
    subst hzz
    rw [exA_1] at hQ
    exact g_xS (As := [.int p3]) (rest := []) hx hb hml hown hts (ctX2_checkSlot_x l hst D cI cZ q u p3 k_9) gX2_make_X2_checkSlot rfl rfl rfl hdX2_checkSlot ⟨Nat.le_of_ble_eq_true rfl, Nat.le_of_ble_eq_true rfl⟩ XE_em hXE XT_tm (fun U hU hW => g_Tin XT_tm hXT hD hS hA hU hW) hP hK hD hS hA rfl hl.1 rfl (Nat.le_of_ble_eq_true rfl) dX2_make_9 ⟨Nat.le_of_ble_eq_true rfl, Nat.le_of_ble_eq_true rfl⟩ (fun _ _ _ _ _ hE1 hP1 hD1 hS1 hz9 _ hce hcv hcl => g_out hQ htab hlk hE1 hP1 hD1 hS1 (Nat.le_trans (Nat.succ_le_succ hS.1) hz9) hce hcv hcl (Nat.le_refl _) (Nat.le_refl _))
  · refine g_callS0 (As := [.int p3]) (rest := []) hx hb hml hown hts (ctX2_checkSlot l D cI cZ q p3 k_9) gX2_make_X2_checkSlot rfl rfl rfl hdX2_checkSlot ⟨Nat.le_of_ble_eq_true rfl, Nat.le_of_ble_eq_true rfl⟩ gEM_true trivial hP hK hS hA rfl hl.1 rfl (Nat.le_of_ble_eq_true rfl) dX2_make_9 ⟨Nat.zero_le _, Nat.zero_le _⟩ (fun H locs hP hS => ?_)
    refine W.eq (g2 := F0 m 12 ls []) rfl ?_
    refine lv_aload hx hb dX2_make_12 (lv_at hl 0 rfl) ?_
    refine lv_iload_n hx hb dX2_make_14 rfl (lv_at hl 3 rfl) ?_
    by_cases k_15 : xHoN (u.2 0) p1 = 0
    · have hzz : z = 1 := hz.symm.trans (by unfold xMakeC; rw [if_neg k_9, if_pos k_15])
      subst hzz
      rw [exA_1] at hQ
      exact g_xS (As := [.ref (q 2), .int p1]) (rest := []) hx hb hml hown hts (ctX2_checkHeldOrNone_x0 l hst D cI cZ q u p1 k_15) gX2_make_X2_checkHeldOrNone rfl rfl rfl hdX2_checkHeldOrNone ⟨Nat.le_of_ble_eq_true rfl, Nat.le_of_ble_eq_true rfl⟩ XE_em hXE XT_tm (fun U hU hW => g_Tin XT_tm hXT hD hS hA hU hW) hP hK hD hS hA rfl hl.1 rfl (Nat.le_of_ble_eq_true rfl) dX2_make_15 ⟨Nat.le_of_ble_eq_true rfl, Nat.le_of_ble_eq_true rfl⟩ (fun _ _ _ _ _ hE1 hP1 hD1 hS1 hz9 _ hce hcv hcl => g_out hQ htab hlk hE1 hP1 hD1 hS1 (Nat.le_trans (Nat.succ_le_succ hS.1) hz9) hce hcv hcl (Nat.le_refl _) (Nat.le_refl _))
    · refine g_callS (As := [.ref (q 2), .int p1]) (rest := []) hx hb hml hown hts (ctX2_checkHeldOrNone_0 l D cI cZ q u p1 (hon_or k_15)) gX2_make_X2_checkHeldOrNone rfl rfl rfl hdX2_checkHeldOrNone ⟨Nat.le_of_ble_eq_true rfl, Nat.le_of_ble_eq_true rfl⟩ XG_em hE hP hK hD hS hA rfl hl.1 rfl (Nat.le_of_ble_eq_true rfl) dX2_make_15 ⟨Nat.zero_le _, Nat.zero_le _⟩ (fun H locs hP hD hS => ?_)
      have hP : va_P D vwCl (XW cI cZ q u) H := hP
      have hD : va_D A (XW cI cZ q u) := hD
      refine W.eq (g2 := F0 m 18 ls []) rfl ?_
      refine lv_aload hx hb dX2_make_18 (lv_at hl 0 rfl) ?_
      refine lv_iload_n hx hb dX2_make_20 rfl (lv_at hl 4 rfl) ?_
      by_cases k_21 : xHoN (u.2 0) p2 = 0
      · have hzz : z = 1 := hz.symm.trans (by unfold xMakeC; rw [if_neg k_9, if_neg k_15, if_pos k_21])
        subst hzz
        rw [exA_1] at hQ
        exact g_xS (As := [.ref (q 2), .int p2]) (rest := []) hx hb hml hown hts (ctX2_checkHeldOrNone_x0 l hst D cI cZ q u p2 k_21) gX2_make_X2_checkHeldOrNone rfl rfl rfl hdX2_checkHeldOrNone ⟨Nat.le_of_ble_eq_true rfl, Nat.le_of_ble_eq_true rfl⟩ XE_em hXE XT_tm (fun U hU hW => g_Tin XT_tm hXT hD hS hA hU hW) hP hK hD hS hA rfl hl.1 rfl (Nat.le_of_ble_eq_true rfl) dX2_make_21 ⟨Nat.le_of_ble_eq_true rfl, Nat.le_of_ble_eq_true rfl⟩ (fun _ _ _ _ _ hE1 hP1 hD1 hS1 hz9 _ hce hcv hcl => g_out hQ htab hlk hE1 hP1 hD1 hS1 (Nat.le_trans (Nat.succ_le_succ hS.1) hz9) hce hcv hcl (Nat.le_refl _) (Nat.le_refl _))
      · refine g_callS (As := [.ref (q 2), .int p2]) (rest := []) hx hb hml hown hts (ctX2_checkHeldOrNone_0 l D cI cZ q u p2 (hon_or k_21)) gX2_make_X2_checkHeldOrNone rfl rfl rfl hdX2_checkHeldOrNone ⟨Nat.le_of_ble_eq_true rfl, Nat.le_of_ble_eq_true rfl⟩ XG_em hE hP hK hD hS hA rfl hl.1 rfl (Nat.le_of_ble_eq_true rfl) dX2_make_21 ⟨Nat.zero_le _, Nat.zero_le _⟩ (fun H locs hP hD hS => ?_)
        have hP : va_P D vwCl (XW cI cZ q u) H := hP
        have hD : va_D A (XW cI cZ q u) := hD
        refine W.eq (g2 := F0 m 24 ls []) rfl ?_
        refine lv_iload hx hb dX2_make_24 (lv_at hl 6 rfl) ?_
        refine lv_iconst (v := (-1)) hx hb dX2_make_26 (by decide +kernel) ?_
        refine lv_icmp_eq (tgt := 35) hx hb dX2_make_27 (by decide) (fun c_27 => ?_) (fun c_27 => ?_)
        · refine lv_iload_n hx hb dX2_make_35 rfl (lv_at hl 4 rfl) ?_
          refine lv_iconst (v := (-1)) hx hb dX2_make_36 (by decide +kernel) ?_
          refine lv_icmp_eq (tgt := 60) hx hb dX2_make_37 (by decide) (fun c_37 => ?_) (fun c_37 => ?_)
          · refine lv_aload_n hx hb dX2_make_60 rfl (lv_at hl 1 rfl) ?_
            refine va_get (ci := 2) (v := .ref (q 1)) (C := RX2) (T := TX2) (N := 9) hx hb hts inX2_make_RX2 hown hK hP 0 rfl rfl 0 (by decide) (hts _ lkX2_make_10) (fun _ h9 => h9) rfl dX2_make_61 ?_
            refine g_callV (As := []) (rest := []) hx hb hml hown hts (ctX0_isFull l D cI cZ q u n hn h60) gX2_make_X0_isFull rfl rfl rfl hdX0_isFull ⟨Nat.le_of_ble_eq_true rfl, Nat.le_of_ble_eq_true rfl⟩ XG_em hE hP hK hD hS hA 1 rfl rfl rfl hl.1 rfl (Nat.le_of_ble_eq_true rfl) dX2_make_64 ⟨Nat.zero_le _, Nat.zero_le _⟩ (fun H locs hP hD hS => ?_)
            have hP : va_P D vwCl (XW cI cZ q u) H := hP
            have hD : va_D A (XW cI cZ q u) := hD
            refine W.eq (g2 := F0 m 67 ls [.int (if n < 60 then 0 else 1)]) rfl ?_
            refine lv_if_eq (tgt := 80) hx hb dX2_make_67 (by decide) (fun c_67 => ?_) (fun c_67 => ?_)
            · exact absurd (hz.symm.trans (by unfold xMakeC; rw [if_neg k_9, if_neg k_15, if_neg k_21, if_neg (fin_p c_27), if_pos c_37, if_pos (full_y c_67)])) hz0
            · have hzz : z = 3 := hz.symm.trans (by unfold xMakeC; rw [if_neg k_9, if_neg k_15, if_neg k_21, if_neg (fin_p c_27), if_pos c_37, if_neg (full_n c_67)])
              subst hzz
              rw [exA_3] at hQ
              exact g_throw (text := _) (is := 68) (rest := []) hx hb hst hown hXE hXT hlk htab hQ hP hD hS (hl.1.trans hml.symm) fit_ISE (hts _ lkX2_make_c66) (hts _ lkX2_make_iISE) (List.mem_of_getElem? (i := 11) rfl) (fun w h => hts w (atX2_make_70 w h)) nb_ISE ot_ISE dX2_make_70 dX2_make_73 dX2_make_74 dX2_make_76 dX2_make_79 (Nat.le_of_ble_eq_true rfl) (Nat.le_of_ble_eq_true rfl) (Nat.le_of_ble_eq_true rfl) (Nat.le_of_ble_eq_true rfl)
          · refine lv_iload_n hx hb dX2_make_40 rfl (lv_at hl 3 rfl) ?_
            refine lv_iconst (v := (-1)) hx hb dX2_make_41 (by decide +kernel) ?_
            refine lv_icmp_eq (tgt := 50) hx hb dX2_make_42 (by decide) (fun c_42 => ?_) (fun c_42 => ?_)
            · have hzz : z = 2 := hz.symm.trans (by unfold xMakeC; rw [if_neg k_9, if_neg k_15, if_neg k_21, if_neg (fin_p c_27), if_neg c_37, if_pos c_42])
              subst hzz
              rw [exA_2] at hQ
              exact g_throw (text := _) (is := 57) (rest := []) hx hb hst hown hXE hXT hlk htab hQ hP hD hS (hl.1.trans hml.symm) fit_IAE (hts _ lkX2_make_c55) (hts _ lkX2_make_iIAE) (List.mem_of_getElem? (i := 10) rfl) (fun w h => hts w (atX2_make_59 w h)) nb_IAE ot_IAE dX2_make_50 dX2_make_53 dX2_make_54 dX2_make_56 dX2_make_59 (Nat.le_of_ble_eq_true rfl) (Nat.le_of_ble_eq_true rfl) (Nat.le_of_ble_eq_true rfl) (Nat.le_of_ble_eq_true rfl)
            · refine lv_iload_n hx hb dX2_make_45 rfl (lv_at hl 3 rfl) ?_
              refine lv_iload_n hx hb dX2_make_46 rfl (lv_at hl 4 rfl) ?_
              refine lv_icmp_ne (tgt := 60) hx hb dX2_make_47 (by decide) (fun c_47 => ?_) (fun c_47 => ?_)
              · refine lv_aload_n hx hb dX2_make_60 rfl (lv_at hl 1 rfl) ?_
                refine va_get (ci := 2) (v := .ref (q 1)) (C := RX2) (T := TX2) (N := 9) hx hb hts inX2_make_RX2 hown hK hP 0 rfl rfl 0 (by decide) (hts _ lkX2_make_10) (fun _ h9 => h9) rfl dX2_make_61 ?_
                refine g_callV (As := []) (rest := []) hx hb hml hown hts (ctX0_isFull l D cI cZ q u n hn h60) gX2_make_X0_isFull rfl rfl rfl hdX0_isFull ⟨Nat.le_of_ble_eq_true rfl, Nat.le_of_ble_eq_true rfl⟩ XG_em hE hP hK hD hS hA 1 rfl rfl rfl hl.1 rfl (Nat.le_of_ble_eq_true rfl) dX2_make_64 ⟨Nat.zero_le _, Nat.zero_le _⟩ (fun H locs hP hD hS => ?_)
                have hP : va_P D vwCl (XW cI cZ q u) H := hP
                have hD : va_D A (XW cI cZ q u) := hD
                refine W.eq (g2 := F0 m 67 ls [.int (if n < 60 then 0 else 1)]) rfl ?_
                refine lv_if_eq (tgt := 80) hx hb dX2_make_67 (by decide) (fun c_67 => ?_) (fun c_67 => ?_)
                · exact absurd (hz.symm.trans (by unfold xMakeC; rw [if_neg k_9, if_neg k_15, if_neg k_21, if_neg (fin_p c_27), if_neg c_37, if_neg c_42, if_neg c_47, if_pos (full_y c_67)])) hz0
                · have hzz : z = 3 := hz.symm.trans (by unfold xMakeC; rw [if_neg k_9, if_neg k_15, if_neg k_21, if_neg (fin_p c_27), if_neg c_37, if_neg c_42, if_neg c_47, if_neg (full_n c_67)])
                  subst hzz
                  rw [exA_3] at hQ
                  exact g_throw (text := _) (is := 68) (rest := []) hx hb hst hown hXE hXT hlk htab hQ hP hD hS (hl.1.trans hml.symm) fit_ISE (hts _ lkX2_make_c66) (hts _ lkX2_make_iISE) (List.mem_of_getElem? (i := 11) rfl) (fun w h => hts w (atX2_make_70 w h)) nb_ISE ot_ISE dX2_make_70 dX2_make_73 dX2_make_74 dX2_make_76 dX2_make_79 (Nat.le_of_ble_eq_true rfl) (Nat.le_of_ble_eq_true rfl) (Nat.le_of_ble_eq_true rfl) (Nat.le_of_ble_eq_true rfl)
              · have hzz : z = 2 := hz.symm.trans (by unfold xMakeC; rw [if_neg k_9, if_neg k_15, if_neg k_21, if_neg (fin_p c_27), if_neg c_37, if_neg c_42, if_pos c_47])
                subst hzz
                rw [exA_2] at hQ
                exact g_throw (text := _) (is := 57) (rest := []) hx hb hst hown hXE hXT hlk htab hQ hP hD hS (hl.1.trans hml.symm) fit_IAE (hts _ lkX2_make_c55) (hts _ lkX2_make_iIAE) (List.mem_of_getElem? (i := 10) rfl) (fun w h => hts w (atX2_make_59 w h)) nb_IAE ot_IAE dX2_make_50 dX2_make_53 dX2_make_54 dX2_make_56 dX2_make_59 (Nat.le_of_ble_eq_true rfl) (Nat.le_of_ble_eq_true rfl) (Nat.le_of_ble_eq_true rfl) (Nat.le_of_ble_eq_true rfl)
        · refine lv_iload hx hb dX2_make_30 (lv_at hl 6 rfl) ?_
          by_cases k_32 : xRange p4 100 = 0
          · have hzz : z = 2 := hz.symm.trans (by unfold xMakeC; rw [if_neg k_9, if_neg k_15, if_neg k_21, if_pos (fin_f c_27 k_32)])
            subst hzz
            rw [exA_2] at hQ
            exact g_xS (As := [.int p4]) (rest := []) hx hb hml hown hts (ctX2_checkFile_x l hst D cI cZ q u p4 k_32) gX2_make_X2_checkFile rfl rfl rfl hdX2_checkFile ⟨Nat.le_of_ble_eq_true rfl, Nat.le_of_ble_eq_true rfl⟩ XE_em hXE XT_tm (fun U hU hW => g_Tin XT_tm hXT hD hS hA hU hW) hP hK hD hS hA rfl hl.1 rfl (Nat.le_of_ble_eq_true rfl) dX2_make_32 ⟨Nat.le_of_ble_eq_true rfl, Nat.le_of_ble_eq_true rfl⟩ (fun _ _ _ _ _ hE1 hP1 hD1 hS1 hz9 _ hce hcv hcl => g_out hQ htab hlk hE1 hP1 hD1 hS1 (Nat.le_trans (Nat.succ_le_succ hS.1) hz9) hce hcv hcl (Nat.le_refl _) (Nat.le_refl _))
          · refine g_callS0 (As := [.int p4]) (rest := []) hx hb hml hown hts (ctX2_checkFile l D cI cZ q p4 k_32) gX2_make_X2_checkFile rfl rfl rfl hdX2_checkFile ⟨Nat.le_of_ble_eq_true rfl, Nat.le_of_ble_eq_true rfl⟩ gEM_true trivial hP hK hS hA rfl hl.1 rfl (Nat.le_of_ble_eq_true rfl) dX2_make_32 ⟨Nat.zero_le _, Nat.zero_le _⟩ (fun H locs hP hS => ?_)
            refine W.eq (g2 := F0 m 35 ls []) rfl ?_
            refine lv_iload_n hx hb dX2_make_35 rfl (lv_at hl 4 rfl) ?_
            refine lv_iconst (v := (-1)) hx hb dX2_make_36 (by decide +kernel) ?_
            refine lv_icmp_eq (tgt := 60) hx hb dX2_make_37 (by decide) (fun c_37 => ?_) (fun c_37 => ?_)
            · refine lv_aload_n hx hb dX2_make_60 rfl (lv_at hl 1 rfl) ?_
              refine va_get (ci := 2) (v := .ref (q 1)) (C := RX2) (T := TX2) (N := 9) hx hb hts inX2_make_RX2 hown hK hP 0 rfl rfl 0 (by decide) (hts _ lkX2_make_10) (fun _ h9 => h9) rfl dX2_make_61 ?_
              refine g_callV (As := []) (rest := []) hx hb hml hown hts (ctX0_isFull l D cI cZ q u n hn h60) gX2_make_X0_isFull rfl rfl rfl hdX0_isFull ⟨Nat.le_of_ble_eq_true rfl, Nat.le_of_ble_eq_true rfl⟩ XG_em hE hP hK hD hS hA 1 rfl rfl rfl hl.1 rfl (Nat.le_of_ble_eq_true rfl) dX2_make_64 ⟨Nat.zero_le _, Nat.zero_le _⟩ (fun H locs hP hD hS => ?_)
              have hP : va_P D vwCl (XW cI cZ q u) H := hP
              have hD : va_D A (XW cI cZ q u) := hD
              refine W.eq (g2 := F0 m 67 ls [.int (if n < 60 then 0 else 1)]) rfl ?_
              refine lv_if_eq (tgt := 80) hx hb dX2_make_67 (by decide) (fun c_67 => ?_) (fun c_67 => ?_)
              · exact absurd (hz.symm.trans (by unfold xMakeC; rw [if_neg k_9, if_neg k_15, if_neg k_21, if_neg (fin_k k_32), if_pos c_37, if_pos (full_y c_67)])) hz0
              · have hzz : z = 3 := hz.symm.trans (by unfold xMakeC; rw [if_neg k_9, if_neg k_15, if_neg k_21, if_neg (fin_k k_32), if_pos c_37, if_neg (full_n c_67)])
                subst hzz
                rw [exA_3] at hQ
                exact g_throw (text := _) (is := 68) (rest := []) hx hb hst hown hXE hXT hlk htab hQ hP hD hS (hl.1.trans hml.symm) fit_ISE (hts _ lkX2_make_c66) (hts _ lkX2_make_iISE) (List.mem_of_getElem? (i := 11) rfl) (fun w h => hts w (atX2_make_70 w h)) nb_ISE ot_ISE dX2_make_70 dX2_make_73 dX2_make_74 dX2_make_76 dX2_make_79 (Nat.le_of_ble_eq_true rfl) (Nat.le_of_ble_eq_true rfl) (Nat.le_of_ble_eq_true rfl) (Nat.le_of_ble_eq_true rfl)
            · refine lv_iload_n hx hb dX2_make_40 rfl (lv_at hl 3 rfl) ?_
              refine lv_iconst (v := (-1)) hx hb dX2_make_41 (by decide +kernel) ?_
              refine lv_icmp_eq (tgt := 50) hx hb dX2_make_42 (by decide) (fun c_42 => ?_) (fun c_42 => ?_)
              · have hzz : z = 2 := hz.symm.trans (by unfold xMakeC; rw [if_neg k_9, if_neg k_15, if_neg k_21, if_neg (fin_k k_32), if_neg c_37, if_pos c_42])
                subst hzz
                rw [exA_2] at hQ
                exact g_throw (text := _) (is := 57) (rest := []) hx hb hst hown hXE hXT hlk htab hQ hP hD hS (hl.1.trans hml.symm) fit_IAE (hts _ lkX2_make_c55) (hts _ lkX2_make_iIAE) (List.mem_of_getElem? (i := 10) rfl) (fun w h => hts w (atX2_make_59 w h)) nb_IAE ot_IAE dX2_make_50 dX2_make_53 dX2_make_54 dX2_make_56 dX2_make_59 (Nat.le_of_ble_eq_true rfl) (Nat.le_of_ble_eq_true rfl) (Nat.le_of_ble_eq_true rfl) (Nat.le_of_ble_eq_true rfl)
              · refine lv_iload_n hx hb dX2_make_45 rfl (lv_at hl 3 rfl) ?_
                refine lv_iload_n hx hb dX2_make_46 rfl (lv_at hl 4 rfl) ?_
                refine lv_icmp_ne (tgt := 60) hx hb dX2_make_47 (by decide) (fun c_47 => ?_) (fun c_47 => ?_)
                · refine lv_aload_n hx hb dX2_make_60 rfl (lv_at hl 1 rfl) ?_
                  refine va_get (ci := 2) (v := .ref (q 1)) (C := RX2) (T := TX2) (N := 9) hx hb hts inX2_make_RX2 hown hK hP 0 rfl rfl 0 (by decide) (hts _ lkX2_make_10) (fun _ h9 => h9) rfl dX2_make_61 ?_
                  refine g_callV (As := []) (rest := []) hx hb hml hown hts (ctX0_isFull l D cI cZ q u n hn h60) gX2_make_X0_isFull rfl rfl rfl hdX0_isFull ⟨Nat.le_of_ble_eq_true rfl, Nat.le_of_ble_eq_true rfl⟩ XG_em hE hP hK hD hS hA 1 rfl rfl rfl hl.1 rfl (Nat.le_of_ble_eq_true rfl) dX2_make_64 ⟨Nat.zero_le _, Nat.zero_le _⟩ (fun H locs hP hD hS => ?_)
                  have hP : va_P D vwCl (XW cI cZ q u) H := hP
                  have hD : va_D A (XW cI cZ q u) := hD
                  refine W.eq (g2 := F0 m 67 ls [.int (if n < 60 then 0 else 1)]) rfl ?_
                  refine lv_if_eq (tgt := 80) hx hb dX2_make_67 (by decide) (fun c_67 => ?_) (fun c_67 => ?_)
                  · exact absurd (hz.symm.trans (by unfold xMakeC; rw [if_neg k_9, if_neg k_15, if_neg k_21, if_neg (fin_k k_32), if_neg c_37, if_neg c_42, if_neg c_47, if_pos (full_y c_67)])) hz0
                  · have hzz : z = 3 := hz.symm.trans (by unfold xMakeC; rw [if_neg k_9, if_neg k_15, if_neg k_21, if_neg (fin_k k_32), if_neg c_37, if_neg c_42, if_neg c_47, if_neg (full_n c_67)])
                    subst hzz
                    rw [exA_3] at hQ
                    exact g_throw (text := _) (is := 68) (rest := []) hx hb hst hown hXE hXT hlk htab hQ hP hD hS (hl.1.trans hml.symm) fit_ISE (hts _ lkX2_make_c66) (hts _ lkX2_make_iISE) (List.mem_of_getElem? (i := 11) rfl) (fun w h => hts w (atX2_make_70 w h)) nb_ISE ot_ISE dX2_make_70 dX2_make_73 dX2_make_74 dX2_make_76 dX2_make_79 (Nat.le_of_ble_eq_true rfl) (Nat.le_of_ble_eq_true rfl) (Nat.le_of_ble_eq_true rfl) (Nat.le_of_ble_eq_true rfl)
                · have hzz : z = 2 := hz.symm.trans (by unfold xMakeC; rw [if_neg k_9, if_neg k_15, if_neg k_21, if_neg (fin_k k_32), if_neg c_37, if_neg c_42, if_pos c_47])
                  subst hzz
                  rw [exA_2] at hQ
                  exact g_throw (text := _) (is := 57) (rest := []) hx hb hst hown hXE hXT hlk htab hQ hP hD hS (hl.1.trans hml.symm) fit_IAE (hts _ lkX2_make_c55) (hts _ lkX2_make_iIAE) (List.mem_of_getElem? (i := 10) rfl) (fun w h => hts w (atX2_make_59 w h)) nb_IAE ot_IAE dX2_make_50 dX2_make_53 dX2_make_54 dX2_make_56 dX2_make_59 (Nat.le_of_ble_eq_true rfl) (Nat.le_of_ble_eq_true rfl) (Nat.le_of_ble_eq_true rfl) (Nat.le_of_ble_eq_true rfl)
abbrev rmX2_setRef_x0 : Room := { frames := 7, cells := 1, slots := 6, locals := 103 }
set_option maxHeartbeats 4000000 in
set_option maxRecDepth 100000 in
theorem ctX2_setRef_x0 (l : Launch) (hst : l.stackTraces = false) (D : va_G) (cI cZ : ClassId) (q : Nat → Nat) (u : SX) (p0 p1 p2 : Int32) (hs : p0 = 0) (z : Int32) (hz : xSetRC (u.2 0) p1 p2 = z) (hz0 : ¬ z = 0) : gX l yX2_setRef wsX2_setRef rmX2_setRef_x0 D [(cI, .int), (cZ, .boolean)] (XW cI cZ q) XE XT [.ref (q 0), .int p0, .int p1, .int p2] u (exA z) := by
  refine g_startX (cc := cX2_setRef) (maxL := 6) (ret := (some .int)) (by decide) rfl (Nat.le_of_ble_eq_true rfl) ?_
  intro p e s m below meth c A ls Q hx hb hml hret hts hown hlk hXE hP hK hD hA hl hQ hS hXT htab
  have hE := hXE.1
  have hown : s.vm.findClass RX2 = some m.cls := hown
  have hl : lv_has ls 6 [(0, .ref (q 0)), (1, .int p0), (2, .int p1), (3, .int p2)] := hl
  refine lv_aload_n hx hb dX2_setRef_0 rfl (lv_at hl 0 rfl) ?_
  refine lv_iload_n hx hb dX2_setRef_1 rfl (lv_at hl 1 rfl) ?_
  refine g_callV (As := [.int p0]) (rest := []) hx hb hml hown hts (ctX2_storeOf_0 l D cI cZ q u p0 hs) gX2_setRef_X2_storeOf rfl rfl rfl hdX2_storeOf ⟨Nat.le_of_ble_eq_true rfl, Nat.le_of_ble_eq_true rfl⟩ XG_em hE hP hK hD hS hA 0 rfl rfl rfl hl.1 rfl (Nat.le_of_ble_eq_true rfl) dX2_setRef_2 ⟨Nat.zero_le _, Nat.zero_le _⟩ (fun H locs hP hD hS => ?_)
  have hP : va_P D vwCl (XW cI cZ q u) H := hP
  have hD : va_D A (XW cI cZ q u) := hD
  refine W.eq (g2 := F0 m 5 ls [.ref (q 2)]) rfl ?_
  refine lv_astore (lv' := [(4, .ref (q 2)), (0, .ref (q 0)), (1, .int p0), (2, .int p1), (3, .int p2)]) hx hb dX2_setRef_5 hl (by decide) rfl (fun ls hl => ?_)
  refine lv_iload_n hx hb dX2_setRef_7 rfl (lv_at hl 3 rfl) ?_
  by_cases k_8 : xRange p1 4 = 0
  · have hzz : z = 1 := hz.symm.trans (by unfold xSetRC; rw [if_pos k_8])
    subst hzz
    rw [exA_1] at hQ
    exact g_xS (As := [.int p1]) (rest := []) hx hb hml hown hts (ctX2_checkRef_x l hst D cI cZ q u p1 k_8) gX2_setRef_X2_checkRef rfl rfl rfl hdX2_checkRef ⟨Nat.le_of_ble_eq_true rfl, Nat.le_of_ble_eq_true rfl⟩ XE_em hXE XT_tm (fun U hU hW => g_Tin XT_tm hXT hD hS hA hU hW) hP hK hD hS hA rfl hl.1 rfl (Nat.le_of_ble_eq_true rfl) dX2_setRef_8 ⟨Nat.le_of_ble_eq_true rfl, Nat.le_of_ble_eq_true rfl⟩ (fun _ _ _ _ _ hE1 hP1 hD1 hS1 hz9 _ hce hcv hcl => g_out hQ htab hlk hE1 hP1 hD1 hS1 (Nat.le_trans (Nat.succ_le_succ hS.1) hz9) hce hcv hcl (Nat.le_refl _) (Nat.le_refl _))
  · refine g_callS0 (As := [.int p1]) (rest := []) hx hb hml hown hts (ctX2_checkRef l D cI cZ q p1 k_8) gX2_setRef_X2_checkRef rfl rfl rfl hdX2_checkRef ⟨Nat.le_of_ble_eq_true rfl, Nat.le_of_ble_eq_true rfl⟩ gEM_true trivial hP hK hS hA rfl hl.1 rfl (Nat.le_of_ble_eq_true rfl) dX2_setRef_8 ⟨Nat.zero_le _, Nat.zero_le _⟩ (fun H locs hP hS => ?_)
    refine W.eq (g2 := F0 m 11 ls []) rfl ?_
    refine lv_aload hx hb dX2_setRef_11 (lv_at hl 0 rfl) ?_
    refine lv_iload_n hx hb dX2_setRef_13 rfl (lv_at hl 4 rfl) ?_
    by_cases k_14 : xHoN (u.2 0) p2 = 0
    · have hzz : z = 1 := hz.symm.trans (by unfold xSetRC; rw [if_neg k_8, if_pos k_14])
      subst hzz
      rw [exA_1] at hQ
      exact g_xS (As := [.ref (q 2), .int p2]) (rest := []) hx hb hml hown hts (ctX2_checkHeldOrNone_x0 l hst D cI cZ q u p2 k_14) gX2_setRef_X2_checkHeldOrNone rfl rfl rfl hdX2_checkHeldOrNone ⟨Nat.le_of_ble_eq_true rfl, Nat.le_of_ble_eq_true rfl⟩ XE_em hXE XT_tm (fun U hU hW => g_Tin XT_tm hXT hD hS hA hU hW) hP hK hD hS hA rfl hl.1 rfl (Nat.le_of_ble_eq_true rfl) dX2_setRef_14 ⟨Nat.le_of_ble_eq_true rfl, Nat.le_of_ble_eq_true rfl⟩ (fun _ _ _ _ _ hE1 hP1 hD1 hS1 hz9 _ hce hcv hcl => g_out hQ htab hlk hE1 hP1 hD1 hS1 (Nat.le_trans (Nat.succ_le_succ hS.1) hz9) hce hcv hcl (Nat.le_refl _) (Nat.le_refl _))
    · refine g_callS (As := [.ref (q 2), .int p2]) (rest := []) hx hb hml hown hts (ctX2_checkHeldOrNone_0 l D cI cZ q u p2 (hon_or k_14)) gX2_setRef_X2_checkHeldOrNone rfl rfl rfl hdX2_checkHeldOrNone ⟨Nat.le_of_ble_eq_true rfl, Nat.le_of_ble_eq_true rfl⟩ XG_em hE hP hK hD hS hA rfl hl.1 rfl (Nat.le_of_ble_eq_true rfl) dX2_setRef_14 ⟨Nat.zero_le _, Nat.zero_le _⟩ (fun H locs hP hD hS => ?_)
      have hP : va_P D vwCl (XW cI cZ q u) H := hP
      have hD : va_D A (XW cI cZ q u) := hD
      refine W.eq (g2 := F0 m 17 ls []) rfl ?_
      exact absurd (hz.symm.trans (by unfold xSetRC; rw [if_neg k_8, if_neg k_14])) hz0
abbrev rmX2_ref_x0 : Room := { frames := 7, cells := 1, slots := 6, locals := 102 }
set_option maxHeartbeats 4000000 in
set_option maxRecDepth 100000 in
theorem ctX2_ref_x0 (l : Launch) (hst : l.stackTraces = false) (D : va_G) (cI cZ : ClassId) (q : Nat → Nat) (u : SX) (p0 p1 : Int32) (hs : p0 = 0) (h1 : xRange p1 4 = 0) : gX l yX2_ref wsX2_ref rmX2_ref_x0 D [(cI, .int), (cZ, .boolean)] (XW cI cZ q) XE XT [.ref (q 0), .int p0, .int p1] u "java/lang/IndexOutOfBoundsException" := by
  refine g_startX (cc := cX2_ref) (maxL := 4) (ret := (some .int)) (by decide) rfl (Nat.le_of_ble_eq_true rfl) ?_
  intro p e s m below meth c A ls Q hx hb hml hret hts hown hlk hXE hP hK hD hA hl hQ hS hXT htab
  have hE := hXE.1
  have hown : s.vm.findClass RX2 = some m.cls := hown
  have hl : lv_has ls 4 [(0, .ref (q 0)), (1, .int p0), (2, .int p1)] := hl
  refine lv_aload_n hx hb dX2_ref_0 rfl (lv_at hl 0 rfl) ?_
  refine lv_iload_n hx hb dX2_ref_1 rfl (lv_at hl 1 rfl) ?_
  refine g_callV (As := [.int p0]) (rest := []) hx hb hml hown hts (ctX2_storeOf_0 l D cI cZ q u p0 hs) gX2_ref_X2_storeOf rfl rfl rfl hdX2_storeOf ⟨Nat.le_of_ble_eq_true rfl, Nat.le_of_ble_eq_true rfl⟩ XG_em hE hP hK hD hS hA 0 rfl rfl rfl hl.1 rfl (Nat.le_of_ble_eq_true rfl) dX2_ref_2 ⟨Nat.zero_le _, Nat.zero_le _⟩ (fun H locs hP hD hS => ?_)
  have hP : va_P D vwCl (XW cI cZ q u) H := hP
  have hD : va_D A (XW cI cZ q u) := hD
  refine W.eq (g2 := F0 m 5 ls [.ref (q 2)]) rfl ?_
  refine lv_astore_n (lv' := [(3, .ref (q 2)), (0, .ref (q 0)), (1, .int p0), (2, .int p1)]) hx hb dX2_ref_5 rfl hl (by decide) rfl (fun ls hl => ?_)
  refine lv_iload_n hx hb dX2_ref_6 rfl (lv_at hl 3 rfl) ?_
  exact g_xS (As := [.int p1]) (rest := []) hx hb hml hown hts (ctX2_checkRef_x l hst D cI cZ q u p1 h1) gX2_ref_X2_checkRef rfl rfl rfl hdX2_checkRef ⟨Nat.le_of_ble_eq_true rfl, Nat.le_of_ble_eq_true rfl⟩ XE_em hXE XT_tm (fun U hU hW => g_Tin XT_tm hXT hD hS hA hU hW) hP hK hD hS hA rfl hl.1 rfl (Nat.le_of_ble_eq_true rfl) dX2_ref_7 ⟨Nat.le_of_ble_eq_true rfl, Nat.le_of_ble_eq_true rfl⟩ (fun _ _ _ _ _ hE1 hP1 hD1 hS1 hz9 _ hce hcv hcl => g_out hQ htab hlk hE1 hP1 hD1 hS1 (Nat.le_trans (Nat.succ_le_succ hS.1) hz9) hce hcv hcl (Nat.le_refl _) (Nat.le_refl _))
abbrev rmX2_has_x0 : Room := { frames := 7, cells := 1, slots := 6, locals := 103 }
set_option maxHeartbeats 4000000 in
set_option maxRecDepth 100000 in
theorem ctX2_has_x0 (l : Launch) (hst : l.stackTraces = false) (D : va_G) (cI cZ : ClassId) (q : Nat → Nat) (u : SX) (n : Nat) (hn : u.1 15 0 = nI n) (h60 : n ≤ 60) (p0 p1 : Int32) (hs : p0 = 0) (h1 : xRange p1 (nI n) = 0) : gX l yX2_has wsX2_has rmX2_has_x0 D [(cI, .int), (cZ, .boolean)] (XW cI cZ q) XE XT [.ref (q 0), .int p0, .int p1] u "java/lang/IndexOutOfBoundsException" := by
  refine g_startX (cc := cX2_has) (maxL := 4) (ret := (some .boolean)) (by decide) rfl (Nat.le_of_ble_eq_true rfl) ?_
  intro p e s m below meth c A ls Q hx hb hml hret hts hown hlk hXE hP hK hD hA hl hQ hS hXT htab
  have hE := hXE.1
  have hown : s.vm.findClass RX2 = some m.cls := hown
  have hl : lv_has ls 4 [(0, .ref (q 0)), (1, .int p0), (2, .int p1)] := hl
  refine lv_aload_n hx hb dX2_has_0 rfl (lv_at hl 0 rfl) ?_
  refine lv_iload_n hx hb dX2_has_1 rfl (lv_at hl 1 rfl) ?_
  refine g_callV (As := [.int p0]) (rest := []) hx hb hml hown hts (ctX2_storeOf_0 l D cI cZ q u p0 hs) gX2_has_X2_storeOf rfl rfl rfl hdX2_storeOf ⟨Nat.le_of_ble_eq_true rfl, Nat.le_of_ble_eq_true rfl⟩ XG_em hE hP hK hD hS hA 0 rfl rfl rfl hl.1 rfl (Nat.le_of_ble_eq_true rfl) dX2_has_2 ⟨Nat.zero_le _, Nat.zero_le _⟩ (fun H locs hP hD hS => ?_)
  have hP : va_P D vwCl (XW cI cZ q u) H := hP
  have hD : va_D A (XW cI cZ q u) := hD
  refine W.eq (g2 := F0 m 5 ls [.ref (q 2)]) rfl ?_
  refine lv_astore_n (lv' := [(3, .ref (q 2)), (0, .ref (q 0)), (1, .int p0), (2, .int p1)]) hx hb dX2_has_5 rfl hl (by decide) rfl (fun ls hl => ?_)
  refine lv_aload_n hx hb dX2_has_6 rfl (lv_at hl 1 rfl) ?_
  refine lv_iload_n hx hb dX2_has_7 rfl (lv_at hl 3 rfl) ?_
  exact g_xV (As := [.int p1]) (rest := []) hx hb hml hown hts (ctX2_checkCommit_x l hst D cI cZ q u n hn h60 p1 h1) gX2_has_X2_checkCommit rfl rfl rfl hdX2_checkCommit ⟨Nat.le_of_ble_eq_true rfl, Nat.le_of_ble_eq_true rfl⟩ XE_em hXE XT_tm (fun U hU hW => g_Tin XT_tm hXT hD hS hA hU hW) hP hK hD hS hA 0 rfl rfl rfl hl.1 rfl (Nat.le_of_ble_eq_true rfl) dX2_has_8 ⟨Nat.le_of_ble_eq_true rfl, Nat.le_of_ble_eq_true rfl⟩ (fun _ _ _ _ _ hE1 hP1 hD1 hS1 hz9 _ hce hcv hcl => g_out hQ htab hlk hE1 hP1 hD1 hS1 (Nat.le_trans (Nat.succ_le_succ hS.1) hz9) hce hcv hcl (Nat.le_refl _) (Nat.le_refl _))
abbrev rmX2_hasFile_x0 : Room := { frames := 7, cells := 1, slots := 6, locals := 102 }
set_option maxHeartbeats 4000000 in
set_option maxRecDepth 100000 in
theorem ctX2_hasFile_x0 (l : Launch) (hst : l.stackTraces = false) (D : va_G) (cI cZ : ClassId) (q : Nat → Nat) (u : SX) (p0 p1 : Int32) (hs : p0 = 0) (h1 : xRange p1 100 = 0) : gX l yX2_hasFile wsX2_hasFile rmX2_hasFile_x0 D [(cI, .int), (cZ, .boolean)] (XW cI cZ q) XE XT [.ref (q 0), .int p0, .int p1] u "java/lang/IllegalArgumentException" := by
  refine g_startX (cc := cX2_hasFile) (maxL := 4) (ret := (some .boolean)) (by decide) rfl (Nat.le_of_ble_eq_true rfl) ?_
  intro p e s m below meth c A ls Q hx hb hml hret hts hown hlk hXE hP hK hD hA hl hQ hS hXT htab
  have hE := hXE.1
  have hown : s.vm.findClass RX2 = some m.cls := hown
  have hl : lv_has ls 4 [(0, .ref (q 0)), (1, .int p0), (2, .int p1)] := hl
  refine lv_aload_n hx hb dX2_hasFile_0 rfl (lv_at hl 0 rfl) ?_
  refine lv_iload_n hx hb dX2_hasFile_1 rfl (lv_at hl 1 rfl) ?_
  refine g_callV (As := [.int p0]) (rest := []) hx hb hml hown hts (ctX2_storeOf_0 l D cI cZ q u p0 hs) gX2_hasFile_X2_storeOf rfl rfl rfl hdX2_storeOf ⟨Nat.le_of_ble_eq_true rfl, Nat.le_of_ble_eq_true rfl⟩ XG_em hE hP hK hD hS hA 0 rfl rfl rfl hl.1 rfl (Nat.le_of_ble_eq_true rfl) dX2_hasFile_2 ⟨Nat.zero_le _, Nat.zero_le _⟩ (fun H locs hP hD hS => ?_)
  have hP : va_P D vwCl (XW cI cZ q u) H := hP
  have hD : va_D A (XW cI cZ q u) := hD
  refine W.eq (g2 := F0 m 5 ls [.ref (q 2)]) rfl ?_
  refine lv_astore_n (lv' := [(3, .ref (q 2)), (0, .ref (q 0)), (1, .int p0), (2, .int p1)]) hx hb dX2_hasFile_5 rfl hl (by decide) rfl (fun ls hl => ?_)
  refine lv_iload_n hx hb dX2_hasFile_6 rfl (lv_at hl 3 rfl) ?_
  exact g_xS (As := [.int p1]) (rest := []) hx hb hml hown hts (ctX2_checkFile_x l hst D cI cZ q u p1 h1) gX2_hasFile_X2_checkFile rfl rfl rfl hdX2_checkFile ⟨Nat.le_of_ble_eq_true rfl, Nat.le_of_ble_eq_true rfl⟩ XE_em hXE XT_tm (fun U hU hW => g_Tin XT_tm hXT hD hS hA hU hW) hP hK hD hS hA rfl hl.1 rfl (Nat.le_of_ble_eq_true rfl) dX2_hasFile_7 ⟨Nat.le_of_ble_eq_true rfl, Nat.le_of_ble_eq_true rfl⟩ (fun _ _ _ _ _ hE1 hP1 hD1 hS1 hz9 _ hce hcv hcl => g_out hQ htab hlk hE1 hP1 hD1 hS1 (Nat.le_trans (Nat.succ_le_succ hS.1) hz9) hce hcv hcl (Nat.le_refl _) (Nat.le_refl _))
abbrev rmX2_isAncestor_x0 : Room := { frames := 7, cells := 1, slots := 6, locals := 103 }
set_option maxHeartbeats 4000000 in
set_option maxRecDepth 100000 in
theorem ctX2_isAncestor_x0 (l : Launch) (hst : l.stackTraces = false) (D : va_G) (cI cZ : ClassId) (q : Nat → Nat) (u : SX) (n : Nat) (hn : u.1 15 0 = nI n) (h60 : n ≤ 60) (p0 p1 p2 : Int32) (hs : p0 = 0) (z : Int32) (hz : xAncC n p1 p2 = z) (hz0 : ¬ z = 0) : gX l yX2_isAncestor wsX2_isAncestor rmX2_isAncestor_x0 D [(cI, .int), (cZ, .boolean)] (XW cI cZ q) XE XT [.ref (q 0), .int p0, .int p1, .int p2] u (exA z) := by
  refine g_startX (cc := cX2_isAncestor) (maxL := 5) (ret := (some .boolean)) (by decide) rfl (Nat.le_of_ble_eq_true rfl) ?_
  intro p e s m below meth c A ls Q hx hb hml hret hts hown hlk hXE hP hK hD hA hl hQ hS hXT htab
  have hE := hXE.1
  have hown : s.vm.findClass RX2 = some m.cls := hown
  have hl : lv_has ls 5 [(0, .ref (q 0)), (1, .int p0), (2, .int p1), (3, .int p2)] := hl
  refine lv_aload_n hx hb dX2_isAncestor_0 rfl (lv_at hl 0 rfl) ?_
  refine lv_iload_n hx hb dX2_isAncestor_1 rfl (lv_at hl 1 rfl) ?_
  refine g_callV (As := [.int p0]) (rest := []) hx hb hml hown hts (ctX2_storeOf_0 l D cI cZ q u p0 hs) gX2_isAncestor_X2_storeOf rfl rfl rfl hdX2_storeOf ⟨Nat.le_of_ble_eq_true rfl, Nat.le_of_ble_eq_true rfl⟩ XG_em hE hP hK hD hS hA 0 rfl rfl rfl hl.1 rfl (Nat.le_of_ble_eq_true rfl) dX2_isAncestor_2 ⟨Nat.zero_le _, Nat.zero_le _⟩ (fun H locs hP hD hS => ?_)
  have hP : va_P D vwCl (XW cI cZ q u) H := hP
  have hD : va_D A (XW cI cZ q u) := hD
  refine W.eq (g2 := F0 m 5 ls [.ref (q 2)]) rfl ?_
  refine lv_astore (lv' := [(4, .ref (q 2)), (0, .ref (q 0)), (1, .int p0), (2, .int p1), (3, .int p2)]) hx hb dX2_isAncestor_5 hl (by decide) rfl (fun ls hl => ?_)
  refine lv_aload_n hx hb dX2_isAncestor_7 rfl (lv_at hl 1 rfl) ?_
  refine lv_iload_n hx hb dX2_isAncestor_8 rfl (lv_at hl 3 rfl) ?_
  by_cases k_9 : xRange p1 (nI n) = 0
  · have hzz : z = 1 := hz.symm.trans (by unfold xAncC; rw [if_pos k_9])
    subst hzz
    rw [exA_1] at hQ
    exact g_xV (As := [.int p1]) (rest := []) hx hb hml hown hts (ctX2_checkCommit_x l hst D cI cZ q u n hn h60 p1 k_9) gX2_isAncestor_X2_checkCommit rfl rfl rfl hdX2_checkCommit ⟨Nat.le_of_ble_eq_true rfl, Nat.le_of_ble_eq_true rfl⟩ XE_em hXE XT_tm (fun U hU hW => g_Tin XT_tm hXT hD hS hA hU hW) hP hK hD hS hA 0 rfl rfl rfl hl.1 rfl (Nat.le_of_ble_eq_true rfl) dX2_isAncestor_9 ⟨Nat.le_of_ble_eq_true rfl, Nat.le_of_ble_eq_true rfl⟩ (fun _ _ _ _ _ hE1 hP1 hD1 hS1 hz9 _ hce hcv hcl => g_out hQ htab hlk hE1 hP1 hD1 hS1 (Nat.le_trans (Nat.succ_le_succ hS.1) hz9) hce hcv hcl (Nat.le_refl _) (Nat.le_refl _))
  · refine g_callV (As := [.int p1]) (rest := []) hx hb hml hown hts (ctX2_checkCommit l D cI cZ q u n hn h60 p1 k_9) gX2_isAncestor_X2_checkCommit rfl rfl rfl hdX2_checkCommit ⟨Nat.le_of_ble_eq_true rfl, Nat.le_of_ble_eq_true rfl⟩ XG_em hE hP hK hD hS hA 0 rfl rfl rfl hl.1 rfl (Nat.le_of_ble_eq_true rfl) dX2_isAncestor_9 ⟨Nat.zero_le _, Nat.zero_le _⟩ (fun H locs hP hD hS => ?_)
    have hP : va_P D vwCl (XW cI cZ q u) H := hP
    have hD : va_D A (XW cI cZ q u) := hD
    refine W.eq (g2 := F0 m 12 ls []) rfl ?_
    refine lv_aload_n hx hb dX2_isAncestor_12 rfl (lv_at hl 1 rfl) ?_
    refine lv_iload_n hx hb dX2_isAncestor_13 rfl (lv_at hl 4 rfl) ?_
    by_cases k_14 : xRange p2 (nI n) = 0
    · have hzz : z = 1 := hz.symm.trans (by unfold xAncC; rw [if_neg k_9, if_pos k_14])
      subst hzz
      rw [exA_1] at hQ
      exact g_xV (As := [.int p2]) (rest := []) hx hb hml hown hts (ctX2_checkCommit_x l hst D cI cZ q u n hn h60 p2 k_14) gX2_isAncestor_X2_checkCommit rfl rfl rfl hdX2_checkCommit ⟨Nat.le_of_ble_eq_true rfl, Nat.le_of_ble_eq_true rfl⟩ XE_em hXE XT_tm (fun U hU hW => g_Tin XT_tm hXT hD hS hA hU hW) hP hK hD hS hA 0 rfl rfl rfl hl.1 rfl (Nat.le_of_ble_eq_true rfl) dX2_isAncestor_14 ⟨Nat.le_of_ble_eq_true rfl, Nat.le_of_ble_eq_true rfl⟩ (fun _ _ _ _ _ hE1 hP1 hD1 hS1 hz9 _ hce hcv hcl => g_out hQ htab hlk hE1 hP1 hD1 hS1 (Nat.le_trans (Nat.succ_le_succ hS.1) hz9) hce hcv hcl (Nat.le_refl _) (Nat.le_refl _))
    · refine g_callV (As := [.int p2]) (rest := []) hx hb hml hown hts (ctX2_checkCommit l D cI cZ q u n hn h60 p2 k_14) gX2_isAncestor_X2_checkCommit rfl rfl rfl hdX2_checkCommit ⟨Nat.le_of_ble_eq_true rfl, Nat.le_of_ble_eq_true rfl⟩ XG_em hE hP hK hD hS hA 0 rfl rfl rfl hl.1 rfl (Nat.le_of_ble_eq_true rfl) dX2_isAncestor_14 ⟨Nat.zero_le _, Nat.zero_le _⟩ (fun H locs hP hD hS => ?_)
      have hP : va_P D vwCl (XW cI cZ q u) H := hP
      have hD : va_D A (XW cI cZ q u) := hD
      refine W.eq (g2 := F0 m 17 ls []) rfl ?_
      exact absurd (hz.symm.trans (by unfold xAncC; rw [if_neg k_9, if_neg k_14])) hz0
abbrev rmX2_make_x1 : Room := { frames := 7, cells := 1, slots := 6, locals := 103 }
set_option maxHeartbeats 4000000 in
set_option maxRecDepth 100000 in
theorem ctX2_make_x1 (l : Launch) (hst : l.stackTraces = false) (D : va_G) (cI cZ : ClassId) (q : Nat → Nat) (u : SX) (n : Nat) (hn : u.1 15 0 = nI n) (h60 : n ≤ 60) (p0 p1 p2 p3 p4 : Int32) (hs : p0 = 1) (z : Int32) (hz : xMakeC n (u.2 1) p1 p2 p3 p4 = z) (hz0 : ¬ z = 0) : gX l yX2_make wsX2_make rmX2_make_x1 D [(cI, .int), (cZ, .boolean)] (XW cI cZ q) XE XT [.ref (q 0), .int p0, .int p1, .int p2, .int p3, .int p4] u (exA z) := by
  refine g_startX (cc := cX2_make) (maxL := 8) (ret := (some .int)) (by decide) rfl (Nat.le_of_ble_eq_true rfl) ?_
  intro p e s m below meth c A ls Q hx hb hml hret hts hown hlk hXE hP hK hD hA hl hQ hS hXT htab
  have hE := hXE.1
  have hown : s.vm.findClass RX2 = some m.cls := hown
  have hl : lv_has ls 8 [(0, .ref (q 0)), (1, .int p0), (2, .int p1), (3, .int p2), (4, .int p3), (5, .int p4)] := hl
  refine lv_aload_n hx hb dX2_make_0 rfl (lv_at hl 0 rfl) ?_
  refine lv_iload_n hx hb dX2_make_1 rfl (lv_at hl 1 rfl) ?_
  refine g_callV (As := [.int p0]) (rest := []) hx hb hml hown hts (ctX2_storeOf_1 l D cI cZ q u p0 hs) gX2_make_X2_storeOf rfl rfl rfl hdX2_storeOf ⟨Nat.le_of_ble_eq_true rfl, Nat.le_of_ble_eq_true rfl⟩ XG_em hE hP hK hD hS hA 0 rfl rfl rfl hl.1 rfl (Nat.le_of_ble_eq_true rfl) dX2_make_2 ⟨Nat.zero_le _, Nat.zero_le _⟩ (fun H locs hP hD hS => ?_)
  have hP : va_P D vwCl (XW cI cZ q u) H := hP
  have hD : va_D A (XW cI cZ q u) := hD
  refine W.eq (g2 := F0 m 5 ls [.ref (q 3)]) rfl ?_
  refine lv_astore (lv' := [(6, .ref (q 3)), (0, .ref (q 0)), (1, .int p0), (2, .int p1), (3, .int p2), (4, .int p3), (5, .int p4)]) hx hb dX2_make_5 hl (by decide) rfl (fun ls hl => ?_)
  refine lv_iload hx hb dX2_make_7 (lv_at hl 5 rfl) ?_
  by_cases k_9 : xRange p3 4 = 0
  · have hzz : z = 1 := hz.symm.trans (by unfold xMakeC; rw [if_pos k_9])
    subst hzz
    rw [exA_1] at hQ
    exact g_xS (As := [.int p3]) (rest := []) hx hb hml hown hts (ctX2_checkSlot_x l hst D cI cZ q u p3 k_9) gX2_make_X2_checkSlot rfl rfl rfl hdX2_checkSlot ⟨Nat.le_of_ble_eq_true rfl, Nat.le_of_ble_eq_true rfl⟩ XE_em hXE XT_tm (fun U hU hW => g_Tin XT_tm hXT hD hS hA hU hW) hP hK hD hS hA rfl hl.1 rfl (Nat.le_of_ble_eq_true rfl) dX2_make_9 ⟨Nat.le_of_ble_eq_true rfl, Nat.le_of_ble_eq_true rfl⟩ (fun _ _ _ _ _ hE1 hP1 hD1 hS1 hz9 _ hce hcv hcl => g_out hQ htab hlk hE1 hP1 hD1 hS1 (Nat.le_trans (Nat.succ_le_succ hS.1) hz9) hce hcv hcl (Nat.le_refl _) (Nat.le_refl _))
  · refine g_callS0 (As := [.int p3]) (rest := []) hx hb hml hown hts (ctX2_checkSlot l D cI cZ q p3 k_9) gX2_make_X2_checkSlot rfl rfl rfl hdX2_checkSlot ⟨Nat.le_of_ble_eq_true rfl, Nat.le_of_ble_eq_true rfl⟩ gEM_true trivial hP hK hS hA rfl hl.1 rfl (Nat.le_of_ble_eq_true rfl) dX2_make_9 ⟨Nat.zero_le _, Nat.zero_le _⟩ (fun H locs hP hS => ?_)
    refine W.eq (g2 := F0 m 12 ls []) rfl ?_
    refine lv_aload hx hb dX2_make_12 (lv_at hl 0 rfl) ?_
    refine lv_iload_n hx hb dX2_make_14 rfl (lv_at hl 3 rfl) ?_
    by_cases k_15 : xHoN (u.2 1) p1 = 0
    · have hzz : z = 1 := hz.symm.trans (by unfold xMakeC; rw [if_neg k_9, if_pos k_15])
      subst hzz
      rw [exA_1] at hQ
      exact g_xS (As := [.ref (q 3), .int p1]) (rest := []) hx hb hml hown hts (ctX2_checkHeldOrNone_x1 l hst D cI cZ q u p1 k_15) gX2_make_X2_checkHeldOrNone rfl rfl rfl hdX2_checkHeldOrNone ⟨Nat.le_of_ble_eq_true rfl, Nat.le_of_ble_eq_true rfl⟩ XE_em hXE XT_tm (fun U hU hW => g_Tin XT_tm hXT hD hS hA hU hW) hP hK hD hS hA rfl hl.1 rfl (Nat.le_of_ble_eq_true rfl) dX2_make_15 ⟨Nat.le_of_ble_eq_true rfl, Nat.le_of_ble_eq_true rfl⟩ (fun _ _ _ _ _ hE1 hP1 hD1 hS1 hz9 _ hce hcv hcl => g_out hQ htab hlk hE1 hP1 hD1 hS1 (Nat.le_trans (Nat.succ_le_succ hS.1) hz9) hce hcv hcl (Nat.le_refl _) (Nat.le_refl _))
    · refine g_callS (As := [.ref (q 3), .int p1]) (rest := []) hx hb hml hown hts (ctX2_checkHeldOrNone_1 l D cI cZ q u p1 (hon_or k_15)) gX2_make_X2_checkHeldOrNone rfl rfl rfl hdX2_checkHeldOrNone ⟨Nat.le_of_ble_eq_true rfl, Nat.le_of_ble_eq_true rfl⟩ XG_em hE hP hK hD hS hA rfl hl.1 rfl (Nat.le_of_ble_eq_true rfl) dX2_make_15 ⟨Nat.zero_le _, Nat.zero_le _⟩ (fun H locs hP hD hS => ?_)
      have hP : va_P D vwCl (XW cI cZ q u) H := hP
      have hD : va_D A (XW cI cZ q u) := hD
      refine W.eq (g2 := F0 m 18 ls []) rfl ?_
      refine lv_aload hx hb dX2_make_18 (lv_at hl 0 rfl) ?_
      refine lv_iload_n hx hb dX2_make_20 rfl (lv_at hl 4 rfl) ?_
      by_cases k_21 : xHoN (u.2 1) p2 = 0
      · have hzz : z = 1 := hz.symm.trans (by unfold xMakeC; rw [if_neg k_9, if_neg k_15, if_pos k_21])
        subst hzz
        rw [exA_1] at hQ
        exact g_xS (As := [.ref (q 3), .int p2]) (rest := []) hx hb hml hown hts (ctX2_checkHeldOrNone_x1 l hst D cI cZ q u p2 k_21) gX2_make_X2_checkHeldOrNone rfl rfl rfl hdX2_checkHeldOrNone ⟨Nat.le_of_ble_eq_true rfl, Nat.le_of_ble_eq_true rfl⟩ XE_em hXE XT_tm (fun U hU hW => g_Tin XT_tm hXT hD hS hA hU hW) hP hK hD hS hA rfl hl.1 rfl (Nat.le_of_ble_eq_true rfl) dX2_make_21 ⟨Nat.le_of_ble_eq_true rfl, Nat.le_of_ble_eq_true rfl⟩ (fun _ _ _ _ _ hE1 hP1 hD1 hS1 hz9 _ hce hcv hcl => g_out hQ htab hlk hE1 hP1 hD1 hS1 (Nat.le_trans (Nat.succ_le_succ hS.1) hz9) hce hcv hcl (Nat.le_refl _) (Nat.le_refl _))
      · refine g_callS (As := [.ref (q 3), .int p2]) (rest := []) hx hb hml hown hts (ctX2_checkHeldOrNone_1 l D cI cZ q u p2 (hon_or k_21)) gX2_make_X2_checkHeldOrNone rfl rfl rfl hdX2_checkHeldOrNone ⟨Nat.le_of_ble_eq_true rfl, Nat.le_of_ble_eq_true rfl⟩ XG_em hE hP hK hD hS hA rfl hl.1 rfl (Nat.le_of_ble_eq_true rfl) dX2_make_21 ⟨Nat.zero_le _, Nat.zero_le _⟩ (fun H locs hP hD hS => ?_)
        have hP : va_P D vwCl (XW cI cZ q u) H := hP
        have hD : va_D A (XW cI cZ q u) := hD
        refine W.eq (g2 := F0 m 24 ls []) rfl ?_
        refine lv_iload hx hb dX2_make_24 (lv_at hl 6 rfl) ?_
        refine lv_iconst (v := (-1)) hx hb dX2_make_26 (by decide +kernel) ?_
        refine lv_icmp_eq (tgt := 35) hx hb dX2_make_27 (by decide) (fun c_27 => ?_) (fun c_27 => ?_)
        · refine lv_iload_n hx hb dX2_make_35 rfl (lv_at hl 4 rfl) ?_
          refine lv_iconst (v := (-1)) hx hb dX2_make_36 (by decide +kernel) ?_
          refine lv_icmp_eq (tgt := 60) hx hb dX2_make_37 (by decide) (fun c_37 => ?_) (fun c_37 => ?_)
          · refine lv_aload_n hx hb dX2_make_60 rfl (lv_at hl 1 rfl) ?_
            refine va_get (ci := 2) (v := .ref (q 1)) (C := RX2) (T := TX2) (N := 9) hx hb hts inX2_make_RX2 hown hK hP 0 rfl rfl 0 (by decide) (hts _ lkX2_make_10) (fun _ h9 => h9) rfl dX2_make_61 ?_
            refine g_callV (As := []) (rest := []) hx hb hml hown hts (ctX0_isFull l D cI cZ q u n hn h60) gX2_make_X0_isFull rfl rfl rfl hdX0_isFull ⟨Nat.le_of_ble_eq_true rfl, Nat.le_of_ble_eq_true rfl⟩ XG_em hE hP hK hD hS hA 1 rfl rfl rfl hl.1 rfl (Nat.le_of_ble_eq_true rfl) dX2_make_64 ⟨Nat.zero_le _, Nat.zero_le _⟩ (fun H locs hP hD hS => ?_)
            have hP : va_P D vwCl (XW cI cZ q u) H := hP
            have hD : va_D A (XW cI cZ q u) := hD
            refine W.eq (g2 := F0 m 67 ls [.int (if n < 60 then 0 else 1)]) rfl ?_
            refine lv_if_eq (tgt := 80) hx hb dX2_make_67 (by decide) (fun c_67 => ?_) (fun c_67 => ?_)
            · exact absurd (hz.symm.trans (by unfold xMakeC; rw [if_neg k_9, if_neg k_15, if_neg k_21, if_neg (fin_p c_27), if_pos c_37, if_pos (full_y c_67)])) hz0
            · have hzz : z = 3 := hz.symm.trans (by unfold xMakeC; rw [if_neg k_9, if_neg k_15, if_neg k_21, if_neg (fin_p c_27), if_pos c_37, if_neg (full_n c_67)])
              subst hzz
              rw [exA_3] at hQ
              exact g_throw (text := _) (is := 68) (rest := []) hx hb hst hown hXE hXT hlk htab hQ hP hD hS (hl.1.trans hml.symm) fit_ISE (hts _ lkX2_make_c66) (hts _ lkX2_make_iISE) (List.mem_of_getElem? (i := 11) rfl) (fun w h => hts w (atX2_make_70 w h)) nb_ISE ot_ISE dX2_make_70 dX2_make_73 dX2_make_74 dX2_make_76 dX2_make_79 (Nat.le_of_ble_eq_true rfl) (Nat.le_of_ble_eq_true rfl) (Nat.le_of_ble_eq_true rfl) (Nat.le_of_ble_eq_true rfl)
          · refine lv_iload_n hx hb dX2_make_40 rfl (lv_at hl 3 rfl) ?_
            refine lv_iconst (v := (-1)) hx hb dX2_make_41 (by decide +kernel) ?_
            refine lv_icmp_eq (tgt := 50) hx hb dX2_make_42 (by decide) (fun c_42 => ?_) (fun c_42 => ?_)
            · have hzz : z = 2 := hz.symm.trans (by unfold xMakeC; rw [if_neg k_9, if_neg k_15, if_neg k_21, if_neg (fin_p c_27), if_neg c_37, if_pos c_42])
              subst hzz
              rw [exA_2] at hQ
              exact g_throw (text := _) (is := 57) (rest := []) hx hb hst hown hXE hXT hlk htab hQ hP hD hS (hl.1.trans hml.symm) fit_IAE (hts _ lkX2_make_c55) (hts _ lkX2_make_iIAE) (List.mem_of_getElem? (i := 10) rfl) (fun w h => hts w (atX2_make_59 w h)) nb_IAE ot_IAE dX2_make_50 dX2_make_53 dX2_make_54 dX2_make_56 dX2_make_59 (Nat.le_of_ble_eq_true rfl) (Nat.le_of_ble_eq_true rfl) (Nat.le_of_ble_eq_true rfl) (Nat.le_of_ble_eq_true rfl)
            · refine lv_iload_n hx hb dX2_make_45 rfl (lv_at hl 3 rfl) ?_
              refine lv_iload_n hx hb dX2_make_46 rfl (lv_at hl 4 rfl) ?_
              refine lv_icmp_ne (tgt := 60) hx hb dX2_make_47 (by decide) (fun c_47 => ?_) (fun c_47 => ?_)
              · refine lv_aload_n hx hb dX2_make_60 rfl (lv_at hl 1 rfl) ?_
                refine va_get (ci := 2) (v := .ref (q 1)) (C := RX2) (T := TX2) (N := 9) hx hb hts inX2_make_RX2 hown hK hP 0 rfl rfl 0 (by decide) (hts _ lkX2_make_10) (fun _ h9 => h9) rfl dX2_make_61 ?_
                refine g_callV (As := []) (rest := []) hx hb hml hown hts (ctX0_isFull l D cI cZ q u n hn h60) gX2_make_X0_isFull rfl rfl rfl hdX0_isFull ⟨Nat.le_of_ble_eq_true rfl, Nat.le_of_ble_eq_true rfl⟩ XG_em hE hP hK hD hS hA 1 rfl rfl rfl hl.1 rfl (Nat.le_of_ble_eq_true rfl) dX2_make_64 ⟨Nat.zero_le _, Nat.zero_le _⟩ (fun H locs hP hD hS => ?_)
                have hP : va_P D vwCl (XW cI cZ q u) H := hP
                have hD : va_D A (XW cI cZ q u) := hD
                refine W.eq (g2 := F0 m 67 ls [.int (if n < 60 then 0 else 1)]) rfl ?_
                refine lv_if_eq (tgt := 80) hx hb dX2_make_67 (by decide) (fun c_67 => ?_) (fun c_67 => ?_)
                · exact absurd (hz.symm.trans (by unfold xMakeC; rw [if_neg k_9, if_neg k_15, if_neg k_21, if_neg (fin_p c_27), if_neg c_37, if_neg c_42, if_neg c_47, if_pos (full_y c_67)])) hz0
                · have hzz : z = 3 := hz.symm.trans (by unfold xMakeC; rw [if_neg k_9, if_neg k_15, if_neg k_21, if_neg (fin_p c_27), if_neg c_37, if_neg c_42, if_neg c_47, if_neg (full_n c_67)])
                  subst hzz
                  rw [exA_3] at hQ
                  exact g_throw (text := _) (is := 68) (rest := []) hx hb hst hown hXE hXT hlk htab hQ hP hD hS (hl.1.trans hml.symm) fit_ISE (hts _ lkX2_make_c66) (hts _ lkX2_make_iISE) (List.mem_of_getElem? (i := 11) rfl) (fun w h => hts w (atX2_make_70 w h)) nb_ISE ot_ISE dX2_make_70 dX2_make_73 dX2_make_74 dX2_make_76 dX2_make_79 (Nat.le_of_ble_eq_true rfl) (Nat.le_of_ble_eq_true rfl) (Nat.le_of_ble_eq_true rfl) (Nat.le_of_ble_eq_true rfl)
              · have hzz : z = 2 := hz.symm.trans (by unfold xMakeC; rw [if_neg k_9, if_neg k_15, if_neg k_21, if_neg (fin_p c_27), if_neg c_37, if_neg c_42, if_pos c_47])
                subst hzz
                rw [exA_2] at hQ
                exact g_throw (text := _) (is := 57) (rest := []) hx hb hst hown hXE hXT hlk htab hQ hP hD hS (hl.1.trans hml.symm) fit_IAE (hts _ lkX2_make_c55) (hts _ lkX2_make_iIAE) (List.mem_of_getElem? (i := 10) rfl) (fun w h => hts w (atX2_make_59 w h)) nb_IAE ot_IAE dX2_make_50 dX2_make_53 dX2_make_54 dX2_make_56 dX2_make_59 (Nat.le_of_ble_eq_true rfl) (Nat.le_of_ble_eq_true rfl) (Nat.le_of_ble_eq_true rfl) (Nat.le_of_ble_eq_true rfl)
        · refine lv_iload hx hb dX2_make_30 (lv_at hl 6 rfl) ?_
          by_cases k_32 : xRange p4 100 = 0
          · have hzz : z = 2 := hz.symm.trans (by unfold xMakeC; rw [if_neg k_9, if_neg k_15, if_neg k_21, if_pos (fin_f c_27 k_32)])
            subst hzz
            rw [exA_2] at hQ
            exact g_xS (As := [.int p4]) (rest := []) hx hb hml hown hts (ctX2_checkFile_x l hst D cI cZ q u p4 k_32) gX2_make_X2_checkFile rfl rfl rfl hdX2_checkFile ⟨Nat.le_of_ble_eq_true rfl, Nat.le_of_ble_eq_true rfl⟩ XE_em hXE XT_tm (fun U hU hW => g_Tin XT_tm hXT hD hS hA hU hW) hP hK hD hS hA rfl hl.1 rfl (Nat.le_of_ble_eq_true rfl) dX2_make_32 ⟨Nat.le_of_ble_eq_true rfl, Nat.le_of_ble_eq_true rfl⟩ (fun _ _ _ _ _ hE1 hP1 hD1 hS1 hz9 _ hce hcv hcl => g_out hQ htab hlk hE1 hP1 hD1 hS1 (Nat.le_trans (Nat.succ_le_succ hS.1) hz9) hce hcv hcl (Nat.le_refl _) (Nat.le_refl _))
          · refine g_callS0 (As := [.int p4]) (rest := []) hx hb hml hown hts (ctX2_checkFile l D cI cZ q p4 k_32) gX2_make_X2_checkFile rfl rfl rfl hdX2_checkFile ⟨Nat.le_of_ble_eq_true rfl, Nat.le_of_ble_eq_true rfl⟩ gEM_true trivial hP hK hS hA rfl hl.1 rfl (Nat.le_of_ble_eq_true rfl) dX2_make_32 ⟨Nat.zero_le _, Nat.zero_le _⟩ (fun H locs hP hS => ?_)
            refine W.eq (g2 := F0 m 35 ls []) rfl ?_
            refine lv_iload_n hx hb dX2_make_35 rfl (lv_at hl 4 rfl) ?_
            refine lv_iconst (v := (-1)) hx hb dX2_make_36 (by decide +kernel) ?_
            refine lv_icmp_eq (tgt := 60) hx hb dX2_make_37 (by decide) (fun c_37 => ?_) (fun c_37 => ?_)
            · refine lv_aload_n hx hb dX2_make_60 rfl (lv_at hl 1 rfl) ?_
              refine va_get (ci := 2) (v := .ref (q 1)) (C := RX2) (T := TX2) (N := 9) hx hb hts inX2_make_RX2 hown hK hP 0 rfl rfl 0 (by decide) (hts _ lkX2_make_10) (fun _ h9 => h9) rfl dX2_make_61 ?_
              refine g_callV (As := []) (rest := []) hx hb hml hown hts (ctX0_isFull l D cI cZ q u n hn h60) gX2_make_X0_isFull rfl rfl rfl hdX0_isFull ⟨Nat.le_of_ble_eq_true rfl, Nat.le_of_ble_eq_true rfl⟩ XG_em hE hP hK hD hS hA 1 rfl rfl rfl hl.1 rfl (Nat.le_of_ble_eq_true rfl) dX2_make_64 ⟨Nat.zero_le _, Nat.zero_le _⟩ (fun H locs hP hD hS => ?_)
              have hP : va_P D vwCl (XW cI cZ q u) H := hP
              have hD : va_D A (XW cI cZ q u) := hD
              refine W.eq (g2 := F0 m 67 ls [.int (if n < 60 then 0 else 1)]) rfl ?_
              refine lv_if_eq (tgt := 80) hx hb dX2_make_67 (by decide) (fun c_67 => ?_) (fun c_67 => ?_)
              · exact absurd (hz.symm.trans (by unfold xMakeC; rw [if_neg k_9, if_neg k_15, if_neg k_21, if_neg (fin_k k_32), if_pos c_37, if_pos (full_y c_67)])) hz0
              · have hzz : z = 3 := hz.symm.trans (by unfold xMakeC; rw [if_neg k_9, if_neg k_15, if_neg k_21, if_neg (fin_k k_32), if_pos c_37, if_neg (full_n c_67)])
                subst hzz
                rw [exA_3] at hQ
                exact g_throw (text := _) (is := 68) (rest := []) hx hb hst hown hXE hXT hlk htab hQ hP hD hS (hl.1.trans hml.symm) fit_ISE (hts _ lkX2_make_c66) (hts _ lkX2_make_iISE) (List.mem_of_getElem? (i := 11) rfl) (fun w h => hts w (atX2_make_70 w h)) nb_ISE ot_ISE dX2_make_70 dX2_make_73 dX2_make_74 dX2_make_76 dX2_make_79 (Nat.le_of_ble_eq_true rfl) (Nat.le_of_ble_eq_true rfl) (Nat.le_of_ble_eq_true rfl) (Nat.le_of_ble_eq_true rfl)
            · refine lv_iload_n hx hb dX2_make_40 rfl (lv_at hl 3 rfl) ?_
              refine lv_iconst (v := (-1)) hx hb dX2_make_41 (by decide +kernel) ?_
              refine lv_icmp_eq (tgt := 50) hx hb dX2_make_42 (by decide) (fun c_42 => ?_) (fun c_42 => ?_)
              · have hzz : z = 2 := hz.symm.trans (by unfold xMakeC; rw [if_neg k_9, if_neg k_15, if_neg k_21, if_neg (fin_k k_32), if_neg c_37, if_pos c_42])
                subst hzz
                rw [exA_2] at hQ
                exact g_throw (text := _) (is := 57) (rest := []) hx hb hst hown hXE hXT hlk htab hQ hP hD hS (hl.1.trans hml.symm) fit_IAE (hts _ lkX2_make_c55) (hts _ lkX2_make_iIAE) (List.mem_of_getElem? (i := 10) rfl) (fun w h => hts w (atX2_make_59 w h)) nb_IAE ot_IAE dX2_make_50 dX2_make_53 dX2_make_54 dX2_make_56 dX2_make_59 (Nat.le_of_ble_eq_true rfl) (Nat.le_of_ble_eq_true rfl) (Nat.le_of_ble_eq_true rfl) (Nat.le_of_ble_eq_true rfl)
              · refine lv_iload_n hx hb dX2_make_45 rfl (lv_at hl 3 rfl) ?_
                refine lv_iload_n hx hb dX2_make_46 rfl (lv_at hl 4 rfl) ?_
                refine lv_icmp_ne (tgt := 60) hx hb dX2_make_47 (by decide) (fun c_47 => ?_) (fun c_47 => ?_)
                · refine lv_aload_n hx hb dX2_make_60 rfl (lv_at hl 1 rfl) ?_
                  refine va_get (ci := 2) (v := .ref (q 1)) (C := RX2) (T := TX2) (N := 9) hx hb hts inX2_make_RX2 hown hK hP 0 rfl rfl 0 (by decide) (hts _ lkX2_make_10) (fun _ h9 => h9) rfl dX2_make_61 ?_
                  refine g_callV (As := []) (rest := []) hx hb hml hown hts (ctX0_isFull l D cI cZ q u n hn h60) gX2_make_X0_isFull rfl rfl rfl hdX0_isFull ⟨Nat.le_of_ble_eq_true rfl, Nat.le_of_ble_eq_true rfl⟩ XG_em hE hP hK hD hS hA 1 rfl rfl rfl hl.1 rfl (Nat.le_of_ble_eq_true rfl) dX2_make_64 ⟨Nat.zero_le _, Nat.zero_le _⟩ (fun H locs hP hD hS => ?_)
                  have hP : va_P D vwCl (XW cI cZ q u) H := hP
                  have hD : va_D A (XW cI cZ q u) := hD
                  refine W.eq (g2 := F0 m 67 ls [.int (if n < 60 then 0 else 1)]) rfl ?_
                  refine lv_if_eq (tgt := 80) hx hb dX2_make_67 (by decide) (fun c_67 => ?_) (fun c_67 => ?_)
                  · exact absurd (hz.symm.trans (by unfold xMakeC; rw [if_neg k_9, if_neg k_15, if_neg k_21, if_neg (fin_k k_32), if_neg c_37, if_neg c_42, if_neg c_47, if_pos (full_y c_67)])) hz0
                  · have hzz : z = 3 := hz.symm.trans (by unfold xMakeC; rw [if_neg k_9, if_neg k_15, if_neg k_21, if_neg (fin_k k_32), if_neg c_37, if_neg c_42, if_neg c_47, if_neg (full_n c_67)])
                    subst hzz
                    rw [exA_3] at hQ
                    exact g_throw (text := _) (is := 68) (rest := []) hx hb hst hown hXE hXT hlk htab hQ hP hD hS (hl.1.trans hml.symm) fit_ISE (hts _ lkX2_make_c66) (hts _ lkX2_make_iISE) (List.mem_of_getElem? (i := 11) rfl) (fun w h => hts w (atX2_make_70 w h)) nb_ISE ot_ISE dX2_make_70 dX2_make_73 dX2_make_74 dX2_make_76 dX2_make_79 (Nat.le_of_ble_eq_true rfl) (Nat.le_of_ble_eq_true rfl) (Nat.le_of_ble_eq_true rfl) (Nat.le_of_ble_eq_true rfl)
                · have hzz : z = 2 := hz.symm.trans (by unfold xMakeC; rw [if_neg k_9, if_neg k_15, if_neg k_21, if_neg (fin_k k_32), if_neg c_37, if_neg c_42, if_pos c_47])
                  subst hzz
                  rw [exA_2] at hQ
                  exact g_throw (text := _) (is := 57) (rest := []) hx hb hst hown hXE hXT hlk htab hQ hP hD hS (hl.1.trans hml.symm) fit_IAE (hts _ lkX2_make_c55) (hts _ lkX2_make_iIAE) (List.mem_of_getElem? (i := 10) rfl) (fun w h => hts w (atX2_make_59 w h)) nb_IAE ot_IAE dX2_make_50 dX2_make_53 dX2_make_54 dX2_make_56 dX2_make_59 (Nat.le_of_ble_eq_true rfl) (Nat.le_of_ble_eq_true rfl) (Nat.le_of_ble_eq_true rfl) (Nat.le_of_ble_eq_true rfl)
abbrev rmX2_setRef_x1 : Room := { frames := 7, cells := 1, slots := 6, locals := 103 }
set_option maxHeartbeats 4000000 in
set_option maxRecDepth 100000 in
theorem ctX2_setRef_x1 (l : Launch) (hst : l.stackTraces = false) (D : va_G) (cI cZ : ClassId) (q : Nat → Nat) (u : SX) (p0 p1 p2 : Int32) (hs : p0 = 1) (z : Int32) (hz : xSetRC (u.2 1) p1 p2 = z) (hz0 : ¬ z = 0) : gX l yX2_setRef wsX2_setRef rmX2_setRef_x1 D [(cI, .int), (cZ, .boolean)] (XW cI cZ q) XE XT [.ref (q 0), .int p0, .int p1, .int p2] u (exA z) := by
  refine g_startX (cc := cX2_setRef) (maxL := 6) (ret := (some .int)) (by decide) rfl (Nat.le_of_ble_eq_true rfl) ?_
  intro p e s m below meth c A ls Q hx hb hml hret hts hown hlk hXE hP hK hD hA hl hQ hS hXT htab
  have hE := hXE.1
  have hown : s.vm.findClass RX2 = some m.cls := hown
  have hl : lv_has ls 6 [(0, .ref (q 0)), (1, .int p0), (2, .int p1), (3, .int p2)] := hl
  refine lv_aload_n hx hb dX2_setRef_0 rfl (lv_at hl 0 rfl) ?_
  refine lv_iload_n hx hb dX2_setRef_1 rfl (lv_at hl 1 rfl) ?_
  refine g_callV (As := [.int p0]) (rest := []) hx hb hml hown hts (ctX2_storeOf_1 l D cI cZ q u p0 hs) gX2_setRef_X2_storeOf rfl rfl rfl hdX2_storeOf ⟨Nat.le_of_ble_eq_true rfl, Nat.le_of_ble_eq_true rfl⟩ XG_em hE hP hK hD hS hA 0 rfl rfl rfl hl.1 rfl (Nat.le_of_ble_eq_true rfl) dX2_setRef_2 ⟨Nat.zero_le _, Nat.zero_le _⟩ (fun H locs hP hD hS => ?_)
  have hP : va_P D vwCl (XW cI cZ q u) H := hP
  have hD : va_D A (XW cI cZ q u) := hD
  refine W.eq (g2 := F0 m 5 ls [.ref (q 3)]) rfl ?_
  refine lv_astore (lv' := [(4, .ref (q 3)), (0, .ref (q 0)), (1, .int p0), (2, .int p1), (3, .int p2)]) hx hb dX2_setRef_5 hl (by decide) rfl (fun ls hl => ?_)
  refine lv_iload_n hx hb dX2_setRef_7 rfl (lv_at hl 3 rfl) ?_
  by_cases k_8 : xRange p1 4 = 0
  · have hzz : z = 1 := hz.symm.trans (by unfold xSetRC; rw [if_pos k_8])
    subst hzz
    rw [exA_1] at hQ
    exact g_xS (As := [.int p1]) (rest := []) hx hb hml hown hts (ctX2_checkRef_x l hst D cI cZ q u p1 k_8) gX2_setRef_X2_checkRef rfl rfl rfl hdX2_checkRef ⟨Nat.le_of_ble_eq_true rfl, Nat.le_of_ble_eq_true rfl⟩ XE_em hXE XT_tm (fun U hU hW => g_Tin XT_tm hXT hD hS hA hU hW) hP hK hD hS hA rfl hl.1 rfl (Nat.le_of_ble_eq_true rfl) dX2_setRef_8 ⟨Nat.le_of_ble_eq_true rfl, Nat.le_of_ble_eq_true rfl⟩ (fun _ _ _ _ _ hE1 hP1 hD1 hS1 hz9 _ hce hcv hcl => g_out hQ htab hlk hE1 hP1 hD1 hS1 (Nat.le_trans (Nat.succ_le_succ hS.1) hz9) hce hcv hcl (Nat.le_refl _) (Nat.le_refl _))
  · refine g_callS0 (As := [.int p1]) (rest := []) hx hb hml hown hts (ctX2_checkRef l D cI cZ q p1 k_8) gX2_setRef_X2_checkRef rfl rfl rfl hdX2_checkRef ⟨Nat.le_of_ble_eq_true rfl, Nat.le_of_ble_eq_true rfl⟩ gEM_true trivial hP hK hS hA rfl hl.1 rfl (Nat.le_of_ble_eq_true rfl) dX2_setRef_8 ⟨Nat.zero_le _, Nat.zero_le _⟩ (fun H locs hP hS => ?_)
    refine W.eq (g2 := F0 m 11 ls []) rfl ?_
    refine lv_aload hx hb dX2_setRef_11 (lv_at hl 0 rfl) ?_
    refine lv_iload_n hx hb dX2_setRef_13 rfl (lv_at hl 4 rfl) ?_
    by_cases k_14 : xHoN (u.2 1) p2 = 0
    · have hzz : z = 1 := hz.symm.trans (by unfold xSetRC; rw [if_neg k_8, if_pos k_14])
      subst hzz
      rw [exA_1] at hQ
      exact g_xS (As := [.ref (q 3), .int p2]) (rest := []) hx hb hml hown hts (ctX2_checkHeldOrNone_x1 l hst D cI cZ q u p2 k_14) gX2_setRef_X2_checkHeldOrNone rfl rfl rfl hdX2_checkHeldOrNone ⟨Nat.le_of_ble_eq_true rfl, Nat.le_of_ble_eq_true rfl⟩ XE_em hXE XT_tm (fun U hU hW => g_Tin XT_tm hXT hD hS hA hU hW) hP hK hD hS hA rfl hl.1 rfl (Nat.le_of_ble_eq_true rfl) dX2_setRef_14 ⟨Nat.le_of_ble_eq_true rfl, Nat.le_of_ble_eq_true rfl⟩ (fun _ _ _ _ _ hE1 hP1 hD1 hS1 hz9 _ hce hcv hcl => g_out hQ htab hlk hE1 hP1 hD1 hS1 (Nat.le_trans (Nat.succ_le_succ hS.1) hz9) hce hcv hcl (Nat.le_refl _) (Nat.le_refl _))
    · refine g_callS (As := [.ref (q 3), .int p2]) (rest := []) hx hb hml hown hts (ctX2_checkHeldOrNone_1 l D cI cZ q u p2 (hon_or k_14)) gX2_setRef_X2_checkHeldOrNone rfl rfl rfl hdX2_checkHeldOrNone ⟨Nat.le_of_ble_eq_true rfl, Nat.le_of_ble_eq_true rfl⟩ XG_em hE hP hK hD hS hA rfl hl.1 rfl (Nat.le_of_ble_eq_true rfl) dX2_setRef_14 ⟨Nat.zero_le _, Nat.zero_le _⟩ (fun H locs hP hD hS => ?_)
      have hP : va_P D vwCl (XW cI cZ q u) H := hP
      have hD : va_D A (XW cI cZ q u) := hD
      refine W.eq (g2 := F0 m 17 ls []) rfl ?_
      exact absurd (hz.symm.trans (by unfold xSetRC; rw [if_neg k_8, if_neg k_14])) hz0
abbrev rmX2_ref_x1 : Room := { frames := 7, cells := 1, slots := 6, locals := 102 }
set_option maxHeartbeats 4000000 in
set_option maxRecDepth 100000 in
theorem ctX2_ref_x1 (l : Launch) (hst : l.stackTraces = false) (D : va_G) (cI cZ : ClassId) (q : Nat → Nat) (u : SX) (p0 p1 : Int32) (hs : p0 = 1) (h1 : xRange p1 4 = 0) : gX l yX2_ref wsX2_ref rmX2_ref_x1 D [(cI, .int), (cZ, .boolean)] (XW cI cZ q) XE XT [.ref (q 0), .int p0, .int p1] u "java/lang/IndexOutOfBoundsException" := by
  refine g_startX (cc := cX2_ref) (maxL := 4) (ret := (some .int)) (by decide) rfl (Nat.le_of_ble_eq_true rfl) ?_
  intro p e s m below meth c A ls Q hx hb hml hret hts hown hlk hXE hP hK hD hA hl hQ hS hXT htab
  have hE := hXE.1
  have hown : s.vm.findClass RX2 = some m.cls := hown
  have hl : lv_has ls 4 [(0, .ref (q 0)), (1, .int p0), (2, .int p1)] := hl
  refine lv_aload_n hx hb dX2_ref_0 rfl (lv_at hl 0 rfl) ?_
  refine lv_iload_n hx hb dX2_ref_1 rfl (lv_at hl 1 rfl) ?_
  refine g_callV (As := [.int p0]) (rest := []) hx hb hml hown hts (ctX2_storeOf_1 l D cI cZ q u p0 hs) gX2_ref_X2_storeOf rfl rfl rfl hdX2_storeOf ⟨Nat.le_of_ble_eq_true rfl, Nat.le_of_ble_eq_true rfl⟩ XG_em hE hP hK hD hS hA 0 rfl rfl rfl hl.1 rfl (Nat.le_of_ble_eq_true rfl) dX2_ref_2 ⟨Nat.zero_le _, Nat.zero_le _⟩ (fun H locs hP hD hS => ?_)
  have hP : va_P D vwCl (XW cI cZ q u) H := hP
  have hD : va_D A (XW cI cZ q u) := hD
  refine W.eq (g2 := F0 m 5 ls [.ref (q 3)]) rfl ?_
  refine lv_astore_n (lv' := [(3, .ref (q 3)), (0, .ref (q 0)), (1, .int p0), (2, .int p1)]) hx hb dX2_ref_5 rfl hl (by decide) rfl (fun ls hl => ?_)
  refine lv_iload_n hx hb dX2_ref_6 rfl (lv_at hl 3 rfl) ?_
  exact g_xS (As := [.int p1]) (rest := []) hx hb hml hown hts (ctX2_checkRef_x l hst D cI cZ q u p1 h1) gX2_ref_X2_checkRef rfl rfl rfl hdX2_checkRef ⟨Nat.le_of_ble_eq_true rfl, Nat.le_of_ble_eq_true rfl⟩ XE_em hXE XT_tm (fun U hU hW => g_Tin XT_tm hXT hD hS hA hU hW) hP hK hD hS hA rfl hl.1 rfl (Nat.le_of_ble_eq_true rfl) dX2_ref_7 ⟨Nat.le_of_ble_eq_true rfl, Nat.le_of_ble_eq_true rfl⟩ (fun _ _ _ _ _ hE1 hP1 hD1 hS1 hz9 _ hce hcv hcl => g_out hQ htab hlk hE1 hP1 hD1 hS1 (Nat.le_trans (Nat.succ_le_succ hS.1) hz9) hce hcv hcl (Nat.le_refl _) (Nat.le_refl _))
abbrev rmX2_has_x1 : Room := { frames := 7, cells := 1, slots := 6, locals := 103 }
set_option maxHeartbeats 4000000 in
set_option maxRecDepth 100000 in
theorem ctX2_has_x1 (l : Launch) (hst : l.stackTraces = false) (D : va_G) (cI cZ : ClassId) (q : Nat → Nat) (u : SX) (n : Nat) (hn : u.1 15 0 = nI n) (h60 : n ≤ 60) (p0 p1 : Int32) (hs : p0 = 1) (h1 : xRange p1 (nI n) = 0) : gX l yX2_has wsX2_has rmX2_has_x1 D [(cI, .int), (cZ, .boolean)] (XW cI cZ q) XE XT [.ref (q 0), .int p0, .int p1] u "java/lang/IndexOutOfBoundsException" := by
  refine g_startX (cc := cX2_has) (maxL := 4) (ret := (some .boolean)) (by decide) rfl (Nat.le_of_ble_eq_true rfl) ?_
  intro p e s m below meth c A ls Q hx hb hml hret hts hown hlk hXE hP hK hD hA hl hQ hS hXT htab
  have hE := hXE.1
  have hown : s.vm.findClass RX2 = some m.cls := hown
  have hl : lv_has ls 4 [(0, .ref (q 0)), (1, .int p0), (2, .int p1)] := hl
  refine lv_aload_n hx hb dX2_has_0 rfl (lv_at hl 0 rfl) ?_
  refine lv_iload_n hx hb dX2_has_1 rfl (lv_at hl 1 rfl) ?_
  refine g_callV (As := [.int p0]) (rest := []) hx hb hml hown hts (ctX2_storeOf_1 l D cI cZ q u p0 hs) gX2_has_X2_storeOf rfl rfl rfl hdX2_storeOf ⟨Nat.le_of_ble_eq_true rfl, Nat.le_of_ble_eq_true rfl⟩ XG_em hE hP hK hD hS hA 0 rfl rfl rfl hl.1 rfl (Nat.le_of_ble_eq_true rfl) dX2_has_2 ⟨Nat.zero_le _, Nat.zero_le _⟩ (fun H locs hP hD hS => ?_)
  have hP : va_P D vwCl (XW cI cZ q u) H := hP
  have hD : va_D A (XW cI cZ q u) := hD
  refine W.eq (g2 := F0 m 5 ls [.ref (q 3)]) rfl ?_
  refine lv_astore_n (lv' := [(3, .ref (q 3)), (0, .ref (q 0)), (1, .int p0), (2, .int p1)]) hx hb dX2_has_5 rfl hl (by decide) rfl (fun ls hl => ?_)
  refine lv_aload_n hx hb dX2_has_6 rfl (lv_at hl 1 rfl) ?_
  refine lv_iload_n hx hb dX2_has_7 rfl (lv_at hl 3 rfl) ?_
  exact g_xV (As := [.int p1]) (rest := []) hx hb hml hown hts (ctX2_checkCommit_x l hst D cI cZ q u n hn h60 p1 h1) gX2_has_X2_checkCommit rfl rfl rfl hdX2_checkCommit ⟨Nat.le_of_ble_eq_true rfl, Nat.le_of_ble_eq_true rfl⟩ XE_em hXE XT_tm (fun U hU hW => g_Tin XT_tm hXT hD hS hA hU hW) hP hK hD hS hA 0 rfl rfl rfl hl.1 rfl (Nat.le_of_ble_eq_true rfl) dX2_has_8 ⟨Nat.le_of_ble_eq_true rfl, Nat.le_of_ble_eq_true rfl⟩ (fun _ _ _ _ _ hE1 hP1 hD1 hS1 hz9 _ hce hcv hcl => g_out hQ htab hlk hE1 hP1 hD1 hS1 (Nat.le_trans (Nat.succ_le_succ hS.1) hz9) hce hcv hcl (Nat.le_refl _) (Nat.le_refl _))
abbrev rmX2_hasFile_x1 : Room := { frames := 7, cells := 1, slots := 6, locals := 102 }
set_option maxHeartbeats 4000000 in
set_option maxRecDepth 100000 in
theorem ctX2_hasFile_x1 (l : Launch) (hst : l.stackTraces = false) (D : va_G) (cI cZ : ClassId) (q : Nat → Nat) (u : SX) (p0 p1 : Int32) (hs : p0 = 1) (h1 : xRange p1 100 = 0) : gX l yX2_hasFile wsX2_hasFile rmX2_hasFile_x1 D [(cI, .int), (cZ, .boolean)] (XW cI cZ q) XE XT [.ref (q 0), .int p0, .int p1] u "java/lang/IllegalArgumentException" := by
  refine g_startX (cc := cX2_hasFile) (maxL := 4) (ret := (some .boolean)) (by decide) rfl (Nat.le_of_ble_eq_true rfl) ?_
  intro p e s m below meth c A ls Q hx hb hml hret hts hown hlk hXE hP hK hD hA hl hQ hS hXT htab
  have hE := hXE.1
  have hown : s.vm.findClass RX2 = some m.cls := hown
  have hl : lv_has ls 4 [(0, .ref (q 0)), (1, .int p0), (2, .int p1)] := hl
  refine lv_aload_n hx hb dX2_hasFile_0 rfl (lv_at hl 0 rfl) ?_
  refine lv_iload_n hx hb dX2_hasFile_1 rfl (lv_at hl 1 rfl) ?_
  refine g_callV (As := [.int p0]) (rest := []) hx hb hml hown hts (ctX2_storeOf_1 l D cI cZ q u p0 hs) gX2_hasFile_X2_storeOf rfl rfl rfl hdX2_storeOf ⟨Nat.le_of_ble_eq_true rfl, Nat.le_of_ble_eq_true rfl⟩ XG_em hE hP hK hD hS hA 0 rfl rfl rfl hl.1 rfl (Nat.le_of_ble_eq_true rfl) dX2_hasFile_2 ⟨Nat.zero_le _, Nat.zero_le _⟩ (fun H locs hP hD hS => ?_)
  have hP : va_P D vwCl (XW cI cZ q u) H := hP
  have hD : va_D A (XW cI cZ q u) := hD
  refine W.eq (g2 := F0 m 5 ls [.ref (q 3)]) rfl ?_
  refine lv_astore_n (lv' := [(3, .ref (q 3)), (0, .ref (q 0)), (1, .int p0), (2, .int p1)]) hx hb dX2_hasFile_5 rfl hl (by decide) rfl (fun ls hl => ?_)
  refine lv_iload_n hx hb dX2_hasFile_6 rfl (lv_at hl 3 rfl) ?_
  exact g_xS (As := [.int p1]) (rest := []) hx hb hml hown hts (ctX2_checkFile_x l hst D cI cZ q u p1 h1) gX2_hasFile_X2_checkFile rfl rfl rfl hdX2_checkFile ⟨Nat.le_of_ble_eq_true rfl, Nat.le_of_ble_eq_true rfl⟩ XE_em hXE XT_tm (fun U hU hW => g_Tin XT_tm hXT hD hS hA hU hW) hP hK hD hS hA rfl hl.1 rfl (Nat.le_of_ble_eq_true rfl) dX2_hasFile_7 ⟨Nat.le_of_ble_eq_true rfl, Nat.le_of_ble_eq_true rfl⟩ (fun _ _ _ _ _ hE1 hP1 hD1 hS1 hz9 _ hce hcv hcl => g_out hQ htab hlk hE1 hP1 hD1 hS1 (Nat.le_trans (Nat.succ_le_succ hS.1) hz9) hce hcv hcl (Nat.le_refl _) (Nat.le_refl _))
abbrev rmX2_isAncestor_x1 : Room := { frames := 7, cells := 1, slots := 6, locals := 103 }
set_option maxHeartbeats 4000000 in
set_option maxRecDepth 100000 in
theorem ctX2_isAncestor_x1 (l : Launch) (hst : l.stackTraces = false) (D : va_G) (cI cZ : ClassId) (q : Nat → Nat) (u : SX) (n : Nat) (hn : u.1 15 0 = nI n) (h60 : n ≤ 60) (p0 p1 p2 : Int32) (hs : p0 = 1) (z : Int32) (hz : xAncC n p1 p2 = z) (hz0 : ¬ z = 0) : gX l yX2_isAncestor wsX2_isAncestor rmX2_isAncestor_x1 D [(cI, .int), (cZ, .boolean)] (XW cI cZ q) XE XT [.ref (q 0), .int p0, .int p1, .int p2] u (exA z) := by
  refine g_startX (cc := cX2_isAncestor) (maxL := 5) (ret := (some .boolean)) (by decide) rfl (Nat.le_of_ble_eq_true rfl) ?_
  intro p e s m below meth c A ls Q hx hb hml hret hts hown hlk hXE hP hK hD hA hl hQ hS hXT htab
  have hE := hXE.1
  have hown : s.vm.findClass RX2 = some m.cls := hown
  have hl : lv_has ls 5 [(0, .ref (q 0)), (1, .int p0), (2, .int p1), (3, .int p2)] := hl
  refine lv_aload_n hx hb dX2_isAncestor_0 rfl (lv_at hl 0 rfl) ?_
  refine lv_iload_n hx hb dX2_isAncestor_1 rfl (lv_at hl 1 rfl) ?_
  refine g_callV (As := [.int p0]) (rest := []) hx hb hml hown hts (ctX2_storeOf_1 l D cI cZ q u p0 hs) gX2_isAncestor_X2_storeOf rfl rfl rfl hdX2_storeOf ⟨Nat.le_of_ble_eq_true rfl, Nat.le_of_ble_eq_true rfl⟩ XG_em hE hP hK hD hS hA 0 rfl rfl rfl hl.1 rfl (Nat.le_of_ble_eq_true rfl) dX2_isAncestor_2 ⟨Nat.zero_le _, Nat.zero_le _⟩ (fun H locs hP hD hS => ?_)
  have hP : va_P D vwCl (XW cI cZ q u) H := hP
  have hD : va_D A (XW cI cZ q u) := hD
  refine W.eq (g2 := F0 m 5 ls [.ref (q 3)]) rfl ?_
  refine lv_astore (lv' := [(4, .ref (q 3)), (0, .ref (q 0)), (1, .int p0), (2, .int p1), (3, .int p2)]) hx hb dX2_isAncestor_5 hl (by decide) rfl (fun ls hl => ?_)
  refine lv_aload_n hx hb dX2_isAncestor_7 rfl (lv_at hl 1 rfl) ?_
  refine lv_iload_n hx hb dX2_isAncestor_8 rfl (lv_at hl 3 rfl) ?_
  by_cases k_9 : xRange p1 (nI n) = 0
  · have hzz : z = 1 := hz.symm.trans (by unfold xAncC; rw [if_pos k_9])
    subst hzz
    rw [exA_1] at hQ
    exact g_xV (As := [.int p1]) (rest := []) hx hb hml hown hts (ctX2_checkCommit_x l hst D cI cZ q u n hn h60 p1 k_9) gX2_isAncestor_X2_checkCommit rfl rfl rfl hdX2_checkCommit ⟨Nat.le_of_ble_eq_true rfl, Nat.le_of_ble_eq_true rfl⟩ XE_em hXE XT_tm (fun U hU hW => g_Tin XT_tm hXT hD hS hA hU hW) hP hK hD hS hA 0 rfl rfl rfl hl.1 rfl (Nat.le_of_ble_eq_true rfl) dX2_isAncestor_9 ⟨Nat.le_of_ble_eq_true rfl, Nat.le_of_ble_eq_true rfl⟩ (fun _ _ _ _ _ hE1 hP1 hD1 hS1 hz9 _ hce hcv hcl => g_out hQ htab hlk hE1 hP1 hD1 hS1 (Nat.le_trans (Nat.succ_le_succ hS.1) hz9) hce hcv hcl (Nat.le_refl _) (Nat.le_refl _))
  · refine g_callV (As := [.int p1]) (rest := []) hx hb hml hown hts (ctX2_checkCommit l D cI cZ q u n hn h60 p1 k_9) gX2_isAncestor_X2_checkCommit rfl rfl rfl hdX2_checkCommit ⟨Nat.le_of_ble_eq_true rfl, Nat.le_of_ble_eq_true rfl⟩ XG_em hE hP hK hD hS hA 0 rfl rfl rfl hl.1 rfl (Nat.le_of_ble_eq_true rfl) dX2_isAncestor_9 ⟨Nat.zero_le _, Nat.zero_le _⟩ (fun H locs hP hD hS => ?_)
    have hP : va_P D vwCl (XW cI cZ q u) H := hP
    have hD : va_D A (XW cI cZ q u) := hD
    refine W.eq (g2 := F0 m 12 ls []) rfl ?_
    refine lv_aload_n hx hb dX2_isAncestor_12 rfl (lv_at hl 1 rfl) ?_
    refine lv_iload_n hx hb dX2_isAncestor_13 rfl (lv_at hl 4 rfl) ?_
    by_cases k_14 : xRange p2 (nI n) = 0
    · have hzz : z = 1 := hz.symm.trans (by unfold xAncC; rw [if_neg k_9, if_pos k_14])
      subst hzz
      rw [exA_1] at hQ
      exact g_xV (As := [.int p2]) (rest := []) hx hb hml hown hts (ctX2_checkCommit_x l hst D cI cZ q u n hn h60 p2 k_14) gX2_isAncestor_X2_checkCommit rfl rfl rfl hdX2_checkCommit ⟨Nat.le_of_ble_eq_true rfl, Nat.le_of_ble_eq_true rfl⟩ XE_em hXE XT_tm (fun U hU hW => g_Tin XT_tm hXT hD hS hA hU hW) hP hK hD hS hA 0 rfl rfl rfl hl.1 rfl (Nat.le_of_ble_eq_true rfl) dX2_isAncestor_14 ⟨Nat.le_of_ble_eq_true rfl, Nat.le_of_ble_eq_true rfl⟩ (fun _ _ _ _ _ hE1 hP1 hD1 hS1 hz9 _ hce hcv hcl => g_out hQ htab hlk hE1 hP1 hD1 hS1 (Nat.le_trans (Nat.succ_le_succ hS.1) hz9) hce hcv hcl (Nat.le_refl _) (Nat.le_refl _))
    · refine g_callV (As := [.int p2]) (rest := []) hx hb hml hown hts (ctX2_checkCommit l D cI cZ q u n hn h60 p2 k_14) gX2_isAncestor_X2_checkCommit rfl rfl rfl hdX2_checkCommit ⟨Nat.le_of_ble_eq_true rfl, Nat.le_of_ble_eq_true rfl⟩ XG_em hE hP hK hD hS hA 0 rfl rfl rfl hl.1 rfl (Nat.le_of_ble_eq_true rfl) dX2_isAncestor_14 ⟨Nat.zero_le _, Nat.zero_le _⟩ (fun H locs hP hD hS => ?_)
      have hP : va_P D vwCl (XW cI cZ q u) H := hP
      have hD : va_D A (XW cI cZ q u) := hD
      refine W.eq (g2 := F0 m 17 ls []) rfl ?_
      exact absurd (hz.symm.trans (by unfold xAncC; rw [if_neg k_9, if_neg k_14])) hz0
abbrev rmX2_fileAt_x : Room := { frames := 7, cells := 1, slots := 6, locals := 103 }
set_option maxHeartbeats 4000000 in
set_option maxRecDepth 100000 in
theorem ctX2_fileAt_x (l : Launch) (hst : l.stackTraces = false) (D : va_G) (cI cZ : ClassId) (q : Nat → Nat) (u : SX) (n : Nat) (hn : u.1 15 0 = nI n) (h60 : n ≤ 60) (p0 p1 : Int32) (z : Int32) (hz : xFileC n p0 p1 = z) (hz0 : ¬ z = 0) : gX l yX2_fileAt wsX2_fileAt rmX2_fileAt_x D [(cI, .int), (cZ, .boolean)] (XW cI cZ q) XE XT [.ref (q 0), .int p0, .int p1] u (exA z) := by
  refine g_startX (cc := cX2_fileAt) (maxL := 3) (ret := (some .int)) (by decide) rfl (Nat.le_of_ble_eq_true rfl) ?_
  intro p e s m below meth c A ls Q hx hb hml hret hts hown hlk hXE hP hK hD hA hl hQ hS hXT htab
  have hE := hXE.1
  have hown : s.vm.findClass RX2 = some m.cls := hown
  have hl : lv_has ls 3 [(0, .ref (q 0)), (1, .int p0), (2, .int p1)] := hl
  refine lv_aload_n hx hb dX2_fileAt_0 rfl (lv_at hl 0 rfl) ?_
  refine lv_iload_n hx hb dX2_fileAt_1 rfl (lv_at hl 1 rfl) ?_
  by_cases k_2 : xRange p0 (nI n) = 0
  · have hzz : z = 1 := hz.symm.trans (by unfold xFileC; rw [if_pos k_2])
    subst hzz
    rw [exA_1] at hQ
    exact g_xV (As := [.int p0]) (rest := []) hx hb hml hown hts (ctX2_checkCommit_x l hst D cI cZ q u n hn h60 p0 k_2) gX2_fileAt_X2_checkCommit rfl rfl rfl hdX2_checkCommit ⟨Nat.le_of_ble_eq_true rfl, Nat.le_of_ble_eq_true rfl⟩ XE_em hXE XT_tm (fun U hU hW => g_Tin XT_tm hXT hD hS hA hU hW) hP hK hD hS hA 0 rfl rfl rfl hl.1 rfl (Nat.le_of_ble_eq_true rfl) dX2_fileAt_2 ⟨Nat.le_of_ble_eq_true rfl, Nat.le_of_ble_eq_true rfl⟩ (fun _ _ _ _ _ hE1 hP1 hD1 hS1 hz9 _ hce hcv hcl => g_out hQ htab hlk hE1 hP1 hD1 hS1 (Nat.le_trans (Nat.succ_le_succ hS.1) hz9) hce hcv hcl (Nat.le_refl _) (Nat.le_refl _))
  · refine g_callV (As := [.int p0]) (rest := []) hx hb hml hown hts (ctX2_checkCommit l D cI cZ q u n hn h60 p0 k_2) gX2_fileAt_X2_checkCommit rfl rfl rfl hdX2_checkCommit ⟨Nat.le_of_ble_eq_true rfl, Nat.le_of_ble_eq_true rfl⟩ XG_em hE hP hK hD hS hA 0 rfl rfl rfl hl.1 rfl (Nat.le_of_ble_eq_true rfl) dX2_fileAt_2 ⟨Nat.zero_le _, Nat.zero_le _⟩ (fun H locs hP hD hS => ?_)
    have hP : va_P D vwCl (XW cI cZ q u) H := hP
    have hD : va_D A (XW cI cZ q u) := hD
    refine W.eq (g2 := F0 m 5 ls []) rfl ?_
    refine lv_iload_n hx hb dX2_fileAt_5 rfl (lv_at hl 2 rfl) ?_
    by_cases k_6 : xRange p1 4 = 0
    · have hzz : z = 1 := hz.symm.trans (by unfold xFileC; rw [if_neg k_2, if_pos k_6])
      subst hzz
      rw [exA_1] at hQ
      exact g_xS (As := [.int p1]) (rest := []) hx hb hml hown hts (ctX2_checkSlot_x l hst D cI cZ q u p1 k_6) gX2_fileAt_X2_checkSlot rfl rfl rfl hdX2_checkSlot ⟨Nat.le_of_ble_eq_true rfl, Nat.le_of_ble_eq_true rfl⟩ XE_em hXE XT_tm (fun U hU hW => g_Tin XT_tm hXT hD hS hA hU hW) hP hK hD hS hA rfl hl.1 rfl (Nat.le_of_ble_eq_true rfl) dX2_fileAt_6 ⟨Nat.le_of_ble_eq_true rfl, Nat.le_of_ble_eq_true rfl⟩ (fun _ _ _ _ _ hE1 hP1 hD1 hS1 hz9 _ hce hcv hcl => g_out hQ htab hlk hE1 hP1 hD1 hS1 (Nat.le_trans (Nat.succ_le_succ hS.1) hz9) hce hcv hcl (Nat.le_refl _) (Nat.le_refl _))
    · refine g_callS0 (As := [.int p1]) (rest := []) hx hb hml hown hts (ctX2_checkSlot l D cI cZ q p1 k_6) gX2_fileAt_X2_checkSlot rfl rfl rfl hdX2_checkSlot ⟨Nat.le_of_ble_eq_true rfl, Nat.le_of_ble_eq_true rfl⟩ gEM_true trivial hP hK hS hA rfl hl.1 rfl (Nat.le_of_ble_eq_true rfl) dX2_fileAt_6 ⟨Nat.zero_le _, Nat.zero_le _⟩ (fun H locs hP hS => ?_)
      refine W.eq (g2 := F0 m 9 ls []) rfl ?_
      exact absurd (hz.symm.trans (by unfold xFileC; rw [if_neg k_2, if_neg k_6])) hz0
abbrev rmX2_fetch_x : Room := { frames := 8, cells := 1, slots := 6, locals := 125 }
set_option maxHeartbeats 4000000 in
set_option maxRecDepth 100000 in
theorem ctX2_fetch_x (l : Launch) (hst : l.stackTraces = false) (D : va_G) (cI cZ : ClassId) (q : Nat → Nat) (u : SX) (p0 p1 p2 : Int32) (z : Int32) (hz : xFetC p0 p1 (u.1 6) = z) (hz0 : ¬ z = 0) : gX l yX2_fetch wsX2_fetch rmX2_fetch_x D [(cI, .int), (cZ, .boolean)] (XW cI cZ q) XE XT [.ref (q 0), .int p0, .int p1, .int p2] u (exA z) := by
  refine g_startX (cc := cX2_fetch) (maxL := 9) (ret := (some .int)) (by decide) rfl (Nat.le_of_ble_eq_true rfl) ?_
  intro p e s m below meth c A ls Q hx hb hml hret hts hown hlk hXE hP hK hD hA hl hQ hS hXT htab
  have hE := hXE.1
  have hown : s.vm.findClass RX2 = some m.cls := hown
  have hl : lv_has ls 9 [(0, .ref (q 0)), (1, .int p0), (2, .int p1), (3, .int p2)] := hl
  refine lv_aload_n hx hb dX2_fetch_0 rfl (lv_at hl 0 rfl) ?_
  refine lv_iload_n hx hb dX2_fetch_1 rfl (lv_at hl 1 rfl) ?_
  refine lv_iload_n hx hb dX2_fetch_2 rfl (lv_at hl 2 rfl) ?_
  exact g_xV (As := [.int p0, .int p1]) (rest := []) hx hb hml hown hts (ctX2_commitToFetch_x l hst D cI cZ q u p0 p1 z hz hz0) gX2_fetch_X2_commitToFetch rfl rfl rfl hdX2_commitToFetch ⟨Nat.le_of_ble_eq_true rfl, Nat.le_of_ble_eq_true rfl⟩ XE_em hXE XT_tm (fun U hU hW => g_Tin XT_tm hXT hD hS hA hU hW) hP hK hD hS hA 0 rfl rfl rfl hl.1 rfl (Nat.le_of_ble_eq_true rfl) dX2_fetch_3 ⟨Nat.le_of_ble_eq_true rfl, Nat.le_of_ble_eq_true rfl⟩ (fun _ _ _ _ _ hE1 hP1 hD1 hS1 hz9 _ hce hcv hcl => g_out hQ htab hlk hE1 hP1 hD1 hS1 (Nat.le_trans (Nat.succ_le_succ hS.1) hz9) hce hcv hcl (Nat.le_refl _) (Nat.le_refl _))
abbrev rmX2_wouldFetch_x : Room := { frames := 8, cells := 1, slots := 6, locals := 125 }
set_option maxHeartbeats 4000000 in
set_option maxRecDepth 100000 in
theorem ctX2_wouldFetch_x (l : Launch) (hst : l.stackTraces = false) (D : va_G) (cI cZ : ClassId) (q : Nat → Nat) (u : SX) (p0 p1 : Int32) (z : Int32) (hz : xFetC p0 p1 (u.1 6) = z) (hz0 : ¬ z = 0) : gX l yX2_wouldFetch wsX2_wouldFetch rmX2_wouldFetch_x D [(cI, .int), (cZ, .boolean)] (XW cI cZ q) XE XT [.ref (q 0), .int p0, .int p1] u (exA z) := by
  refine g_startX (cc := cX2_wouldFetch) (maxL := 4) (ret := (some .int)) (by decide) rfl (Nat.le_of_ble_eq_true rfl) ?_
  intro p e s m below meth c A ls Q hx hb hml hret hts hown hlk hXE hP hK hD hA hl hQ hS hXT htab
  have hE := hXE.1
  have hown : s.vm.findClass RX2 = some m.cls := hown
  have hl : lv_has ls 4 [(0, .ref (q 0)), (1, .int p0), (2, .int p1)] := hl
  refine lv_aload_n hx hb dX2_wouldFetch_0 rfl (lv_at hl 0 rfl) ?_
  refine lv_iload_n hx hb dX2_wouldFetch_1 rfl (lv_at hl 1 rfl) ?_
  refine lv_iload_n hx hb dX2_wouldFetch_2 rfl (lv_at hl 2 rfl) ?_
  exact g_xV (As := [.int p0, .int p1]) (rest := []) hx hb hml hown hts (ctX2_commitToFetch_x l hst D cI cZ q u p0 p1 z hz hz0) gX2_wouldFetch_X2_commitToFetch rfl rfl rfl hdX2_commitToFetch ⟨Nat.le_of_ble_eq_true rfl, Nat.le_of_ble_eq_true rfl⟩ XE_em hXE XT_tm (fun U hU hW => g_Tin XT_tm hXT hD hS hA hU hW) hP hK hD hS hA 0 rfl rfl rfl hl.1 rfl (Nat.le_of_ble_eq_true rfl) dX2_wouldFetch_3 ⟨Nat.le_of_ble_eq_true rfl, Nat.le_of_ble_eq_true rfl⟩ (fun _ _ _ _ _ hE1 hP1 hD1 hS1 hz9 _ hce hcv hcl => g_out hQ htab hlk hE1 hP1 hD1 hS1 (Nat.le_trans (Nat.succ_le_succ hS.1) hz9) hce hcv hcl (Nat.le_refl _) (Nat.le_refl _))
theorem lkX2_load_c66 : Cond.classLink RX2 66 "java/lang/IllegalStateException" ∈ wsX2_load := List.mem_of_getElem? (i := 1) (by decide +kernel)
theorem lkX2_load_iISE : Cond.initialized "java/lang/IllegalStateException" ∈ wsX2_load := List.mem_of_getElem? (i := 2) (by decide +kernel)
theorem atX2_load_70 : ∀ w ∈ (vx_atS RX2 70 "java/lang/IllegalStateException" xNm).filter goodWord, w ∈ wsX2_load := fun w h => List.mem_cons_of_mem _ (List.mem_append_left _ (List.mem_append_right _ h))
abbrev rmX2_load_x : Room := { frames := 7, cells := 1, slots := 6, locals := 102 }
set_option maxHeartbeats 4000000 in
set_option maxRecDepth 100000 in
theorem ctX2_load_x (l : Launch) (hst : l.stackTraces = false) (D : va_G) (cI cZ : ClassId) (q : Nat → Nat) (u : SX) (p0 : Int32) (z : Int32) (hz : xLoadC p0 (u.1 5) = z) (hz0 : ¬ z = 0) : gX l yX2_load wsX2_load rmX2_load_x D [(cI, .int), (cZ, .boolean)] (XW cI cZ q) XE XT [.ref (q 0), .int p0] u (exB z) := by
  refine g_startX (cc := cX2_load) (maxL := 3) (ret := (some .boolean)) (by decide) rfl (Nat.le_of_ble_eq_true rfl) ?_
  intro p e s m below meth c A ls Q hx hb hml hret hts hown hlk hXE hP hK hD hA hl hQ hS hXT htab
  have hE := hXE.1
  have hown : s.vm.findClass RX2 = some m.cls := hown
  have hl : lv_has ls 3 [(0, .ref (q 0)), (1, .int p0)] := hl
  refine lv_iload_n hx hb dX2_load_0 rfl (lv_at hl 1 rfl) ?_
  by_cases k_1 : xRange p0 100 = 0
  · have hzz : z = 1 := hz.symm.trans (by unfold xLoadC; rw [if_pos k_1])
    subst hzz
    rw [exB_1] at hQ
    exact g_xS (As := [.int p0]) (rest := []) hx hb hml hown hts (ctX2_checkFile_x l hst D cI cZ q u p0 k_1) gX2_load_X2_checkFile rfl rfl rfl hdX2_checkFile ⟨Nat.le_of_ble_eq_true rfl, Nat.le_of_ble_eq_true rfl⟩ XE_em hXE XT_tm (fun U hU hW => g_Tin XT_tm hXT hD hS hA hU hW) hP hK hD hS hA rfl hl.1 rfl (Nat.le_of_ble_eq_true rfl) dX2_load_1 ⟨Nat.le_of_ble_eq_true rfl, Nat.le_of_ble_eq_true rfl⟩ (fun _ _ _ _ _ hE1 hP1 hD1 hS1 hz9 _ hce hcv hcl => g_out hQ htab hlk hE1 hP1 hD1 hS1 (Nat.le_trans (Nat.succ_le_succ hS.1) hz9) hce hcv hcl (Nat.le_refl _) (Nat.le_refl _))
  · refine g_callS0 (As := [.int p0]) (rest := []) hx hb hml hown hts (ctX2_checkFile l D cI cZ q p0 k_1) gX2_load_X2_checkFile rfl rfl rfl hdX2_checkFile ⟨Nat.le_of_ble_eq_true rfl, Nat.le_of_ble_eq_true rfl⟩ gEM_true trivial hP hK hS hA rfl hl.1 rfl (Nat.le_of_ble_eq_true rfl) dX2_load_1 ⟨Nat.zero_le _, Nat.zero_le _⟩ (fun H locs hP hS => ?_)
    refine W.eq (g2 := F0 m 4 ls []) rfl ?_
    refine lv_aload_n hx hb dX2_load_4 rfl (lv_at hl 0 rfl) ?_
    refine va_get (ci := 2) (v := .ref (q 2)) (C := RX2) (T := TX2) (N := 9) hx hb hts inX2_load_RX2 hown hK hP 0 rfl rfl 1 (by decide) (hts _ lkX2_load_19) (fun _ h9 => h9) rfl dX2_load_5 ?_
    refine lv_iload_n hx hb dX2_load_8 rfl (lv_at hl 1 rfl) ?_
    refine g_callV (As := [.int p0]) (rest := []) hx hb hml hown hts (ctX1_holdsFile_0 l D cI cZ q u p0) gX2_load_X1_holdsFile rfl rfl rfl hdX1_holdsFile ⟨Nat.le_of_ble_eq_true rfl, Nat.le_of_ble_eq_true rfl⟩ XG_em hE hP hK hD hS hA 2 rfl rfl rfl hl.1 rfl (Nat.le_of_ble_eq_true rfl) dX2_load_9 ⟨Nat.zero_le _, Nat.zero_le _⟩ (fun H locs hP hD hS => ?_)
    have hP : va_P D vwCl (XW cI cZ q u) H := hP
    have hD : va_D A (XW cI cZ q u) := hD
    refine W.eq (g2 := F0 m 12 ls [.int (xHas (u.1 5) p0)]) rfl ?_
    refine lv_if_ne (tgt := 25) hx hb dX2_load_12 (by decide) (fun c_12 => ?_) (fun c_12 => ?_)
    · exact absurd (hz.symm.trans (by unfold xLoadC; rw [if_neg k_1, if_neg c_12])) hz0
    · have hzz : z = 2 := hz.symm.trans (by unfold xLoadC; rw [if_neg k_1, if_pos c_12])
      subst hzz
      rw [exB_2] at hQ
      exact g_throw (text := _) (is := 139) (rest := []) hx hb hst hown hXE hXT hlk htab hQ hP hD hS (hl.1.trans hml.symm) fit_ISE (hts _ lkX2_load_c66) (hts _ lkX2_load_iISE) (List.mem_of_getElem? (i := 0) rfl) (fun w h => hts w (atX2_load_70 w h)) nb_ISE ot_ISE dX2_load_15 dX2_load_18 dX2_load_19 dX2_load_21 dX2_load_24 (Nat.le_of_ble_eq_true rfl) (Nat.le_of_ble_eq_true rfl) (Nat.le_of_ble_eq_true rfl) (Nat.le_of_ble_eq_true rfl)
abbrev rmX2_protect_x : Room := { frames := 7, cells := 1, slots := 6, locals := 102 }
set_option maxHeartbeats 4000000 in
set_option maxRecDepth 100000 in
theorem ctX2_protect_x (l : Launch) (hst : l.stackTraces = false) (D : va_G) (cI cZ : ClassId) (q : Nat → Nat) (u : SX) (p0 p1 : Int32) (h1 : xRange p0 4 = 0) : gX l yX2_protect wsX2_protect rmX2_protect_x D [(cI, .int), (cZ, .boolean)] (XW cI cZ q) XE XT [.ref (q 0), .int p0, .int p1] u "java/lang/IndexOutOfBoundsException" := by
  refine g_startX (cc := cX2_protect) (maxL := 4) (ret := (some .boolean)) (by decide) rfl (Nat.le_of_ble_eq_true rfl) ?_
  intro p e s m below meth c A ls Q hx hb hml hret hts hown hlk hXE hP hK hD hA hl hQ hS hXT htab
  have hE := hXE.1
  have hown : s.vm.findClass RX2 = some m.cls := hown
  have hl : lv_has ls 4 [(0, .ref (q 0)), (1, .int p0), (2, .int p1)] := hl
  refine lv_iload_n hx hb dX2_protect_0 rfl (lv_at hl 1 rfl) ?_
  exact g_xS (As := [.int p0]) (rest := []) hx hb hml hown hts (ctX2_checkRef_x l hst D cI cZ q u p0 h1) gX2_protect_X2_checkRef rfl rfl rfl hdX2_checkRef ⟨Nat.le_of_ble_eq_true rfl, Nat.le_of_ble_eq_true rfl⟩ XE_em hXE XT_tm (fun U hU hW => g_Tin XT_tm hXT hD hS hA hU hW) hP hK hD hS hA rfl hl.1 rfl (Nat.le_of_ble_eq_true rfl) dX2_protect_1 ⟨Nat.le_of_ble_eq_true rfl, Nat.le_of_ble_eq_true rfl⟩ (fun _ _ _ _ _ hE1 hP1 hD1 hS1 hz9 _ hce hcv hcl => g_out hQ htab hlk hE1 hP1 hD1 hS1 (Nat.le_trans (Nat.succ_le_succ hS.1) hz9) hce hcv hcl (Nat.le_refl _) (Nat.le_refl _))
theorem lkX2_move_c66 : Cond.classLink RX2 66 "java/lang/IllegalStateException" ∈ wsX2_move := List.mem_of_getElem? (i := 1) (by decide +kernel)
theorem lkX2_move_iISE : Cond.initialized "java/lang/IllegalStateException" ∈ wsX2_move := List.mem_of_getElem? (i := 2) (by decide +kernel)
theorem atX2_move_70 : ∀ w ∈ (vx_atS RX2 70 "java/lang/IllegalStateException" xNm).filter goodWord, w ∈ wsX2_move := fun w h => List.mem_cons_of_mem _ (List.mem_append_left _ (List.mem_append_right _ h))
abbrev rmX2_move_x : Room := { frames := 8, cells := 1, slots := 6, locals := 124 }
set_option maxHeartbeats 4000000 in
set_option maxRecDepth 100000 in
theorem ctX2_move_x (l : Launch) (hst : l.stackTraces = false) (D : va_G) (cI cZ : ClassId) (q : Nat → Nat) (u : SX) (n : Nat) (hn : u.1 15 0 = nI n) (h60 : n ≤ 60) (w : Nat) (hw : u.1 13 0 = nI w) (h3 : w ≤ 3) (p0 p1 p2 : Int32) (z : Int32) (hz : xMoveC n w p0 p1 p2 = z) (hz0 : ¬ z = 0) : gX l yX2_move wsX2_move rmX2_move_x D [(cI, .int), (cZ, .boolean)] (XW cI cZ q) XE XT [.ref (q 0), .int p0, .int p1, .int p2] u (exC z) := by
  refine g_startX (cc := cX2_move) (maxL := 4) (ret := (some .int)) (by decide) rfl (Nat.le_of_ble_eq_true rfl) ?_
  intro p e s m below meth c A ls Q hx hb hml hret hts hown hlk hXE hP hK hD hA hl hQ hS hXT htab
  have hE := hXE.1
  have hown : s.vm.findClass RX2 = some m.cls := hown
  have hl : lv_has ls 4 [(0, .ref (q 0)), (1, .int p0), (2, .int p1), (3, .int p2)] := hl
  refine lv_iload_n hx hb dX2_move_0 rfl (lv_at hl 1 rfl) ?_
  by_cases k_1 : xRange p0 4 = 0
  · have hzz : z = 1 := hz.symm.trans (by unfold xMoveC; rw [if_pos k_1])
    subst hzz
    rw [exC_1] at hQ
    exact g_xS (As := [.int p0]) (rest := []) hx hb hml hown hts (ctX2_checkRef_x l hst D cI cZ q u p0 k_1) gX2_move_X2_checkRef rfl rfl rfl hdX2_checkRef ⟨Nat.le_of_ble_eq_true rfl, Nat.le_of_ble_eq_true rfl⟩ XE_em hXE XT_tm (fun U hU hW => g_Tin XT_tm hXT hD hS hA hU hW) hP hK hD hS hA rfl hl.1 rfl (Nat.le_of_ble_eq_true rfl) dX2_move_1 ⟨Nat.le_of_ble_eq_true rfl, Nat.le_of_ble_eq_true rfl⟩ (fun _ _ _ _ _ hE1 hP1 hD1 hS1 hz9 _ hce hcv hcl => g_out hQ htab hlk hE1 hP1 hD1 hS1 (Nat.le_trans (Nat.succ_le_succ hS.1) hz9) hce hcv hcl (Nat.le_refl _) (Nat.le_refl _))
  · refine g_callS0 (As := [.int p0]) (rest := []) hx hb hml hown hts (ctX2_checkRef l D cI cZ q p0 k_1) gX2_move_X2_checkRef rfl rfl rfl hdX2_checkRef ⟨Nat.le_of_ble_eq_true rfl, Nat.le_of_ble_eq_true rfl⟩ gEM_true trivial hP hK hS hA rfl hl.1 rfl (Nat.le_of_ble_eq_true rfl) dX2_move_1 ⟨Nat.zero_le _, Nat.zero_le _⟩ (fun H locs hP hS => ?_)
    refine W.eq (g2 := F0 m 4 ls []) rfl ?_
    refine lv_aload_n hx hb dX2_move_4 rfl (lv_at hl 0 rfl) ?_
    refine lv_iload_n hx hb dX2_move_5 rfl (lv_at hl 2 rfl) ?_
    by_cases k_6 : xCoN n p1 = 0
    · have hzz : z = 1 := hz.symm.trans (by unfold xMoveC; rw [if_neg k_1, if_pos k_6])
      subst hzz
      rw [exC_1] at hQ
      exact g_xV (As := [.int p1]) (rest := []) hx hb hml hown hts (ctX2_checkCommitOrNone_x l hst D cI cZ q u n hn h60 p1 k_6) gX2_move_X2_checkCommitOrNone rfl rfl rfl hdX2_checkCommitOrNone ⟨Nat.le_of_ble_eq_true rfl, Nat.le_of_ble_eq_true rfl⟩ XE_em hXE XT_tm (fun U hU hW => g_Tin XT_tm hXT hD hS hA hU hW) hP hK hD hS hA 0 rfl rfl rfl hl.1 rfl (Nat.le_of_ble_eq_true rfl) dX2_move_6 ⟨Nat.le_of_ble_eq_true rfl, Nat.le_of_ble_eq_true rfl⟩ (fun _ _ _ _ _ hE1 hP1 hD1 hS1 hz9 _ hce hcv hcl => g_out hQ htab hlk hE1 hP1 hD1 hS1 (Nat.le_trans (Nat.succ_le_succ hS.1) hz9) hce hcv hcl (Nat.le_refl _) (Nat.le_refl _))
    · refine g_callV (As := [.int p1]) (rest := []) hx hb hml hown hts (ctX2_checkCommitOrNone l D cI cZ q u n hn h60 p1 (con_or k_6)) gX2_move_X2_checkCommitOrNone rfl rfl rfl hdX2_checkCommitOrNone ⟨Nat.le_of_ble_eq_true rfl, Nat.le_of_ble_eq_true rfl⟩ XG_em hE hP hK hD hS hA 0 rfl rfl rfl hl.1 rfl (Nat.le_of_ble_eq_true rfl) dX2_move_6 ⟨Nat.zero_le _, Nat.zero_le _⟩ (fun H locs hP hD hS => ?_)
      have hP : va_P D vwCl (XW cI cZ q u) H := hP
      have hD : va_D A (XW cI cZ q u) := hD
      refine W.eq (g2 := F0 m 9 ls []) rfl ?_
      refine lv_aload_n hx hb dX2_move_9 rfl (lv_at hl 0 rfl) ?_
      refine lv_iload_n hx hb dX2_move_10 rfl (lv_at hl 3 rfl) ?_
      by_cases k_11 : xCoN n p2 = 0
      · have hzz : z = 1 := hz.symm.trans (by unfold xMoveC; rw [if_neg k_1, if_neg k_6, if_pos k_11])
        subst hzz
        rw [exC_1] at hQ
        exact g_xV (As := [.int p2]) (rest := []) hx hb hml hown hts (ctX2_checkCommitOrNone_x l hst D cI cZ q u n hn h60 p2 k_11) gX2_move_X2_checkCommitOrNone rfl rfl rfl hdX2_checkCommitOrNone ⟨Nat.le_of_ble_eq_true rfl, Nat.le_of_ble_eq_true rfl⟩ XE_em hXE XT_tm (fun U hU hW => g_Tin XT_tm hXT hD hS hA hU hW) hP hK hD hS hA 0 rfl rfl rfl hl.1 rfl (Nat.le_of_ble_eq_true rfl) dX2_move_11 ⟨Nat.le_of_ble_eq_true rfl, Nat.le_of_ble_eq_true rfl⟩ (fun _ _ _ _ _ hE1 hP1 hD1 hS1 hz9 _ hce hcv hcl => g_out hQ htab hlk hE1 hP1 hD1 hS1 (Nat.le_trans (Nat.succ_le_succ hS.1) hz9) hce hcv hcl (Nat.le_refl _) (Nat.le_refl _))
      · refine g_callV (As := [.int p2]) (rest := []) hx hb hml hown hts (ctX2_checkCommitOrNone l D cI cZ q u n hn h60 p2 (con_or k_11)) gX2_move_X2_checkCommitOrNone rfl rfl rfl hdX2_checkCommitOrNone ⟨Nat.le_of_ble_eq_true rfl, Nat.le_of_ble_eq_true rfl⟩ XG_em hE hP hK hD hS hA 0 rfl rfl rfl hl.1 rfl (Nat.le_of_ble_eq_true rfl) dX2_move_11 ⟨Nat.zero_le _, Nat.zero_le _⟩ (fun H locs hP hD hS => ?_)
        have hP : va_P D vwCl (XW cI cZ q u) H := hP
        have hD : va_D A (XW cI cZ q u) := hD
        refine W.eq (g2 := F0 m 14 ls []) rfl ?_
        refine lv_aload_n hx hb dX2_move_14 rfl (lv_at hl 0 rfl) ?_
        refine va_get (ci := 2) (v := .int (nI w)) (C := RX2) (T := TX2) (N := 9) hx hb hts inX2_move_RX2 hown hK hP 0 rfl rfl 7 (by decide) (hts _ lkX2_move_148) (fun _ h9 => h9) (congrArg (fun z => some (Value.int z)) hw) dX2_move_15 ?_
        refine lv_iconst (v := 3) hx hb dX2_move_18 (by decide +kernel) ?_
        refine lv_icmp_lt (tgt := 32) hx hb dX2_move_19 (by decide) (fun c_19 => ?_) (fun c_19 => ?_)
        · have n_19 : w < 3 := (g_ltI (a := w) (b := 3) rfl rfl (by omega) (by decide)).mp c_19
          exact absurd (hz.symm.trans (by unfold xMoveC; rw [if_neg k_1, if_neg k_6, if_neg k_11, if_pos n_19])) hz0
        · have n_19 : ¬ w < 3 := fun h => c_19 ((g_ltI (a := w) (b := 3) rfl rfl (by omega) (by decide)).mpr h)
          have hzz : z = 2 := hz.symm.trans (by unfold xMoveC; rw [if_neg k_1, if_neg k_6, if_neg k_11, if_neg n_19])
          subst hzz
          rw [exC_2] at hQ
          exact g_throw (text := _) (is := 151) (rest := []) hx hb hst hown hXE hXT hlk htab hQ hP hD hS (hl.1.trans hml.symm) fit_ISE (hts _ lkX2_move_c66) (hts _ lkX2_move_iISE) (List.mem_of_getElem? (i := 1) rfl) (fun w h => hts w (atX2_move_70 w h)) nb_ISE ot_ISE dX2_move_22 dX2_move_25 dX2_move_26 dX2_move_28 dX2_move_31 (Nat.le_of_ble_eq_true rfl) (Nat.le_of_ble_eq_true rfl) (Nat.le_of_ble_eq_true rfl) (Nat.le_of_ble_eq_true rfl)
abbrev rmX2_isShallow_x : Room := { frames := 7, cells := 1, slots := 6, locals := 103 }
set_option maxHeartbeats 4000000 in
set_option maxRecDepth 100000 in
theorem ctX2_isShallow_x (l : Launch) (hst : l.stackTraces = false) (D : va_G) (cI cZ : ClassId) (q : Nat → Nat) (u : SX) (n : Nat) (hn : u.1 15 0 = nI n) (h60 : n ≤ 60) (p0 : Int32) (h1 : xRange p0 (nI n) = 0) : gX l yX2_isShallow wsX2_isShallow rmX2_isShallow_x D [(cI, .int), (cZ, .boolean)] (XW cI cZ q) XE XT [.ref (q 0), .int p0] u "java/lang/IndexOutOfBoundsException" := by
  refine g_startX (cc := cX2_isShallow) (maxL := 2) (ret := (some .boolean)) (by decide) rfl (Nat.le_of_ble_eq_true rfl) ?_
  intro p e s m below meth c A ls Q hx hb hml hret hts hown hlk hXE hP hK hD hA hl hQ hS hXT htab
  have hE := hXE.1
  have hown : s.vm.findClass RX2 = some m.cls := hown
  have hl : lv_has ls 2 [(0, .ref (q 0)), (1, .int p0)] := hl
  refine lv_aload_n hx hb dX2_isShallow_0 rfl (lv_at hl 0 rfl) ?_
  refine lv_iload_n hx hb dX2_isShallow_1 rfl (lv_at hl 1 rfl) ?_
  exact g_xV (As := [.int p0]) (rest := []) hx hb hml hown hts (ctX2_checkCommit_x l hst D cI cZ q u n hn h60 p0 h1) gX2_isShallow_X2_checkCommit rfl rfl rfl hdX2_checkCommit ⟨Nat.le_of_ble_eq_true rfl, Nat.le_of_ble_eq_true rfl⟩ XE_em hXE XT_tm (fun U hU hW => g_Tin XT_tm hXT hD hS hA hU hW) hP hK hD hS hA 0 rfl rfl rfl hl.1 rfl (Nat.le_of_ble_eq_true rfl) dX2_isShallow_2 ⟨Nat.le_of_ble_eq_true rfl, Nat.le_of_ble_eq_true rfl⟩ (fun _ _ _ _ _ hE1 hP1 hD1 hS1 hz9 _ hce hcv hcl => g_out hQ htab hlk hE1 hP1 hD1 hS1 (Nat.le_trans (Nat.succ_le_succ hS.1) hz9) hce hcv hcl (Nat.le_refl _) (Nat.le_refl _))
