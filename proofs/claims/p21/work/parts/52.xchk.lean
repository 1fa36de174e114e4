
theorem lkX2_checkSlot_c201 : Cond.classLink RX2 201 "java/lang/IndexOutOfBoundsException" ∈ wsX2_checkSlot := List.mem_of_getElem? (i := 1) (by decide +kernel)
theorem lkX2_checkSlot_iIOO : Cond.initialized "java/lang/IndexOutOfBoundsException" ∈ wsX2_checkSlot := List.mem_of_getElem? (i := 2) (by decide +kernel)
theorem atX2_checkSlot_205 : ∀ w ∈ (vx_atS RX2 205 "java/lang/IndexOutOfBoundsException" xNm).filter goodWord, w ∈ wsX2_checkSlot := fun w h => List.mem_cons_of_mem _ (List.mem_append_right _ h)
abbrev rmX2_checkSlot_x : Room := { frames := 6, cells := 1, slots := 6, locals := 82 }
set_option maxHeartbeats 4000000 in
set_option maxRecDepth 100000 in
theorem ctX2_checkSlot_x (l : Launch) (hst : l.stackTraces = false) (D : va_G) (cI cZ : ClassId) (q : Nat → Nat) (u : SX) (p0 : Int32) (h : xRange p0 4 = 0) : gX l yX2_checkSlot wsX2_checkSlot rmX2_checkSlot_x D [(cI, .int), (cZ, .boolean)] (XW cI cZ q) XE XT [.int p0] u "java/lang/IndexOutOfBoundsException" := by
  refine g_startX (cc := cX2_checkSlot) (maxL := 1) (ret := none) (by decide) rfl (Nat.le_of_ble_eq_true rfl) ?_
  intro p e s m below meth c A ls Q hx hb hml hret hts hown hlk hXE hP hK hD hA hl hQ hS hXT htab
  have hE := hXE.1
  have hown : s.vm.findClass RX2 = some m.cls := hown
  have hl : lv_has ls 1 [(0, .int p0)] := hl
  refine lv_iload_n hx hb dX2_checkSlot_0 rfl (lv_at hl 0 rfl) ?_
  refine g_callS0 (As := [.int p0]) (rest := []) hx hb hml hown hts (ctX2_isSlot l D cI cZ q p0) gX2_checkSlot_X2_isSlot rfl rfl rfl hdX2_isSlot ⟨Nat.le_of_ble_eq_true rfl, Nat.le_of_ble_eq_true rfl⟩ gEM_true trivial hP hK hS hA rfl hl.1 rfl (Nat.le_of_ble_eq_true rfl) dX2_checkSlot_1 ⟨Nat.zero_le _, Nat.zero_le _⟩ (fun H locs hP hS => ?_)
  refine W.eq (g2 := F0 m 4 ls [.int (xRange p0 4)]) rfl ?_
  refine lv_if_ne (tgt := 17) hx hb dX2_checkSlot_4 (by decide) (fun c_4 => ?_) (fun c_4 => ?_)
  · exact absurd h c_4
  · exact g_throw (text := _) (is := 216) (rest := []) hx hb hst hown hXE hXT hlk htab hQ hP hD hS (hl.1.trans hml.symm) fit_IOO (hts _ lkX2_checkSlot_c201) (hts _ lkX2_checkSlot_iIOO) (List.mem_of_getElem? (i := 7) rfl) (fun w h => hts w (atX2_checkSlot_205 w h)) nb_IOO ot_IOO dX2_checkSlot_7 dX2_checkSlot_10 dX2_checkSlot_11 dX2_checkSlot_13 dX2_checkSlot_16 (Nat.le_of_ble_eq_true rfl) (Nat.le_of_ble_eq_true rfl) (Nat.le_of_ble_eq_true rfl) (Nat.le_of_ble_eq_true rfl)
theorem lkX2_checkRef_c201 : Cond.classLink RX2 201 "java/lang/IndexOutOfBoundsException" ∈ wsX2_checkRef := List.mem_of_getElem? (i := 1) (by decide +kernel)
theorem lkX2_checkRef_iIOO : Cond.initialized "java/lang/IndexOutOfBoundsException" ∈ wsX2_checkRef := List.mem_of_getElem? (i := 2) (by decide +kernel)
theorem atX2_checkRef_205 : ∀ w ∈ (vx_atS RX2 205 "java/lang/IndexOutOfBoundsException" xNm).filter goodWord, w ∈ wsX2_checkRef := fun w h => List.mem_cons_of_mem _ (List.mem_append_right _ h)
abbrev rmX2_checkRef_x : Room := { frames := 6, cells := 1, slots := 6, locals := 82 }
set_option maxHeartbeats 4000000 in
set_option maxRecDepth 100000 in
theorem ctX2_checkRef_x (l : Launch) (hst : l.stackTraces = false) (D : va_G) (cI cZ : ClassId) (q : Nat → Nat) (u : SX) (p0 : Int32) (h : xRange p0 4 = 0) : gX l yX2_checkRef wsX2_checkRef rmX2_checkRef_x D [(cI, .int), (cZ, .boolean)] (XW cI cZ q) XE XT [.int p0] u "java/lang/IndexOutOfBoundsException" := by
  refine g_startX (cc := cX2_checkRef) (maxL := 1) (ret := none) (by decide) rfl (Nat.le_of_ble_eq_true rfl) ?_
  intro p e s m below meth c A ls Q hx hb hml hret hts hown hlk hXE hP hK hD hA hl hQ hS hXT htab
  have hE := hXE.1
  have hown : s.vm.findClass RX2 = some m.cls := hown
  have hl : lv_has ls 1 [(0, .int p0)] := hl
  refine lv_iload_n hx hb dX2_checkRef_0 rfl (lv_at hl 0 rfl) ?_
  refine g_callS0 (As := [.int p0]) (rest := []) hx hb hml hown hts (ctX2_isRef l D cI cZ q p0) gX2_checkRef_X2_isRef rfl rfl rfl hdX2_isRef ⟨Nat.le_of_ble_eq_true rfl, Nat.le_of_ble_eq_true rfl⟩ gEM_true trivial hP hK hS hA rfl hl.1 rfl (Nat.le_of_ble_eq_true rfl) dX2_checkRef_1 ⟨Nat.zero_le _, Nat.zero_le _⟩ (fun H locs hP hS => ?_)
  refine W.eq (g2 := F0 m 4 ls [.int (xRange p0 4)]) rfl ?_
  refine lv_if_ne (tgt := 17) hx hb dX2_checkRef_4 (by decide) (fun c_4 => ?_) (fun c_4 => ?_)
  · exact absurd h c_4
  · exact g_throw (text := _) (is := 221) (rest := []) hx hb hst hown hXE hXT hlk htab hQ hP hD hS (hl.1.trans hml.symm) fit_IOO (hts _ lkX2_checkRef_c201) (hts _ lkX2_checkRef_iIOO) (List.mem_of_getElem? (i := 8) rfl) (fun w h => hts w (atX2_checkRef_205 w h)) nb_IOO ot_IOO dX2_checkRef_7 dX2_checkRef_10 dX2_checkRef_11 dX2_checkRef_13 dX2_checkRef_16 (Nat.le_of_ble_eq_true rfl) (Nat.le_of_ble_eq_true rfl) (Nat.le_of_ble_eq_true rfl) (Nat.le_of_ble_eq_true rfl)
theorem lkX2_checkFile_c55 : Cond.classLink RX2 55 "java/lang/IllegalArgumentException" ∈ wsX2_checkFile := List.mem_of_getElem? (i := 1) (by decide +kernel)
theorem lkX2_checkFile_iIAE : Cond.initialized "java/lang/IllegalArgumentException" ∈ wsX2_checkFile := List.mem_of_getElem? (i := 2) (by decide +kernel)
theorem atX2_checkFile_59 : ∀ w ∈ (vx_atS RX2 59 "java/lang/IllegalArgumentException" xNm).filter goodWord, w ∈ wsX2_checkFile := fun w h => List.mem_cons_of_mem _ (List.mem_append_right _ h)
abbrev rmX2_checkFile_x : Room := { frames := 6, cells := 1, slots := 6, locals := 82 }
set_option maxHeartbeats 4000000 in
set_option maxRecDepth 100000 in
theorem ctX2_checkFile_x (l : Launch) (hst : l.stackTraces = false) (D : va_G) (cI cZ : ClassId) (q : Nat → Nat) (u : SX) (p0 : Int32) (h : xRange p0 100 = 0) : gX l yX2_checkFile wsX2_checkFile rmX2_checkFile_x D [(cI, .int), (cZ, .boolean)] (XW cI cZ q) XE XT [.int p0] u "java/lang/IllegalArgumentException" := by
  refine g_startX (cc := cX2_checkFile) (maxL := 1) (ret := none) (by decide) rfl (Nat.le_of_ble_eq_true rfl) ?_
  intro p e s m below meth c A ls Q hx hb hml hret hts hown hlk hXE hP hK hD hA hl hQ hS hXT htab
  have hE := hXE.1
  have hown : s.vm.findClass RX2 = some m.cls := hown
  have hl : lv_has ls 1 [(0, .int p0)] := hl
  refine lv_iload_n hx hb dX2_checkFile_0 rfl (lv_at hl 0 rfl) ?_
  refine g_callS0 (As := [.int p0]) (rest := []) hx hb hml hown hts (ctX2_isFile l D cI cZ q p0) gX2_checkFile_X2_isFile rfl rfl rfl hdX2_isFile ⟨Nat.le_of_ble_eq_true rfl, Nat.le_of_ble_eq_true rfl⟩ gEM_true trivial hP hK hS hA rfl hl.1 rfl (Nat.le_of_ble_eq_true rfl) dX2_checkFile_1 ⟨Nat.zero_le _, Nat.zero_le _⟩ (fun H locs hP hS => ?_)
  refine W.eq (g2 := F0 m 4 ls [.int (xRange p0 100)]) rfl ?_
  refine lv_if_ne (tgt := 17) hx hb dX2_checkFile_4 (by decide) (fun c_4 => ?_) (fun c_4 => ?_)
  · exact absurd h c_4
  · exact g_throw (text := _) (is := 226) (rest := []) hx hb hst hown hXE hXT hlk htab hQ hP hD hS (hl.1.trans hml.symm) fit_IAE (hts _ lkX2_checkFile_c55) (hts _ lkX2_checkFile_iIAE) (List.mem_of_getElem? (i := 9) rfl) (fun w h => hts w (atX2_checkFile_59 w h)) nb_IAE ot_IAE dX2_checkFile_7 dX2_checkFile_10 dX2_checkFile_11 dX2_checkFile_13 dX2_checkFile_16 (Nat.le_of_ble_eq_true rfl) (Nat.le_of_ble_eq_true rfl) (Nat.le_of_ble_eq_true rfl) (Nat.le_of_ble_eq_true rfl)
theorem lkX2_checkCommit_c201 : Cond.classLink RX2 201 "java/lang/IndexOutOfBoundsException" ∈ wsX2_checkCommit := List.mem_of_getElem? (i := 1) (by decide +kernel)
theorem lkX2_checkCommit_iIOO : Cond.initialized "java/lang/IndexOutOfBoundsException" ∈ wsX2_checkCommit := List.mem_of_getElem? (i := 2) (by decide +kernel)
theorem atX2_checkCommit_205 : ∀ w ∈ (vx_atS RX2 205 "java/lang/IndexOutOfBoundsException" xNm).filter goodWord, w ∈ wsX2_checkCommit := fun w h => List.mem_cons_of_mem _ (List.mem_append_right _ h)
abbrev rmX2_checkCommit_x : Room := { frames := 6, cells := 1, slots := 6, locals := 82 }
set_option maxHeartbeats 4000000 in
set_option maxRecDepth 100000 in
theorem ctX2_checkCommit_x (l : Launch) (hst : l.stackTraces = false) (D : va_G) (cI cZ : ClassId) (q : Nat → Nat) (u : SX) (n : Nat) (hn : u.1 15 0 = nI n) (h60 : n ≤ 60) (p0 : Int32) (h : xRange p0 (nI n) = 0) : gX l yX2_checkCommit wsX2_checkCommit rmX2_checkCommit_x D [(cI, .int), (cZ, .boolean)] (XW cI cZ q) XE XT [.ref (q 0), .int p0] u "java/lang/IndexOutOfBoundsException" := by
  refine g_startX (cc := cX2_checkCommit) (maxL := 2) (ret := none) (by decide) rfl (Nat.le_of_ble_eq_true rfl) ?_
  intro p e s m below meth c A ls Q hx hb hml hret hts hown hlk hXE hP hK hD hA hl hQ hS hXT htab
  have hE := hXE.1
  have hown : s.vm.findClass RX2 = some m.cls := hown
  have hl : lv_has ls 2 [(0, .ref (q 0)), (1, .int p0)] := hl
  refine lv_aload_n hx hb dX2_checkCommit_0 rfl (lv_at hl 0 rfl) ?_
  refine va_get (ci := 2) (v := .ref (q 1)) (C := RX2) (T := TX2) (N := 9) hx hb hts inX2_checkCommit_RX2 hown hK hP 0 rfl rfl 0 (by decide) (hts _ lkX2_checkCommit_10) (fun _ h9 => h9) rfl dX2_checkCommit_1 ?_
  refine lv_iload_n hx hb dX2_checkCommit_4 rfl (lv_at hl 1 rfl) ?_
  refine g_callV (As := [.int p0]) (rest := []) hx hb hml hown hts (ctX0_isCommit l D cI cZ q u n hn h60 p0) gX2_checkCommit_X0_isCommit rfl rfl rfl hdX0_isCommit ⟨Nat.le_of_ble_eq_true rfl, Nat.le_of_ble_eq_true rfl⟩ XG_em hE hP hK hD hS hA 1 rfl rfl rfl hl.1 rfl (Nat.le_of_ble_eq_true rfl) dX2_checkCommit_5 ⟨Nat.zero_le _, Nat.zero_le _⟩ (fun H locs hP hD hS => ?_)
  have hP : va_P D vwCl (XW cI cZ q u) H := hP
  have hD : va_D A (XW cI cZ q u) := hD
  refine W.eq (g2 := F0 m 8 ls [.int (xRange p0 (nI n))]) rfl ?_
  refine lv_if_ne (tgt := 21) hx hb dX2_checkCommit_8 (by decide) (fun c_8 => ?_) (fun c_8 => ?_)
  · exact absurd h c_8
  · exact g_throw (text := _) (is := 209) (rest := []) hx hb hst hown hXE hXT hlk htab hQ hP hD hS (hl.1.trans hml.symm) fit_IOO (hts _ lkX2_checkCommit_c201) (hts _ lkX2_checkCommit_iIOO) (List.mem_of_getElem? (i := 5) rfl) (fun w h => hts w (atX2_checkCommit_205 w h)) nb_IOO ot_IOO dX2_checkCommit_11 dX2_checkCommit_14 dX2_checkCommit_15 dX2_checkCommit_17 dX2_checkCommit_20 (Nat.le_of_ble_eq_true rfl) (Nat.le_of_ble_eq_true rfl) (Nat.le_of_ble_eq_true rfl) (Nat.le_of_ble_eq_true rfl)
abbrev rmX2_checkCommitOrNone_x : Room := { frames := 7, cells := 1, slots := 6, locals := 103 }
set_option maxHeartbeats 4000000 in
set_option maxRecDepth 100000 in
theorem ctX2_checkCommitOrNone_x (l : Launch) (hst : l.stackTraces = false) (D : va_G) (cI cZ : ClassId) (q : Nat → Nat) (u : SX) (n : Nat) (hn : u.1 15 0 = nI n) (h60 : n ≤ 60) (p0 : Int32) (h : xCoN n p0 = 0) : gX l yX2_checkCommitOrNone wsX2_checkCommitOrNone rmX2_checkCommitOrNone_x D [(cI, .int), (cZ, .boolean)] (XW cI cZ q) XE XT [.ref (q 0), .int p0] u "java/lang/IndexOutOfBoundsException" := by
  refine g_startX (cc := cX2_checkCommitOrNone) (maxL := 2) (ret := none) (by decide) rfl (Nat.le_of_ble_eq_true rfl) ?_
  intro p e s m below meth c A ls Q hx hb hml hret hts hown hlk hXE hP hK hD hA hl hQ hS hXT htab
  have hE := hXE.1
  have hown : s.vm.findClass RX2 = some m.cls := hown
  have hl : lv_has ls 2 [(0, .ref (q 0)), (1, .int p0)] := hl
  refine lv_iload_n hx hb dX2_checkCommitOrNone_0 rfl (lv_at hl 1 rfl) ?_
  refine lv_iconst (v := (-1)) hx hb dX2_checkCommitOrNone_1 (by decide +kernel) ?_
  refine lv_icmp_eq (tgt := 10) hx hb dX2_checkCommitOrNone_2 (by decide) (fun c_2 => ?_) (fun c_2 => ?_)
  · exact absurd c_2 (con_n h).1
  · refine lv_aload_n hx hb dX2_checkCommitOrNone_5 rfl (lv_at hl 0 rfl) ?_
    refine lv_iload_n hx hb dX2_checkCommitOrNone_6 rfl (lv_at hl 1 rfl) ?_
    exact g_xV (As := [.int p0]) (rest := []) hx hb hml hown hts (ctX2_checkCommit_x l hst D cI cZ q u n hn h60 p0 (con_n h).2) gX2_checkCommitOrNone_X2_checkCommit rfl rfl rfl hdX2_checkCommit ⟨Nat.le_of_ble_eq_true rfl, Nat.le_of_ble_eq_true rfl⟩ XE_em hXE XT_tm (fun U hU hW => g_Tin XT_tm hXT hD hS hA hU hW) hP hK hD hS hA 0 rfl rfl rfl hl.1 rfl (Nat.le_of_ble_eq_true rfl) dX2_checkCommitOrNone_7 ⟨Nat.le_of_ble_eq_true rfl, Nat.le_of_ble_eq_true rfl⟩ (fun _ _ _ _ _ hE1 hP1 hD1 hS1 hz9 _ hce hcv hcl => g_out hQ htab hlk hE1 hP1 hD1 hS1 (Nat.le_trans (Nat.succ_le_succ hS.1) hz9) hce hcv hcl (Nat.le_refl _) (Nat.le_refl _))
theorem lkX2_checkHeldOrNone_c201 : Cond.classLink RX2 201 "java/lang/IndexOutOfBoundsException" ∈ wsX2_checkHeldOrNone := List.mem_of_getElem? (i := 1) (by decide +kernel)
theorem lkX2_checkHeldOrNone_iIOO : Cond.initialized "java/lang/IndexOutOfBoundsException" ∈ wsX2_checkHeldOrNone := List.mem_of_getElem? (i := 2) (by decide +kernel)
theorem atX2_checkHeldOrNone_205 : ∀ w ∈ (vx_atS RX2 205 "java/lang/IndexOutOfBoundsException" xNm).filter goodWord, w ∈ wsX2_checkHeldOrNone := fun w h => List.mem_cons_of_mem _ (List.mem_append_right _ h)
abbrev rmX2_checkHeldOrNone_x0 : Room := { frames := 6, cells := 1, slots := 6, locals := 82 }
set_option maxHeartbeats 4000000 in
set_option maxRecDepth 100000 in
theorem ctX2_checkHeldOrNone_x0 (l : Launch) (hst : l.stackTraces = false) (D : va_G) (cI cZ : ClassId) (q : Nat → Nat) (u : SX) (p1 : Int32) (h : xHoN (u.2 0) p1 = 0) : gX l yX2_checkHeldOrNone wsX2_checkHeldOrNone rmX2_checkHeldOrNone_x0 D [(cI, .int), (cZ, .boolean)] (XW cI cZ q) XE XT [.ref (q 2), .int p1] u "java/lang/IndexOutOfBoundsException" := by
  refine g_startX (cc := cX2_checkHeldOrNone) (maxL := 2) (ret := none) (by decide) rfl (Nat.le_of_ble_eq_true rfl) ?_
  intro p e s m below meth c A ls Q hx hb hml hret hts hown hlk hXE hP hK hD hA hl hQ hS hXT htab
  have hE := hXE.1
  have hown : s.vm.findClass RX2 = some m.cls := hown
  have hl : lv_has ls 2 [(0, .ref (q 2)), (1, .int p1)] := hl
  refine lv_iload_n hx hb dX2_checkHeldOrNone_0 rfl (lv_at hl 1 rfl) ?_
  refine lv_iconst (v := (-1)) hx hb dX2_checkHeldOrNone_1 (by decide +kernel) ?_
  refine lv_icmp_eq (tgt := 26) hx hb dX2_checkHeldOrNone_2 (by decide) (fun c_2 => ?_) (fun c_2 => ?_)
  · exact absurd c_2 (hon_n h).1
  · refine lv_aload_n hx hb dX2_checkHeldOrNone_5 rfl (lv_at hl 0 rfl) ?_
    refine va_getN (host := "FetchHouse") (ci := 1) (v := .long (u.2 0)) (C := RX1) (T := TX1) (N := 3) hx hb hts inX2_checkHeldOrNone_RX1 hown hK hP 2 rfl rfl 0 (by decide) (va_Nw.use rfl (hE.1 _ (List.mem_of_getElem? (i := 0) rfl))) (fun _ h9 => h9) rfl dX2_checkHeldOrNone_6 ?_
    refine lv_iload_n hx hb dX2_checkHeldOrNone_9 rfl (lv_at hl 1 rfl) ?_
    refine g_callS0 (As := [.long (u.2 0), .int p1]) (rest := []) hx hb hml hown hts (ctX2_contains l D cI cZ q (u.2 0) p1) gX2_checkHeldOrNone_X2_contains rfl rfl rfl hdX2_contains ⟨Nat.le_of_ble_eq_true rfl, Nat.le_of_ble_eq_true rfl⟩ gEM_true trivial hP hK hS hA rfl hl.1 rfl (Nat.le_of_ble_eq_true rfl) dX2_checkHeldOrNone_10 ⟨Nat.zero_le _, Nat.zero_le _⟩ (fun H locs hP hS => ?_)
    refine W.eq (g2 := F0 m 13 ls [.int (xCon (u.2 0) p1)]) rfl ?_
    refine lv_if_ne (tgt := 26) hx hb dX2_checkHeldOrNone_13 (by decide) (fun c_13 => ?_) (fun c_13 => ?_)
    · exact absurd (hon_n h).2 c_13
    · exact g_throw (text := _) (is := 211) (rest := []) hx hb hst hown hXE hXT hlk htab hQ hP hD hS (hl.1.trans hml.symm) fit_IOO (hts _ lkX2_checkHeldOrNone_c201) (hts _ lkX2_checkHeldOrNone_iIOO) (List.mem_of_getElem? (i := 6) rfl) (fun w h => hts w (atX2_checkHeldOrNone_205 w h)) nb_IOO ot_IOO dX2_checkHeldOrNone_16 dX2_checkHeldOrNone_19 dX2_checkHeldOrNone_20 dX2_checkHeldOrNone_22 dX2_checkHeldOrNone_25 (Nat.le_of_ble_eq_true rfl) (Nat.le_of_ble_eq_true rfl) (Nat.le_of_ble_eq_true rfl) (Nat.le_of_ble_eq_true rfl)
abbrev rmX2_checkHeldOrNone_x1 : Room := { frames := 6, cells := 1, slots := 6, locals := 82 }
set_option maxHeartbeats 4000000 in
set_option maxRecDepth 100000 in
theorem ctX2_checkHeldOrNone_x1 (l : Launch) (hst : l.stackTraces = false) (D : va_G) (cI cZ : ClassId) (q : Nat → Nat) (u : SX) (p1 : Int32) (h : xHoN (u.2 1) p1 = 0) : gX l yX2_checkHeldOrNone wsX2_checkHeldOrNone rmX2_checkHeldOrNone_x1 D [(cI, .int), (cZ, .boolean)] (XW cI cZ q) XE XT [.ref (q 3), .int p1] u "java/lang/IndexOutOfBoundsException" := by
  refine g_startX (cc := cX2_checkHeldOrNone) (maxL := 2) (ret := none) (by decide) rfl (Nat.le_of_ble_eq_true rfl) ?_
  intro p e s m below meth c A ls Q hx hb hml hret hts hown hlk hXE hP hK hD hA hl hQ hS hXT htab
  have hE := hXE.1
  have hown : s.vm.findClass RX2 = some m.cls := hown
  have hl : lv_has ls 2 [(0, .ref (q 3)), (1, .int p1)] := hl
  refine lv_iload_n hx hb dX2_checkHeldOrNone_0 rfl (lv_at hl 1 rfl) ?_
  refine lv_iconst (v := (-1)) hx hb dX2_checkHeldOrNone_1 (by decide +kernel) ?_
  refine lv_icmp_eq (tgt := 26) hx hb dX2_checkHeldOrNone_2 (by decide) (fun c_2 => ?_) (fun c_2 => ?_)
  · exact absurd c_2 (hon_n h).1
  · refine lv_aload_n hx hb dX2_checkHeldOrNone_5 rfl (lv_at hl 0 rfl) ?_
    refine va_getN (host := "FetchHouse") (ci := 1) (v := .long (u.2 1)) (C := RX1) (T := TX1) (N := 3) hx hb hts inX2_checkHeldOrNone_RX1 hown hK hP 3 rfl rfl 0 (by decide) (va_Nw.use rfl (hE.1 _ (List.mem_of_getElem? (i := 0) rfl))) (fun _ h9 => h9) rfl dX2_checkHeldOrNone_6 ?_
    refine lv_iload_n hx hb dX2_checkHeldOrNone_9 rfl (lv_at hl 1 rfl) ?_
    refine g_callS0 (As := [.long (u.2 1), .int p1]) (rest := []) hx hb hml hown hts (ctX2_contains l D cI cZ q (u.2 1) p1) gX2_checkHeldOrNone_X2_contains rfl rfl rfl hdX2_contains ⟨Nat.le_of_ble_eq_true rfl, Nat.le_of_ble_eq_true rfl⟩ gEM_true trivial hP hK hS hA rfl hl.1 rfl (Nat.le_of_ble_eq_true rfl) dX2_checkHeldOrNone_10 ⟨Nat.zero_le _, Nat.zero_le _⟩ (fun H locs hP hS => ?_)
    refine W.eq (g2 := F0 m 13 ls [.int (xCon (u.2 1) p1)]) rfl ?_
    refine lv_if_ne (tgt := 26) hx hb dX2_checkHeldOrNone_13 (by decide) (fun c_13 => ?_) (fun c_13 => ?_)
    · exact absurd (hon_n h).2 c_13
    · exact g_throw (text := _) (is := 211) (rest := []) hx hb hst hown hXE hXT hlk htab hQ hP hD hS (hl.1.trans hml.symm) fit_IOO (hts _ lkX2_checkHeldOrNone_c201) (hts _ lkX2_checkHeldOrNone_iIOO) (List.mem_of_getElem? (i := 6) rfl) (fun w h => hts w (atX2_checkHeldOrNone_205 w h)) nb_IOO ot_IOO dX2_checkHeldOrNone_16 dX2_checkHeldOrNone_19 dX2_checkHeldOrNone_20 dX2_checkHeldOrNone_22 dX2_checkHeldOrNone_25 (Nat.le_of_ble_eq_true rfl) (Nat.le_of_ble_eq_true rfl) (Nat.le_of_ble_eq_true rfl) (Nat.le_of_ble_eq_true rfl)
theorem lkX2_storeOf_c201 : Cond.classLink RX2 201 "java/lang/IndexOutOfBoundsException" ∈ wsX2_storeOf := List.mem_of_getElem? (i := 1) (by decide +kernel)
theorem lkX2_storeOf_iIOO : Cond.initialized "java/lang/IndexOutOfBoundsException" ∈ wsX2_storeOf := List.mem_of_getElem? (i := 2) (by decide +kernel)
theorem atX2_storeOf_205 : ∀ w ∈ (vx_atS RX2 205 "java/lang/IndexOutOfBoundsException" xNm).filter goodWord, w ∈ wsX2_storeOf := fun w h => List.mem_cons_of_mem _ (List.mem_append_right _ h)
abbrev rmX2_storeOf_x : Room := { frames := 6, cells := 1, slots := 6, locals := 82 }
set_option maxHeartbeats 4000000 in
set_option maxRecDepth 100000 in
theorem ctX2_storeOf_x (l : Launch) (hst : l.stackTraces = false) (D : va_G) (cI cZ : ClassId) (q : Nat → Nat) (u : SX) (p0 : Int32) (h : xRange p0 2 = 0) : gX l yX2_storeOf wsX2_storeOf rmX2_storeOf_x D [(cI, .int), (cZ, .boolean)] (XW cI cZ q) XE XT [.ref (q 0), .int p0] u "java/lang/IndexOutOfBoundsException" := by
  refine g_startX (cc := cX2_storeOf) (maxL := 2) (ret := (some (.object "FetchHouse$Store"))) (by decide) rfl (Nat.le_of_ble_eq_true rfl) ?_
  intro p e s m below meth c A ls Q hx hb hml hret hts hown hlk hXE hP hK hD hA hl hQ hS hXT htab
  have hE := hXE.1
  have hown : s.vm.findClass RX2 = some m.cls := hown
  have hl : lv_has ls 2 [(0, .ref (q 0)), (1, .int p0)] := hl
  refine lv_iload_n hx hb dX2_storeOf_0 rfl (lv_at hl 1 rfl) ?_
  refine lv_if_eq (tgt := 19) hx hb dX2_storeOf_1 (by decide) (fun c_1 => ?_) (fun c_1 => ?_)
  · exact absurd c_1 (no_store h).1
  · refine lv_iload_n hx hb dX2_storeOf_4 rfl (lv_at hl 1 rfl) ?_
    refine lv_iconst (v := 1) hx hb dX2_storeOf_5 (by decide +kernel) ?_
    refine lv_icmp_eq (tgt := 19) hx hb dX2_storeOf_6 (by decide) (fun c_6 => ?_) (fun c_6 => ?_)
    · exact absurd c_6 (no_store h).2
    · exact g_throw (text := _) (is := 203) (rest := []) hx hb hst hown hXE hXT hlk htab hQ hP hD hS (hl.1.trans hml.symm) fit_IOO (hts _ lkX2_storeOf_c201) (hts _ lkX2_storeOf_iIOO) (List.mem_of_getElem? (i := 4) rfl) (fun w h => hts w (atX2_storeOf_205 w h)) nb_IOO ot_IOO dX2_storeOf_9 dX2_storeOf_12 dX2_storeOf_13 dX2_storeOf_15 dX2_storeOf_18 (Nat.le_of_ble_eq_true rfl) (Nat.le_of_ble_eq_true rfl) (Nat.le_of_ble_eq_true rfl) (Nat.le_of_ble_eq_true rfl)
theorem lkX2_commitToFetch_c55 : Cond.classLink RX2 55 "java/lang/IllegalArgumentException" ∈ wsX2_commitToFetch := List.mem_of_getElem? (i := 1) (by decide +kernel)
theorem lkX2_commitToFetch_c66 : Cond.classLink RX2 66 "java/lang/IllegalStateException" ∈ wsX2_commitToFetch := List.mem_of_getElem? (i := 3) (by decide +kernel)
theorem lkX2_commitToFetch_iIAE : Cond.initialized "java/lang/IllegalArgumentException" ∈ wsX2_commitToFetch := List.mem_of_getElem? (i := 2) (by decide +kernel)
theorem lkX2_commitToFetch_iISE : Cond.initialized "java/lang/IllegalStateException" ∈ wsX2_commitToFetch := List.mem_of_getElem? (i := 4) (by decide +kernel)
theorem atX2_commitToFetch_59 : ∀ w ∈ (vx_atS RX2 59 "java/lang/IllegalArgumentException" xNm).filter goodWord, w ∈ wsX2_commitToFetch := fun w h => List.mem_cons_of_mem _ (List.mem_append_left _ (List.mem_append_left _ (List.mem_append_right _ h)))
theorem atX2_commitToFetch_70 : ∀ w ∈ (vx_atS RX2 70 "java/lang/IllegalStateException" xNm).filter goodWord, w ∈ wsX2_commitToFetch := fun w h => List.mem_cons_of_mem _ (List.mem_append_left _ (List.mem_append_right _ h))
abbrev rmX2_commitToFetch_x : Room := { frames := 7, cells := 1, slots := 6, locals := 102 }
set_option maxHeartbeats 4000000 in
set_option maxRecDepth 100000 in
theorem ctX2_commitToFetch_x (l : Launch) (hst : l.stackTraces = false) (D : va_G) (cI cZ : ClassId) (q : Nat → Nat) (u : SX) (p0 p1 : Int32) (z : Int32) (hz : xFetC p0 p1 (u.1 6) = z) (hz0 : ¬ z = 0) : gX l yX2_commitToFetch wsX2_commitToFetch rmX2_commitToFetch_x D [(cI, .int), (cZ, .boolean)] (XW cI cZ q) XE XT [.ref (q 0), .int p0, .int p1] u (exA z) := by
  refine g_startX (cc := cX2_commitToFetch) (maxL := 4) (ret := (some .int)) (by decide) rfl (Nat.le_of_ble_eq_true rfl) ?_
  intro p e s m below meth c A ls Q hx hb hml hret hts hown hlk hXE hP hK hD hA hl hQ hS hXT htab
  have hE := hXE.1
  have hown : s.vm.findClass RX2 = some m.cls := hown
  have hl : lv_has ls 4 [(0, .ref (q 0)), (1, .int p0), (2, .int p1)] := hl
  refine lv_iload_n hx hb dX2_commitToFetch_0 rfl (lv_at hl 1 rfl) ?_
  by_cases k_1 : xRange p0 4 = 0
  · have hzz : z = 1 := hz.symm.trans (by unfold xFetC; rw [if_pos k_1])
    subst hzz
    rw [exA_1] at hQ
    exact g_xS (As := [.int p0]) (rest := []) hx hb hml hown hts (ctX2_checkRef_x l hst D cI cZ q u p0 k_1) gX2_commitToFetch_X2_checkRef rfl rfl rfl hdX2_checkRef ⟨Nat.le_of_ble_eq_true rfl, Nat.le_of_ble_eq_true rfl⟩ XE_em hXE XT_tm (fun U hU hW => g_Tin XT_tm hXT hD hS hA hU hW) hP hK hD hS hA rfl hl.1 rfl (Nat.le_of_ble_eq_true rfl) dX2_commitToFetch_1 ⟨Nat.le_of_ble_eq_true rfl, Nat.le_of_ble_eq_true rfl⟩ (fun _ _ _ _ _ hE1 hP1 hD1 hS1 hz9 _ hce hcv hcl => g_out hQ htab hlk hE1 hP1 hD1 hS1 (Nat.le_trans (Nat.succ_le_succ hS.1) hz9) hce hcv hcl (Nat.le_refl _) (Nat.le_refl _))
  · refine g_callS0 (As := [.int p0]) (rest := []) hx hb hml hown hts (ctX2_checkRef l D cI cZ q p0 k_1) gX2_commitToFetch_X2_checkRef rfl rfl rfl hdX2_checkRef ⟨Nat.le_of_ble_eq_true rfl, Nat.le_of_ble_eq_true rfl⟩ gEM_true trivial hP hK hS hA rfl hl.1 rfl (Nat.le_of_ble_eq_true rfl) dX2_commitToFetch_1 ⟨Nat.zero_le _, Nat.zero_le _⟩ (fun H locs hP hS => ?_)
    refine W.eq (g2 := F0 m 4 ls []) rfl ?_
    refine lv_iload_n hx hb dX2_commitToFetch_4 rfl (lv_at hl 2 rfl) ?_
    refine lv_if_lt (tgt := 14) hx hb dX2_commitToFetch_5 (by decide) (fun c_5 => ?_) (fun c_5 => ?_)
    · have hzz : z = 2 := hz.symm.trans (by unfold xFetC; rw [if_neg k_1, if_pos c_5])
      subst hzz
      rw [exA_2] at hQ
      exact g_throw (text := _) (is := 182) (rest := []) hx hb hst hown hXE hXT hlk htab hQ hP hD hS (hl.1.trans hml.symm) fit_IAE (hts _ lkX2_commitToFetch_c55) (hts _ lkX2_commitToFetch_iIAE) (List.mem_of_getElem? (i := 2) rfl) (fun w h => hts w (atX2_commitToFetch_59 w h)) nb_IAE ot_IAE dX2_commitToFetch_14 dX2_commitToFetch_17 dX2_commitToFetch_18 dX2_commitToFetch_20 dX2_commitToFetch_23 (Nat.le_of_ble_eq_true rfl) (Nat.le_of_ble_eq_true rfl) (Nat.le_of_ble_eq_true rfl) (Nat.le_of_ble_eq_true rfl)
    · refine lv_iload_n hx hb dX2_commitToFetch_8 rfl (lv_at hl 2 rfl) ?_
      refine lv_bipush (v := 60) hx hb dX2_commitToFetch_9 (by decide +kernel) ?_
      refine lv_icmp_le (tgt := 24) hx hb dX2_commitToFetch_11 (by decide) (fun c_11 => ?_) (fun c_11 => ?_)
      · refine lv_aload_n hx hb dX2_commitToFetch_24 rfl (lv_at hl 0 rfl) ?_
        refine va_get (ci := 2) (v := .ref (q 2)) (C := RX2) (T := TX2) (N := 9) hx hb hts inX2_commitToFetch_RX2 hown hK hP 0 rfl rfl 1 (by decide) (hts _ lkX2_commitToFetch_19) (fun _ h9 => h9) rfl dX2_commitToFetch_25 ?_
        refine lv_iload_n hx hb dX2_commitToFetch_28 rfl (lv_at hl 1 rfl) ?_
        refine g_callV (As := [.int p0]) (rest := []) hx hb hml hown hts (ctX1_commitOfRef_0 l D cI cZ q u p0) gX2_commitToFetch_X1_commitOfRef rfl rfl rfl hdX1_commitOfRef ⟨Nat.le_of_ble_eq_true rfl, Nat.le_of_ble_eq_true rfl⟩ XG_em hE hP hK hD hS hA 2 rfl rfl rfl hl.1 rfl (Nat.le_of_ble_eq_true rfl) dX2_commitToFetch_29 ⟨Nat.zero_le _, Nat.zero_le _⟩ (fun H locs hP hD hS => ?_)
        have hP : va_P D vwCl (XW cI cZ q u) H := hP
        have hD : va_D A (XW cI cZ q u) := hD
        refine W.eq (g2 := F0 m 32 ls [.int (xRefOf (u.1 6) p0)]) rfl ?_
        refine lv_istore_n (lv' := [(3, .int (xRefOf (u.1 6) p0)), (0, .ref (q 0)), (1, .int p0), (2, .int p1)]) hx hb dX2_commitToFetch_32 rfl hl (by decide) rfl (fun ls hl => ?_)
        refine lv_iload_n hx hb dX2_commitToFetch_33 rfl (lv_at hl 0 rfl) ?_
        refine lv_iconst (v := (-1)) hx hb dX2_commitToFetch_34 (by decide +kernel) ?_
        refine lv_icmp_ne (tgt := 48) hx hb dX2_commitToFetch_35 (by decide) (fun c_35 => ?_) (fun c_35 => ?_)
        · exact absurd (hz.symm.trans (by unfold xFetC; rw [if_neg k_1, if_neg c_5, if_pos c_11, if_neg c_35])) hz0
        · have hzz : z = 3 := hz.symm.trans (by unfold xFetC; rw [if_neg k_1, if_neg c_5, if_pos c_11, if_pos c_35])
          subst hzz
          rw [exA_3] at hQ
          exact g_throw (text := _) (is := 184) (rest := []) hx hb hst hown hXE hXT hlk htab hQ hP hD hS (hl.1.trans hml.symm) fit_ISE (hts _ lkX2_commitToFetch_c66) (hts _ lkX2_commitToFetch_iISE) (List.mem_of_getElem? (i := 3) rfl) (fun w h => hts w (atX2_commitToFetch_70 w h)) nb_ISE ot_ISE dX2_commitToFetch_38 dX2_commitToFetch_41 dX2_commitToFetch_42 dX2_commitToFetch_44 dX2_commitToFetch_47 (Nat.le_of_ble_eq_true rfl) (Nat.le_of_ble_eq_true rfl) (Nat.le_of_ble_eq_true rfl) (Nat.le_of_ble_eq_true rfl)
      · have hzz : z = 2 := hz.symm.trans (by unfold xFetC; rw [if_neg k_1, if_neg c_5, if_neg c_11])
        subst hzz
        rw [exA_2] at hQ
        exact g_throw (text := _) (is := 182) (rest := []) hx hb hst hown hXE hXT hlk htab hQ hP hD hS (hl.1.trans hml.symm) fit_IAE (hts _ lkX2_commitToFetch_c55) (hts _ lkX2_commitToFetch_iIAE) (List.mem_of_getElem? (i := 2) rfl) (fun w h => hts w (atX2_commitToFetch_59 w h)) nb_IAE ot_IAE dX2_commitToFetch_14 dX2_commitToFetch_17 dX2_commitToFetch_18 dX2_commitToFetch_20 dX2_commitToFetch_23 (Nat.le_of_ble_eq_true rfl) (Nat.le_of_ble_eq_true rfl) (Nat.le_of_ble_eq_true rfl) (Nat.le_of_ble_eq_true rfl)
