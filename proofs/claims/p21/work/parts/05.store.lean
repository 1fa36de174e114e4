def xRefOf (rf : Nat → Int32) (r : Int32) : Int32 := if xRange r 4 = 0 then -1 else rf r.toNatClampNeg
def xPoint (rf : Nat → Int32) (r c : Int32) : Nat → Int32 := if xRange r 4 = 0 then rf else upd rf r.toNatClampNeg c
def xRefsStep (rf : Nat → Int32) (k : Nat) (t : Int64) : Int64 := t ||| xSet (rf k)
def xRefs (rf : Nat → Int32) : Int64 := itU (xRefsStep rf) 4 0 0
def xHas (fl : Nat → Int32) (f : Int32) : Int32 := if xRange f 100 = 0 then 0 else if fl f.toNatClampNeg = 0 then 0 else 1
def xAddF (fl : Nat → Int32) (f : Int32) : Nat → Int32 := if xRange f 100 = 0 then fl else upd fl f.toNatClampNeg 1
def xAddFsStep (wn ot : Nat → Int32) (k : Nat) (fl : Nat → Int32) : Nat → Int32 := if wn k = 0 then fl else if xHas ot (nI k) = 0 then fl else upd fl k 1
def xAddFs (wn ot fl : Nat → Int32) : Nat → Int32 := itU (xAddFsStep wn ot) 100 0 fl
def xKeepStep (nd : Nat → Int32) (k : Nat) (fl : Nat → Int32) : Nat → Int32 := if fl k = 0 then upd fl k 0 else if nd k = 0 then upd fl k 0 else upd fl k 1
def xKeep (nd fl : Nat → Int32) : Nat → Int32 := itU (xKeepStep nd) 100 0 fl
def xLackStep (nd fl : Nat → Int32) (k : Nat) (t : Int32) : Int32 := if nd k = 0 then t else if fl k = 0 then t + 1 else t
def xLack (nd fl : Nat → Int32) : Int32 := itU (xLackStep nd fl) 100 0 0
theorem xHas_01 (fl : Nat → Int32) (f : Int32) : xHas fl f = 0 ∨ xHas fl f = 1 := by unfold xHas; split; exact Or.inl rfl; split; exact Or.inl rfl; exact Or.inr rfl
theorem lkX1_commitOfRef_inRX2 : Cond.initialized RX2 ∈ wsX1_commitOfRef := List.mem_of_getElem? (i := 3) (by decide +kernel)
theorem lkX1_commitOfRef_stX2_isRef : Cond.static yX2_isRef ∈ wsX1_commitOfRef := List.mem_of_getElem? (i := 2) (by decide +kernel)
theorem lkX1_commitOfRef_15 : Cond.fieldLink RX1 15 "FetchHouse$Store" "refCommits" "[I" ∈ wsX1_commitOfRef := List.mem_of_getElem? (i := 1) (by decide +kernel)
theorem inX1_commitOfRef_RX1 : ∀ w ∈ u_ws RX1 TX1 3, w ∈ wsX1_commitOfRef := fun w h => List.mem_cons_of_mem _ (List.mem_append_right _ h)
abbrev rmX1_commitOfRef_0 : Room := { frames := 1, cells := 0, slots := 0, locals := 20 }
set_option maxHeartbeats 4000000 in
set_option maxRecDepth 100000 in
theorem ctX1_commitOfRef_0 (l : Launch) (D : va_G) (cI cZ : ClassId) (q : Nat → Nat) (u : SX) (p0 : Int32) : gM l yX1_commitOfRef wsX1_commitOfRef rmX1_commitOfRef_0 D [(cI, .int), (cZ, .boolean)] (XW cI cZ q) XG [.ref (q 2), .int p0] u (some (.int (xRefOf (u.1 6) p0))) u := by
  refine g_start (cc := cX1_commitOfRef) (maxL := 2) (ret := (some .int)) (by decide) rfl (Nat.le_of_ble_eq_true rfl) ?_
  intro p e s m below meth c A ls Q hx hb hml hret hts hown hlk hE hP hK hD hA hl hQ hS
  have hown : s.vm.findClass RX1 = some m.cls := hown
  have hl : lv_has ls 2 [(0, .ref (q 2)), (1, .int p0)] := hl
  refine lv_iload_n hx hb dX1_commitOfRef_0 rfl (lv_at hl 1 rfl) ?_
  refine g_callN0 (host := "FetchHouse") (As := [.int p0]) (rest := []) hx hb hml hown hts (ctX2_isRef l D cI cZ q p0) gX1_commitOfRef_X2_isRef_n25 rfl rfl rfl (hE.1 _ (List.mem_of_getElem? (i := 6) rfl)) (hts _ lkX1_commitOfRef_inRX2) (hts _ lkX1_commitOfRef_stX2_isRef) hdX2_isRef ⟨Nat.le_of_ble_eq_true rfl, Nat.le_of_ble_eq_true rfl⟩ gEM_true trivial hP hK hS hA rfl hl.1 rfl (Nat.le_of_ble_eq_true rfl) dX1_commitOfRef_1 ⟨Nat.zero_le _, Nat.zero_le _⟩ (fun H locs hP hS => ?_)
  refine W.eq (g2 := F0 m 4 ls [.int (xRange p0 4)]) rfl ?_
  refine lv_if_eq (tgt := 16) hx hb dX1_commitOfRef_4 (by decide) (fun c_4 => ?_) (fun c_4 => ?_)
  · refine lv_iconst (v := (-1)) hx hb dX1_commitOfRef_16 (by decide +kernel) ?_
    refine g_iret (u1 := u) hx hb hret hlk hQ hP hD hS dX1_commitOfRef_17 ?_ ?_
    · exact by unfold xRefOf; rw [if_pos c_4]
    · exact rfl
  · obtain ⟨j, hj, hj2⟩ := xRange_ne (n := 4) rfl (by omega) c_4
    refine lv_aload_n hx hb dX1_commitOfRef_7 rfl (lv_at hl 0 rfl) ?_
    refine va_get (ci := 1) (v := .ref (q 10)) (C := RX1) (T := TX1) (N := 3) hx hb hts inX1_commitOfRef_RX1 hown hK hP 2 rfl rfl 2 (by decide) (hts _ lkX1_commitOfRef_15) (fun _ h9 => h9) rfl dX1_commitOfRef_8 ?_
    refine lv_iload_n hx hb dX1_commitOfRef_11 rfl (lv_at hl 1 rfl) ?_
    refine g_iald (n := 4) (f := (u.1 6)) hx hb hK hP 10 0 rfl rfl j (by omega) (by omega) hj2 dX1_commitOfRef_12 ?_
    refine lv_goto (tgt := 17) hx hb dX1_commitOfRef_13 (by decide) ?_
    refine g_iret (u1 := u) hx hb hret hlk hQ hP hD hS dX1_commitOfRef_17 ?_ ?_
    · exact by unfold xRefOf; rw [if_neg c_4, hj2, nI_clamp (by omega)]
    · exact rfl
abbrev rmX1_commitOfRef_1 : Room := { frames := 1, cells := 0, slots := 0, locals := 20 }
set_option maxHeartbeats 4000000 in
set_option maxRecDepth 100000 in
theorem ctX1_commitOfRef_1 (l : Launch) (D : va_G) (cI cZ : ClassId) (q : Nat → Nat) (u : SX) (p0 : Int32) : gM l yX1_commitOfRef wsX1_commitOfRef rmX1_commitOfRef_1 D [(cI, .int), (cZ, .boolean)] (XW cI cZ q) XG [.ref (q 3), .int p0] u (some (.int (xRefOf (u.1 8) p0))) u := by
  refine g_start (cc := cX1_commitOfRef) (maxL := 2) (ret := (some .int)) (by decide) rfl (Nat.le_of_ble_eq_true rfl) ?_
  intro p e s m below meth c A ls Q hx hb hml hret hts hown hlk hE hP hK hD hA hl hQ hS
  have hown : s.vm.findClass RX1 = some m.cls := hown
  have hl : lv_has ls 2 [(0, .ref (q 3)), (1, .int p0)] := hl
  refine lv_iload_n hx hb dX1_commitOfRef_0 rfl (lv_at hl 1 rfl) ?_
  refine g_callN0 (host := "FetchHouse") (As := [.int p0]) (rest := []) hx hb hml hown hts (ctX2_isRef l D cI cZ q p0) gX1_commitOfRef_X2_isRef_n25 rfl rfl rfl (hE.1 _ (List.mem_of_getElem? (i := 6) rfl)) (hts _ lkX1_commitOfRef_inRX2) (hts _ lkX1_commitOfRef_stX2_isRef) hdX2_isRef ⟨Nat.le_of_ble_eq_true rfl, Nat.le_of_ble_eq_true rfl⟩ gEM_true trivial hP hK hS hA rfl hl.1 rfl (Nat.le_of_ble_eq_true rfl) dX1_commitOfRef_1 ⟨Nat.zero_le _, Nat.zero_le _⟩ (fun H locs hP hS => ?_)
  refine W.eq (g2 := F0 m 4 ls [.int (xRange p0 4)]) rfl ?_
  refine lv_if_eq (tgt := 16) hx hb dX1_commitOfRef_4 (by decide) (fun c_4 => ?_) (fun c_4 => ?_)
  · refine lv_iconst (v := (-1)) hx hb dX1_commitOfRef_16 (by decide +kernel) ?_
    refine g_iret (u1 := u) hx hb hret hlk hQ hP hD hS dX1_commitOfRef_17 ?_ ?_
    · exact by unfold xRefOf; rw [if_pos c_4]
    · exact rfl
  · obtain ⟨j, hj, hj2⟩ := xRange_ne (n := 4) rfl (by omega) c_4
    refine lv_aload_n hx hb dX1_commitOfRef_7 rfl (lv_at hl 0 rfl) ?_
    refine va_get (ci := 1) (v := .ref (q 12)) (C := RX1) (T := TX1) (N := 3) hx hb hts inX1_commitOfRef_RX1 hown hK hP 3 rfl rfl 2 (by decide) (hts _ lkX1_commitOfRef_15) (fun _ h9 => h9) rfl dX1_commitOfRef_8 ?_
    refine lv_iload_n hx hb dX1_commitOfRef_11 rfl (lv_at hl 1 rfl) ?_
    refine g_iald (n := 4) (f := (u.1 8)) hx hb hK hP 12 0 rfl rfl j (by omega) (by omega) hj2 dX1_commitOfRef_12 ?_
    refine lv_goto (tgt := 17) hx hb dX1_commitOfRef_13 (by decide) ?_
    refine g_iret (u1 := u) hx hb hret hlk hQ hP hD hS dX1_commitOfRef_17 ?_ ?_
    · exact by unfold xRefOf; rw [if_neg c_4, hj2, nI_clamp (by omega)]
    · exact rfl
theorem lkX1_pointRef_inRX2 : Cond.initialized RX2 ∈ wsX1_pointRef := List.mem_of_getElem? (i := 3) (by decide +kernel)
theorem lkX1_pointRef_stX2_isRef : Cond.static yX2_isRef ∈ wsX1_pointRef := List.mem_of_getElem? (i := 2) (by decide +kernel)
theorem lkX1_pointRef_15 : Cond.fieldLink RX1 15 "FetchHouse$Store" "refCommits" "[I" ∈ wsX1_pointRef := List.mem_of_getElem? (i := 1) (by decide +kernel)
theorem inX1_pointRef_RX1 : ∀ w ∈ u_ws RX1 TX1 3, w ∈ wsX1_pointRef := fun w h => List.mem_cons_of_mem _ (List.mem_append_right _ h)
abbrev rmX1_pointRef_0 : Room := { frames := 1, cells := 0, slots := 0, locals := 20 }
set_option maxHeartbeats 4000000 in
set_option maxRecDepth 100000 in
theorem ctX1_pointRef_0 (l : Launch) (D : va_G) (cI cZ : ClassId) (q : Nat → Nat) (u : SX) (p0 p1 : Int32) : gM l yX1_pointRef wsX1_pointRef rmX1_pointRef_0 D [(cI, .int), (cZ, .boolean)] (XW cI cZ q) XG [.ref (q 2), .int p0, .int p1] u none (gS u 6 (xPoint (u.1 6) p0 p1)) := by
  refine g_start (cc := cX1_pointRef) (maxL := 3) (ret := none) (by decide) rfl (Nat.le_of_ble_eq_true rfl) ?_
  intro p e s m below meth c A ls Q hx hb hml hret hts hown hlk hE hP hK hD hA hl hQ hS
  have hown : s.vm.findClass RX1 = some m.cls := hown
  have hl : lv_has ls 3 [(0, .ref (q 2)), (1, .int p0), (2, .int p1)] := hl
  refine lv_iload_n hx hb dX1_pointRef_0 rfl (lv_at hl 1 rfl) ?_
  refine g_callN0 (host := "FetchHouse") (As := [.int p0]) (rest := []) hx hb hml hown hts (ctX2_isRef l D cI cZ q p0) gX1_pointRef_X2_isRef_n25 rfl rfl rfl (hE.1 _ (List.mem_of_getElem? (i := 6) rfl)) (hts _ lkX1_pointRef_inRX2) (hts _ lkX1_pointRef_stX2_isRef) hdX2_isRef ⟨Nat.le_of_ble_eq_true rfl, Nat.le_of_ble_eq_true rfl⟩ gEM_true trivial hP hK hS hA rfl hl.1 rfl (Nat.le_of_ble_eq_true rfl) dX1_pointRef_1 ⟨Nat.zero_le _, Nat.zero_le _⟩ (fun H locs hP hS => ?_)
  refine W.eq (g2 := F0 m 4 ls [.int (xRange p0 4)]) rfl ?_
  refine lv_if_eq (tgt := 14) hx hb dX1_pointRef_4 (by decide) (fun c_4 => ?_) (fun c_4 => ?_)
  · refine g_vret (u1 := u) hx hb hret hlk hQ hP hD hS dX1_pointRef_14 ?_ ?_
    · exact rfl
    · exact (by rw [show xPoint (u.1 6) p0 p1 = (u.1 6) from by unfold xPoint; rw [if_pos c_4]] <;> rfl)
  · obtain ⟨j, hj, hj2⟩ := xRange_ne (n := 4) rfl (by omega) c_4
    refine lv_aload_n hx hb dX1_pointRef_7 rfl (lv_at hl 0 rfl) ?_
    refine va_get (ci := 1) (v := .ref (q 10)) (C := RX1) (T := TX1) (N := 3) hx hb hts inX1_pointRef_RX1 hown hK hP 2 rfl rfl 2 (by decide) (hts _ lkX1_pointRef_15) (fun _ h9 => h9) rfl dX1_pointRef_8 ?_
    refine lv_iload_n hx hb dX1_pointRef_11 rfl (lv_at hl 1 rfl) ?_
    refine lv_iload_n hx hb dX1_pointRef_12 rfl (lv_at hl 2 rfl) ?_
    refine g_iast (n := 4) (f := (u.1 6)) (u' := (gS u 6 (upd (u.1 6) j p1))) hx hb hK hP hD hS 10 0 rfl rfl j (by omega) (by omega) hj2 rfl dX1_pointRef_13 (fun H locs hP hD hS => ?_)
    refine g_vret (u1 := (gS u 6 (upd (u.1 6) j p1))) hx hb hret hlk hQ hP hD hS dX1_pointRef_14 ?_ ?_
    · exact rfl
    · exact (by rw [show xPoint (u.1 6) p0 p1 = (upd (u.1 6) j p1) from by unfold xPoint; rw [if_neg c_4, hj2, nI_clamp (by omega)]] <;> rfl)
abbrev rmX1_pointRef_1 : Room := { frames := 1, cells := 0, slots := 0, locals := 20 }
set_option maxHeartbeats 4000000 in
set_option maxRecDepth 100000 in
theorem ctX1_pointRef_1 (l : Launch) (D : va_G) (cI cZ : ClassId) (q : Nat → Nat) (u : SX) (p0 p1 : Int32) : gM l yX1_pointRef wsX1_pointRef rmX1_pointRef_1 D [(cI, .int), (cZ, .boolean)] (XW cI cZ q) XG [.ref (q 3), .int p0, .int p1] u none (gS u 8 (xPoint (u.1 8) p0 p1)) := by
  refine g_start (cc := cX1_pointRef) (maxL := 3) (ret := none) (by decide) rfl (Nat.le_of_ble_eq_true rfl) ?_
  intro p e s m below meth c A ls Q hx hb hml hret hts hown hlk hE hP hK hD hA hl hQ hS
  have hown : s.vm.findClass RX1 = some m.cls := hown
  have hl : lv_has ls 3 [(0, .ref (q 3)), (1, .int p0), (2, .int p1)] := hl
  refine lv_iload_n hx hb dX1_pointRef_0 rfl (lv_at hl 1 rfl) ?_
  refine g_callN0 (host := "FetchHouse") (As := [.int p0]) (rest := []) hx hb hml hown hts (ctX2_isRef l D cI cZ q p0) gX1_pointRef_X2_isRef_n25 rfl rfl rfl (hE.1 _ (List.mem_of_getElem? (i := 6) rfl)) (hts _ lkX1_pointRef_inRX2) (hts _ lkX1_pointRef_stX2_isRef) hdX2_isRef ⟨Nat.le_of_ble_eq_true rfl, Nat.le_of_ble_eq_true rfl⟩ gEM_true trivial hP hK hS hA rfl hl.1 rfl (Nat.le_of_ble_eq_true rfl) dX1_pointRef_1 ⟨Nat.zero_le _, Nat.zero_le _⟩ (fun H locs hP hS => ?_)
  refine W.eq (g2 := F0 m 4 ls [.int (xRange p0 4)]) rfl ?_
  refine lv_if_eq (tgt := 14) hx hb dX1_pointRef_4 (by decide) (fun c_4 => ?_) (fun c_4 => ?_)
  · refine g_vret (u1 := u) hx hb hret hlk hQ hP hD hS dX1_pointRef_14 ?_ ?_
    · exact rfl
    · exact (by rw [show xPoint (u.1 8) p0 p1 = (u.1 8) from by unfold xPoint; rw [if_pos c_4]] <;> rfl)
  · obtain ⟨j, hj, hj2⟩ := xRange_ne (n := 4) rfl (by omega) c_4
    refine lv_aload_n hx hb dX1_pointRef_7 rfl (lv_at hl 0 rfl) ?_
    refine va_get (ci := 1) (v := .ref (q 12)) (C := RX1) (T := TX1) (N := 3) hx hb hts inX1_pointRef_RX1 hown hK hP 3 rfl rfl 2 (by decide) (hts _ lkX1_pointRef_15) (fun _ h9 => h9) rfl dX1_pointRef_8 ?_
    refine lv_iload_n hx hb dX1_pointRef_11 rfl (lv_at hl 1 rfl) ?_
    refine lv_iload_n hx hb dX1_pointRef_12 rfl (lv_at hl 2 rfl) ?_
    refine g_iast (n := 4) (f := (u.1 8)) (u' := (gS u 8 (upd (u.1 8) j p1))) hx hb hK hP hD hS 12 0 rfl rfl j (by omega) (by omega) hj2 rfl dX1_pointRef_13 (fun H locs hP hD hS => ?_)
    refine g_vret (u1 := (gS u 8 (upd (u.1 8) j p1))) hx hb hret hlk hQ hP hD hS dX1_pointRef_14 ?_ ?_
    · exact rfl
    · exact (by rw [show xPoint (u.1 8) p0 p1 = (upd (u.1 8) j p1) from by unfold xPoint; rw [if_neg c_4, hj2, nI_clamp (by omega)]] <;> rfl)
theorem lkX1_commitsOfRefs_inRX2 : Cond.initialized RX2 ∈ wsX1_commitsOfRefs := List.mem_of_getElem? (i := 3) (by decide +kernel)
theorem lkX1_commitsOfRefs_stX2_setOf : Cond.static yX2_setOf ∈ wsX1_commitsOfRefs := List.mem_of_getElem? (i := 2) (by decide +kernel)
theorem lkX1_commitsOfRefs_15 : Cond.fieldLink RX1 15 "FetchHouse$Store" "refCommits" "[I" ∈ wsX1_commitsOfRefs := List.mem_of_getElem? (i := 1) (by decide +kernel)
theorem inX1_commitsOfRefs_RX1 : ∀ w ∈ u_ws RX1 TX1 3, w ∈ wsX1_commitsOfRefs := fun w h => List.mem_cons_of_mem _ (List.mem_append_right _ h)
abbrev rmX1_commitsOfRefs_0 : Room := { frames := 1, cells := 0, slots := 0, locals := 20 }
set_option maxHeartbeats 4000000 in
set_option maxRecDepth 100000 in
theorem ctX1_commitsOfRefs_0 (l : Launch) (D : va_G) (cI cZ : ClassId) (q : Nat → Nat) (u : SX)  : gM l yX1_commitsOfRefs wsX1_commitsOfRefs rmX1_commitsOfRefs_0 D [(cI, .int), (cZ, .boolean)] (XW cI cZ q) XG [.ref (q 2)] u (some (.long (xRefs (u.1 6)))) u := by
  refine g_start (cc := cX1_commitsOfRefs) (maxL := 4) (ret := (some .long)) (by decide) rfl (Nat.le_of_ble_eq_true rfl) ?_
  intro p e s m below meth c A ls Q hx hb hml hret hts hown hlk hE hP hK hD hA hl hQ hS
  have hown : s.vm.findClass RX1 = some m.cls := hown
  have hl : lv_has ls 4 [(0, .ref (q 2))] := hl
  refine lv_lconst (v := 0) hx hb dX1_commitsOfRefs_0 (by decide +kernel) ?_
  refine lv_lstore_n (lv' := [(1, .long 0), (0, .ref (q 2))]) hx hb dX1_commitsOfRefs_1 rfl hl (by decide) rfl (fun ls hl => ?_)
  refine lv_iconst (v := (nI 0)) hx hb dX1_commitsOfRefs_2 (by decide +kernel) ?_
  refine lv_istore_n (lv' := [(3, .int (nI 0)), (1, .long 0), (0, .ref (q 2))]) hx hb dX1_commitsOfRefs_3 rfl hl (by decide) rfl (fun ls hl => ?_)
  have loop : ∀ (d k : Nat) (t : Int64) (H : Heap) (locs : List Loc) (ls : Array Slot) (hP : va_P D vwCl (XW cI cZ q u) H) (hD : va_D A (XW cI cZ q u)) (hS : va_S A s.heap H locs) (hl : lv_has ls 4 [(0, .ref (q 2)), (1, .long t), (3, .int (nI k))]) (hk : k + d = 4) (hr : itU (xRefsStep (u.1 6)) d k t = (xRefs (u.1 6))), W p l e rmX1_commitsOfRefs_0 s m ([.ref (q 2)] : List Value).toArray below meth c H locs 0 0 Q (F0 m 4 ls []) := by
    intro d
    induction d with
    | zero =>
      intro k t H locs ls hP hD hS hl hk hr
      refine lv_iload_n hx hb dX1_commitsOfRefs_4 rfl (lv_at hl 2 rfl) ?_
      refine lv_iconst (v := 4) hx hb dX1_commitsOfRefs_5 (by decide +kernel) ?_
      refine lv_icmp_ge (tgt := 27) hx hb dX1_commitsOfRefs_6 (by decide) (fun c_6 => ?_) (fun c_6 => ?_)
      · have n_6 : 4 ≤ k := (g_leI (a := 4) (b := k) rfl rfl (by omega) (by omega)).mp c_6
        refine lv_lload_n hx hb dX1_commitsOfRefs_27 rfl (lv_at hl 1 rfl) ?_
        refine g_lret (u1 := u) hx hb hret hlk hQ hP hD hS dX1_commitsOfRefs_28 ?_ ?_
        · exact (by rw [← hr] <;> rfl)
        · exact rfl
      · have n_6 : ¬ 4 ≤ k := fun h => c_6 ((g_leI (a := 4) (b := k) rfl rfl (by omega) (by omega)).mpr h)
        exfalso; omega
    | succ d ih =>
      intro k t H locs ls hP hD hS hl hk hr
      refine lv_iload_n hx hb dX1_commitsOfRefs_4 rfl (lv_at hl 2 rfl) ?_
      refine lv_iconst (v := 4) hx hb dX1_commitsOfRefs_5 (by decide +kernel) ?_
      refine lv_icmp_ge (tgt := 27) hx hb dX1_commitsOfRefs_6 (by decide) (fun c_6 => ?_) (fun c_6 => ?_)
      · have n_6 : 4 ≤ k := (g_leI (a := 4) (b := k) rfl rfl (by omega) (by omega)).mp c_6
        exfalso; omega
      · have n_6 : ¬ 4 ≤ k := fun h => c_6 ((g_leI (a := 4) (b := k) rfl rfl (by omega) (by omega)).mpr h)
        refine lv_lload_n hx hb dX1_commitsOfRefs_9 rfl (lv_at hl 1 rfl) ?_
        refine lv_aload_n hx hb dX1_commitsOfRefs_10 rfl (lv_at hl 0 rfl) ?_
        refine va_get (ci := 1) (v := .ref (q 10)) (C := RX1) (T := TX1) (N := 3) hx hb hts inX1_commitsOfRefs_RX1 hown hK hP 2 rfl rfl 2 (by decide) (hts _ lkX1_commitsOfRefs_15) (fun _ h9 => h9) rfl dX1_commitsOfRefs_11 ?_
        refine lv_iload_n hx hb dX1_commitsOfRefs_14 rfl (lv_at hl 2 rfl) ?_
        refine g_iald (n := 4) (f := (u.1 6)) hx hb hK hP 10 0 rfl rfl k (by omega) (by omega) rfl dX1_commitsOfRefs_15 ?_
        refine g_callN0 (host := "FetchHouse") (As := [.int ((u.1 6) k)]) (rest := [.long t]) hx hb hml hown hts (ctX2_setOf l D cI cZ q ((u.1 6) k)) gX1_commitsOfRefs_X2_setOf_n29 rfl rfl rfl (hE.1 _ (List.mem_of_getElem? (i := 7) rfl)) (hts _ lkX1_commitsOfRefs_inRX2) (hts _ lkX1_commitsOfRefs_stX2_setOf) hdX2_setOf ⟨Nat.le_of_ble_eq_true rfl, Nat.le_of_ble_eq_true rfl⟩ gEM_true trivial hP hK hS hA rfl hl.1 rfl (Nat.le_of_ble_eq_true rfl) dX1_commitsOfRefs_16 ⟨Nat.zero_le _, Nat.zero_le _⟩ (fun H locs hP hS => ?_)
        refine W.eq (g2 := F0 m 19 ls [.long (xSet ((u.1 6) k)), .long t]) rfl ?_
        refine lv_lor hx hb dX1_commitsOfRefs_19 ?_
        refine lv_lstore_n (lv' := [(1, .long (t ||| (xSet ((u.1 6) k)))), (0, .ref (q 2)), (3, .int (nI k))]) hx hb dX1_commitsOfRefs_20 rfl hl (by decide) rfl (fun ls hl => ?_)
        refine lv_iinc (v := (nI (k + 1))) (lv' := [(3, .int (nI (k + 1))), (1, .long (t ||| (xSet ((u.1 6) k)))), (0, .ref (q 2))]) hx hb dX1_commitsOfRefs_21 hl (k := 2) rfl (nI_1 _) (by decide) rfl (fun ls hl => ?_)
        refine lv_goto (tgt := 4) hx hb dX1_commitsOfRefs_24 (by decide) ?_
        exact ih (k + 1) (t ||| (xSet ((u.1 6) k))) _ _ _ hP hD hS (lv_sub hl [2, 1, 0] rfl) (by omega) (by rw [← hr] <;> rfl)
  exact loop 4 0 0 _ _ _ hP hD hS (lv_sub hl [2, 1, 0] rfl) (by omega) rfl
abbrev rmX1_commitsOfRefs_1 : Room := { frames := 1, cells := 0, slots := 0, locals := 20 }
set_option maxHeartbeats 4000000 in
set_option maxRecDepth 100000 in
theorem ctX1_commitsOfRefs_1 (l : Launch) (D : va_G) (cI cZ : ClassId) (q : Nat → Nat) (u : SX)  : gM l yX1_commitsOfRefs wsX1_commitsOfRefs rmX1_commitsOfRefs_1 D [(cI, .int), (cZ, .boolean)] (XW cI cZ q) XG [.ref (q 3)] u (some (.long (xRefs (u.1 8)))) u := by
  refine g_start (cc := cX1_commitsOfRefs) (maxL := 4) (ret := (some .long)) (by decide) rfl (Nat.le_of_ble_eq_true rfl) ?_
  intro p e s m below meth c A ls Q hx hb hml hret hts hown hlk hE hP hK hD hA hl hQ hS
  have hown : s.vm.findClass RX1 = some m.cls := hown
  have hl : lv_has ls 4 [(0, .ref (q 3))] := hl
  refine lv_lconst (v := 0) hx hb dX1_commitsOfRefs_0 (by decide +kernel) ?_
  refine lv_lstore_n (lv' := [(1, .long 0), (0, .ref (q 3))]) hx hb dX1_commitsOfRefs_1 rfl hl (by decide) rfl (fun ls hl => ?_)
  refine lv_iconst (v := (nI 0)) hx hb dX1_commitsOfRefs_2 (by decide +kernel) ?_
  refine lv_istore_n (lv' := [(3, .int (nI 0)), (1, .long 0), (0, .ref (q 3))]) hx hb dX1_commitsOfRefs_3 rfl hl (by decide) rfl (fun ls hl => ?_)
  have loop : ∀ (d k : Nat) (t : Int64) (H : Heap) (locs : List Loc) (ls : Array Slot) (hP : va_P D vwCl (XW cI cZ q u) H) (hD : va_D A (XW cI cZ q u)) (hS : va_S A s.heap H locs) (hl : lv_has ls 4 [(0, .ref (q 3)), (1, .long t), (3, .int (nI k))]) (hk : k + d = 4) (hr : itU (xRefsStep (u.1 8)) d k t = (xRefs (u.1 8))), W p l e rmX1_commitsOfRefs_1 s m ([.ref (q 3)] : List Value).toArray below meth c H locs 0 0 Q (F0 m 4 ls []) := by
    intro d
    induction d with
    | zero =>
      intro k t H locs ls hP hD hS hl hk hr
      refine lv_iload_n hx hb dX1_commitsOfRefs_4 rfl (lv_at hl 2 rfl) ?_
      refine lv_iconst (v := 4) hx hb dX1_commitsOfRefs_5 (by decide +kernel) ?_
      refine lv_icmp_ge (tgt := 27) hx hb dX1_commitsOfRefs_6 (by decide) (fun c_6 => ?_) (fun c_6 => ?_)
      · have n_6 : 4 ≤ k := (g_leI (a := 4) (b := k) rfl rfl (by omega) (by omega)).mp c_6
        refine lv_lload_n hx hb dX1_commitsOfRefs_27 rfl (lv_at hl 1 rfl) ?_
        refine g_lret (u1 := u) hx hb hret hlk hQ hP hD hS dX1_commitsOfRefs_28 ?_ ?_
        · exact (by rw [← hr] <;> rfl)
        · exact rfl
      · have n_6 : ¬ 4 ≤ k := fun h => c_6 ((g_leI (a := 4) (b := k) rfl rfl (by omega) (by omega)).mpr h)
        exfalso; omega
    | succ d ih =>
      intro k t H locs ls hP hD hS hl hk hr
      refine lv_iload_n hx hb dX1_commitsOfRefs_4 rfl (lv_at hl 2 rfl) ?_
      refine lv_iconst (v := 4) hx hb dX1_commitsOfRefs_5 (by decide +kernel) ?_
      refine lv_icmp_ge (tgt := 27) hx hb dX1_commitsOfRefs_6 (by decide) (fun c_6 => ?_) (fun c_6 => ?_)
      · have n_6 : 4 ≤ k := (g_leI (a := 4) (b := k) rfl rfl (by omega) (by omega)).mp c_6
        exfalso; omega
      · have n_6 : ¬ 4 ≤ k := fun h => c_6 ((g_leI (a := 4) (b := k) rfl rfl (by omega) (by omega)).mpr h)
        refine lv_lload_n hx hb dX1_commitsOfRefs_9 rfl (lv_at hl 1 rfl) ?_
        refine lv_aload_n hx hb dX1_commitsOfRefs_10 rfl (lv_at hl 0 rfl) ?_
        refine va_get (ci := 1) (v := .ref (q 12)) (C := RX1) (T := TX1) (N := 3) hx hb hts inX1_commitsOfRefs_RX1 hown hK hP 3 rfl rfl 2 (by decide) (hts _ lkX1_commitsOfRefs_15) (fun _ h9 => h9) rfl dX1_commitsOfRefs_11 ?_
        refine lv_iload_n hx hb dX1_commitsOfRefs_14 rfl (lv_at hl 2 rfl) ?_
        refine g_iald (n := 4) (f := (u.1 8)) hx hb hK hP 12 0 rfl rfl k (by omega) (by omega) rfl dX1_commitsOfRefs_15 ?_
        refine g_callN0 (host := "FetchHouse") (As := [.int ((u.1 8) k)]) (rest := [.long t]) hx hb hml hown hts (ctX2_setOf l D cI cZ q ((u.1 8) k)) gX1_commitsOfRefs_X2_setOf_n29 rfl rfl rfl (hE.1 _ (List.mem_of_getElem? (i := 7) rfl)) (hts _ lkX1_commitsOfRefs_inRX2) (hts _ lkX1_commitsOfRefs_stX2_setOf) hdX2_setOf ⟨Nat.le_of_ble_eq_true rfl, Nat.le_of_ble_eq_true rfl⟩ gEM_true trivial hP hK hS hA rfl hl.1 rfl (Nat.le_of_ble_eq_true rfl) dX1_commitsOfRefs_16 ⟨Nat.zero_le _, Nat.zero_le _⟩ (fun H locs hP hS => ?_)
        refine W.eq (g2 := F0 m 19 ls [.long (xSet ((u.1 8) k)), .long t]) rfl ?_
        refine lv_lor hx hb dX1_commitsOfRefs_19 ?_
        refine lv_lstore_n (lv' := [(1, .long (t ||| (xSet ((u.1 8) k)))), (0, .ref (q 3)), (3, .int (nI k))]) hx hb dX1_commitsOfRefs_20 rfl hl (by decide) rfl (fun ls hl => ?_)
        refine lv_iinc (v := (nI (k + 1))) (lv' := [(3, .int (nI (k + 1))), (1, .long (t ||| (xSet ((u.1 8) k)))), (0, .ref (q 3))]) hx hb dX1_commitsOfRefs_21 hl (k := 2) rfl (nI_1 _) (by decide) rfl (fun ls hl => ?_)
        refine lv_goto (tgt := 4) hx hb dX1_commitsOfRefs_24 (by decide) ?_
        exact ih (k + 1) (t ||| (xSet ((u.1 8) k))) _ _ _ hP hD hS (lv_sub hl [2, 1, 0] rfl) (by omega) (by rw [← hr] <;> rfl)
  exact loop 4 0 0 _ _ _ hP hD hS (lv_sub hl [2, 1, 0] rfl) (by omega) rfl
theorem lkX1_holdsFile_inRX2 : Cond.initialized RX2 ∈ wsX1_holdsFile := List.mem_of_getElem? (i := 3) (by decide +kernel)
theorem lkX1_holdsFile_stX2_isFile : Cond.static yX2_isFile ∈ wsX1_holdsFile := List.mem_of_getElem? (i := 2) (by decide +kernel)
theorem lkX1_holdsFile_9 : Cond.fieldLink RX1 9 "FetchHouse$Store" "heldFiles" "[Z" ∈ wsX1_holdsFile := List.mem_of_getElem? (i := 1) (by decide +kernel)
theorem inX1_holdsFile_RX1 : ∀ w ∈ u_ws RX1 TX1 3, w ∈ wsX1_holdsFile := fun w h => List.mem_cons_of_mem _ (List.mem_append_right _ h)
abbrev rmX1_holdsFile_0 : Room := { frames := 1, cells := 0, slots := 0, locals := 20 }
set_option maxHeartbeats 4000000 in
set_option maxRecDepth 100000 in
theorem ctX1_holdsFile_0 (l : Launch) (D : va_G) (cI cZ : ClassId) (q : Nat → Nat) (u : SX) (p0 : Int32) : gM l yX1_holdsFile wsX1_holdsFile rmX1_holdsFile_0 D [(cI, .int), (cZ, .boolean)] (XW cI cZ q) XG [.ref (q 2), .int p0] u (some (.int (xHas (u.1 5) p0))) u := by
  refine g_start (cc := cX1_holdsFile) (maxL := 2) (ret := (some .boolean)) (by decide) rfl (Nat.le_of_ble_eq_true rfl) ?_
  intro p e s m below meth c A ls Q hx hb hml hret hts hown hlk hE hP hK hD hA hl hQ hS
  have hown : s.vm.findClass RX1 = some m.cls := hown
  have hl : lv_has ls 2 [(0, .ref (q 2)), (1, .int p0)] := hl
  refine lv_iload_n hx hb dX1_holdsFile_0 rfl (lv_at hl 1 rfl) ?_
  refine g_callN0 (host := "FetchHouse") (As := [.int p0]) (rest := []) hx hb hml hown hts (ctX2_isFile l D cI cZ q p0) gX1_holdsFile_X2_isFile_n33 rfl rfl rfl (hE.1 _ (List.mem_of_getElem? (i := 8) rfl)) (hts _ lkX1_holdsFile_inRX2) (hts _ lkX1_holdsFile_stX2_isFile) hdX2_isFile ⟨Nat.le_of_ble_eq_true rfl, Nat.le_of_ble_eq_true rfl⟩ gEM_true trivial hP hK hS hA rfl hl.1 rfl (Nat.le_of_ble_eq_true rfl) dX1_holdsFile_1 ⟨Nat.zero_le _, Nat.zero_le _⟩ (fun H locs hP hS => ?_)
  refine W.eq (g2 := F0 m 4 ls [.int (xRange p0 100)]) rfl ?_
  refine lv_if_eq (tgt := 20) hx hb dX1_holdsFile_4 (by decide) (fun c_4 => ?_) (fun c_4 => ?_)
  · refine lv_iconst (v := 0) hx hb dX1_holdsFile_20 (by decide +kernel) ?_
    refine g_zret (u1 := u) hx hb hret hlk hQ hP hD hS dX1_holdsFile_21 ?_ ?_ ?_
    · exact rfl
    · exact by unfold xHas; rw [if_pos c_4]
    · exact rfl
  · obtain ⟨j, hj, hj2⟩ := xRange_ne (n := 100) rfl (by omega) c_4
    refine lv_aload_n hx hb dX1_holdsFile_7 rfl (lv_at hl 0 rfl) ?_
    refine va_get (ci := 1) (v := .ref (q 9)) (C := RX1) (T := TX1) (N := 3) hx hb hts inX1_holdsFile_RX1 hown hK hP 2 rfl rfl 1 (by decide) (hts _ lkX1_holdsFile_9) (fun _ h9 => h9) rfl dX1_holdsFile_8 ?_
    refine lv_iload_n hx hb dX1_holdsFile_11 rfl (lv_at hl 1 rfl) ?_
    refine g_zald (n := 100) (f := (u.1 5)) hx hb hK hP 9 1 rfl rfl j (by omega) (by omega) hj2 dX1_holdsFile_12 ?_
    refine lv_if_eq (tgt := 20) hx hb dX1_holdsFile_13 (by decide) (fun c_13 => ?_) (fun c_13 => ?_)
    · refine lv_iconst (v := 0) hx hb dX1_holdsFile_20 (by decide +kernel) ?_
      refine g_zret (u1 := u) hx hb hret hlk hQ hP hD hS dX1_holdsFile_21 ?_ ?_ ?_
      · exact rfl
      · exact by unfold xHas; rw [if_neg c_4, hj2, nI_clamp (by omega), if_pos c_13]
      · exact rfl
    · refine lv_iconst (v := 1) hx hb dX1_holdsFile_16 (by decide +kernel) ?_
      refine lv_goto (tgt := 21) hx hb dX1_holdsFile_17 (by decide) ?_
      refine g_zret (u1 := u) hx hb hret hlk hQ hP hD hS dX1_holdsFile_21 ?_ ?_ ?_
      · exact rfl
      · exact by unfold xHas; rw [if_neg c_4, hj2, nI_clamp (by omega), if_neg c_13]
      · exact rfl
abbrev rmX1_holdsFile_1 : Room := { frames := 1, cells := 0, slots := 0, locals := 20 }
set_option maxHeartbeats 4000000 in
set_option maxRecDepth 100000 in
theorem ctX1_holdsFile_1 (l : Launch) (D : va_G) (cI cZ : ClassId) (q : Nat → Nat) (u : SX) (p0 : Int32) : gM l yX1_holdsFile wsX1_holdsFile rmX1_holdsFile_1 D [(cI, .int), (cZ, .boolean)] (XW cI cZ q) XG [.ref (q 3), .int p0] u (some (.int (xHas (u.1 7) p0))) u := by
  refine g_start (cc := cX1_holdsFile) (maxL := 2) (ret := (some .boolean)) (by decide) rfl (Nat.le_of_ble_eq_true rfl) ?_
  intro p e s m below meth c A ls Q hx hb hml hret hts hown hlk hE hP hK hD hA hl hQ hS
  have hown : s.vm.findClass RX1 = some m.cls := hown
  have hl : lv_has ls 2 [(0, .ref (q 3)), (1, .int p0)] := hl
  refine lv_iload_n hx hb dX1_holdsFile_0 rfl (lv_at hl 1 rfl) ?_
  refine g_callN0 (host := "FetchHouse") (As := [.int p0]) (rest := []) hx hb hml hown hts (ctX2_isFile l D cI cZ q p0) gX1_holdsFile_X2_isFile_n33 rfl rfl rfl (hE.1 _ (List.mem_of_getElem? (i := 8) rfl)) (hts _ lkX1_holdsFile_inRX2) (hts _ lkX1_holdsFile_stX2_isFile) hdX2_isFile ⟨Nat.le_of_ble_eq_true rfl, Nat.le_of_ble_eq_true rfl⟩ gEM_true trivial hP hK hS hA rfl hl.1 rfl (Nat.le_of_ble_eq_true rfl) dX1_holdsFile_1 ⟨Nat.zero_le _, Nat.zero_le _⟩ (fun H locs hP hS => ?_)
  refine W.eq (g2 := F0 m 4 ls [.int (xRange p0 100)]) rfl ?_
  refine lv_if_eq (tgt := 20) hx hb dX1_holdsFile_4 (by decide) (fun c_4 => ?_) (fun c_4 => ?_)
  · refine lv_iconst (v := 0) hx hb dX1_holdsFile_20 (by decide +kernel) ?_
    refine g_zret (u1 := u) hx hb hret hlk hQ hP hD hS dX1_holdsFile_21 ?_ ?_ ?_
    · exact rfl
    · exact by unfold xHas; rw [if_pos c_4]
    · exact rfl
  · obtain ⟨j, hj, hj2⟩ := xRange_ne (n := 100) rfl (by omega) c_4
    refine lv_aload_n hx hb dX1_holdsFile_7 rfl (lv_at hl 0 rfl) ?_
    refine va_get (ci := 1) (v := .ref (q 11)) (C := RX1) (T := TX1) (N := 3) hx hb hts inX1_holdsFile_RX1 hown hK hP 3 rfl rfl 1 (by decide) (hts _ lkX1_holdsFile_9) (fun _ h9 => h9) rfl dX1_holdsFile_8 ?_
    refine lv_iload_n hx hb dX1_holdsFile_11 rfl (lv_at hl 1 rfl) ?_
    refine g_zald (n := 100) (f := (u.1 7)) hx hb hK hP 11 1 rfl rfl j (by omega) (by omega) hj2 dX1_holdsFile_12 ?_
    refine lv_if_eq (tgt := 20) hx hb dX1_holdsFile_13 (by decide) (fun c_13 => ?_) (fun c_13 => ?_)
    · refine lv_iconst (v := 0) hx hb dX1_holdsFile_20 (by decide +kernel) ?_
      refine g_zret (u1 := u) hx hb hret hlk hQ hP hD hS dX1_holdsFile_21 ?_ ?_ ?_
      · exact rfl
      · exact by unfold xHas; rw [if_neg c_4, hj2, nI_clamp (by omega), if_pos c_13]
      · exact rfl
    · refine lv_iconst (v := 1) hx hb dX1_holdsFile_16 (by decide +kernel) ?_
      refine lv_goto (tgt := 21) hx hb dX1_holdsFile_17 (by decide) ?_
      refine g_zret (u1 := u) hx hb hret hlk hQ hP hD hS dX1_holdsFile_21 ?_ ?_ ?_
      · exact rfl
      · exact by unfold xHas; rw [if_neg c_4, hj2, nI_clamp (by omega), if_neg c_13]
      · exact rfl
theorem lkX1_addFile_inRX2 : Cond.initialized RX2 ∈ wsX1_addFile := List.mem_of_getElem? (i := 3) (by decide +kernel)
theorem lkX1_addFile_stX2_isFile : Cond.static yX2_isFile ∈ wsX1_addFile := List.mem_of_getElem? (i := 2) (by decide +kernel)
theorem lkX1_addFile_9 : Cond.fieldLink RX1 9 "FetchHouse$Store" "heldFiles" "[Z" ∈ wsX1_addFile := List.mem_of_getElem? (i := 1) (by decide +kernel)
theorem inX1_addFile_RX1 : ∀ w ∈ u_ws RX1 TX1 3, w ∈ wsX1_addFile := fun w h => List.mem_cons_of_mem _ (List.mem_append_right _ h)
abbrev rmX1_addFile_0 : Room := { frames := 1, cells := 0, slots := 0, locals := 20 }
set_option maxHeartbeats 4000000 in
set_option maxRecDepth 100000 in
theorem ctX1_addFile_0 (l : Launch) (D : va_G) (cI cZ : ClassId) (q : Nat → Nat) (u : SX) (p0 : Int32) : gM l yX1_addFile wsX1_addFile rmX1_addFile_0 D [(cI, .int), (cZ, .boolean)] (XW cI cZ q) XG [.ref (q 2), .int p0] u none (gS u 5 (xAddF (u.1 5) p0)) := by
  refine g_start (cc := cX1_addFile) (maxL := 2) (ret := none) (by decide) rfl (Nat.le_of_ble_eq_true rfl) ?_
  intro p e s m below meth c A ls Q hx hb hml hret hts hown hlk hE hP hK hD hA hl hQ hS
  have hown : s.vm.findClass RX1 = some m.cls := hown
  have hl : lv_has ls 2 [(0, .ref (q 2)), (1, .int p0)] := hl
  refine lv_iload_n hx hb dX1_addFile_0 rfl (lv_at hl 1 rfl) ?_
  refine g_callN0 (host := "FetchHouse") (As := [.int p0]) (rest := []) hx hb hml hown hts (ctX2_isFile l D cI cZ q p0) gX1_addFile_X2_isFile_n33 rfl rfl rfl (hE.1 _ (List.mem_of_getElem? (i := 8) rfl)) (hts _ lkX1_addFile_inRX2) (hts _ lkX1_addFile_stX2_isFile) hdX2_isFile ⟨Nat.le_of_ble_eq_true rfl, Nat.le_of_ble_eq_true rfl⟩ gEM_true trivial hP hK hS hA rfl hl.1 rfl (Nat.le_of_ble_eq_true rfl) dX1_addFile_1 ⟨Nat.zero_le _, Nat.zero_le _⟩ (fun H locs hP hS => ?_)
  refine W.eq (g2 := F0 m 4 ls [.int (xRange p0 100)]) rfl ?_
  refine lv_if_eq (tgt := 14) hx hb dX1_addFile_4 (by decide) (fun c_4 => ?_) (fun c_4 => ?_)
  · refine g_vret (u1 := u) hx hb hret hlk hQ hP hD hS dX1_addFile_14 ?_ ?_
    · exact rfl
    · exact (by rw [show xAddF (u.1 5) p0 = (u.1 5) from by unfold xAddF; rw [if_pos c_4]] <;> rfl)
  · obtain ⟨j, hj, hj2⟩ := xRange_ne (n := 100) rfl (by omega) c_4
    refine lv_aload_n hx hb dX1_addFile_7 rfl (lv_at hl 0 rfl) ?_
    refine va_get (ci := 1) (v := .ref (q 9)) (C := RX1) (T := TX1) (N := 3) hx hb hts inX1_addFile_RX1 hown hK hP 2 rfl rfl 1 (by decide) (hts _ lkX1_addFile_9) (fun _ h9 => h9) rfl dX1_addFile_8 ?_
    refine lv_iload_n hx hb dX1_addFile_11 rfl (lv_at hl 1 rfl) ?_
    refine lv_iconst (v := 1) hx hb dX1_addFile_12 (by decide +kernel) ?_
    refine g_zast (n := 100) (f := (u.1 5)) (u' := (gS u 5 (upd (u.1 5) j 1))) hx hb hK hP hD hS 9 1 rfl rfl j (by omega) (by omega) hj2 rfl rfl dX1_addFile_13 (fun H locs hP hD hS => ?_)
    refine g_vret (u1 := (gS u 5 (upd (u.1 5) j 1))) hx hb hret hlk hQ hP hD hS dX1_addFile_14 ?_ ?_
    · exact rfl
    · exact (by rw [show xAddF (u.1 5) p0 = (upd (u.1 5) j 1) from by unfold xAddF; rw [if_neg c_4, hj2, nI_clamp (by omega)]] <;> rfl)
abbrev rmX1_addFile_1 : Room := { frames := 1, cells := 0, slots := 0, locals := 20 }
set_option maxHeartbeats 4000000 in
set_option maxRecDepth 100000 in
theorem ctX1_addFile_1 (l : Launch) (D : va_G) (cI cZ : ClassId) (q : Nat → Nat) (u : SX) (p0 : Int32) : gM l yX1_addFile wsX1_addFile rmX1_addFile_1 D [(cI, .int), (cZ, .boolean)] (XW cI cZ q) XG [.ref (q 3), .int p0] u none (gS u 7 (xAddF (u.1 7) p0)) := by
  refine g_start (cc := cX1_addFile) (maxL := 2) (ret := none) (by decide) rfl (Nat.le_of_ble_eq_true rfl) ?_
  intro p e s m below meth c A ls Q hx hb hml hret hts hown hlk hE hP hK hD hA hl hQ hS
  have hown : s.vm.findClass RX1 = some m.cls := hown
  have hl : lv_has ls 2 [(0, .ref (q 3)), (1, .int p0)] := hl
  refine lv_iload_n hx hb dX1_addFile_0 rfl (lv_at hl 1 rfl) ?_
  refine g_callN0 (host := "FetchHouse") (As := [.int p0]) (rest := []) hx hb hml hown hts (ctX2_isFile l D cI cZ q p0) gX1_addFile_X2_isFile_n33 rfl rfl rfl (hE.1 _ (List.mem_of_getElem? (i := 8) rfl)) (hts _ lkX1_addFile_inRX2) (hts _ lkX1_addFile_stX2_isFile) hdX2_isFile ⟨Nat.le_of_ble_eq_true rfl, Nat.le_of_ble_eq_true rfl⟩ gEM_true trivial hP hK hS hA rfl hl.1 rfl (Nat.le_of_ble_eq_true rfl) dX1_addFile_1 ⟨Nat.zero_le _, Nat.zero_le _⟩ (fun H locs hP hS => ?_)
  refine W.eq (g2 := F0 m 4 ls [.int (xRange p0 100)]) rfl ?_
  refine lv_if_eq (tgt := 14) hx hb dX1_addFile_4 (by decide) (fun c_4 => ?_) (fun c_4 => ?_)
  · refine g_vret (u1 := u) hx hb hret hlk hQ hP hD hS dX1_addFile_14 ?_ ?_
    · exact rfl
    · exact (by rw [show xAddF (u.1 7) p0 = (u.1 7) from by unfold xAddF; rw [if_pos c_4]] <;> rfl)
  · obtain ⟨j, hj, hj2⟩ := xRange_ne (n := 100) rfl (by omega) c_4
    refine lv_aload_n hx hb dX1_addFile_7 rfl (lv_at hl 0 rfl) ?_
    refine va_get (ci := 1) (v := .ref (q 11)) (C := RX1) (T := TX1) (N := 3) hx hb hts inX1_addFile_RX1 hown hK hP 3 rfl rfl 1 (by decide) (hts _ lkX1_addFile_9) (fun _ h9 => h9) rfl dX1_addFile_8 ?_
    refine lv_iload_n hx hb dX1_addFile_11 rfl (lv_at hl 1 rfl) ?_
    refine lv_iconst (v := 1) hx hb dX1_addFile_12 (by decide +kernel) ?_
    refine g_zast (n := 100) (f := (u.1 7)) (u' := (gS u 7 (upd (u.1 7) j 1))) hx hb hK hP hD hS 11 1 rfl rfl j (by omega) (by omega) hj2 rfl rfl dX1_addFile_13 (fun H locs hP hD hS => ?_)
    refine g_vret (u1 := (gS u 7 (upd (u.1 7) j 1))) hx hb hret hlk hQ hP hD hS dX1_addFile_14 ?_ ?_
    · exact rfl
    · exact (by rw [show xAddF (u.1 7) p0 = (upd (u.1 7) j 1) from by unfold xAddF; rw [if_neg c_4, hj2, nI_clamp (by omega)]] <;> rfl)
theorem lkX1_addFiles_9 : Cond.fieldLink RX1 9 "FetchHouse$Store" "heldFiles" "[Z" ∈ wsX1_addFiles := List.mem_of_getElem? (i := 1) (by decide +kernel)
theorem inX1_addFiles_RX1 : ∀ w ∈ u_ws RX1 TX1 3, w ∈ wsX1_addFiles := fun w h => List.mem_cons_of_mem _ (List.mem_append_right _ h)
abbrev rmX1_addFiles_0 : Room := { frames := 2, cells := 0, slots := 0, locals := 41 }
set_option maxHeartbeats 4000000 in
set_option maxRecDepth 100000 in
theorem ctX1_addFiles_0 (l : Launch) (D : va_G) (cI cZ : ClassId) (q : Nat → Nat) (u : SX)  : gM l yX1_addFiles wsX1_addFiles rmX1_addFiles_0 D [(cI, .int), (cZ, .boolean)] (XW cI cZ q) XG [.ref (q 2), .ref (q 8), .ref (q 3)] u none (gS u 5 (xAddFs (u.1 4) (u.1 7) (u.1 5))) := by
  refine g_start (cc := cX1_addFiles) (maxL := 4) (ret := none) (by decide) rfl (Nat.le_of_ble_eq_true rfl) ?_
  intro p e s m below meth c A ls Q hx hb hml hret hts hown hlk hE hP hK hD hA hl hQ hS
  have hown : s.vm.findClass RX1 = some m.cls := hown
  have hl : lv_has ls 4 [(0, .ref (q 2)), (1, .ref (q 8)), (2, .ref (q 3))] := hl
  refine lv_iconst (v := (nI 0)) hx hb dX1_addFiles_0 (by decide +kernel) ?_
  refine lv_istore_n (lv' := [(3, .int (nI 0)), (0, .ref (q 2)), (1, .ref (q 8)), (2, .ref (q 3))]) hx hb dX1_addFiles_1 rfl hl (by decide) rfl (fun ls hl => ?_)
  have loop : ∀ (d k : Nat) (fl : Nat → Int32) (H : Heap) (locs : List Loc) (ls : Array Slot) (hP : va_P D vwCl (XW cI cZ q (gS u 5 fl)) H) (hD : va_D A (XW cI cZ q (gS u 5 fl))) (hS : va_S A s.heap H locs) (hl : lv_has ls 4 [(0, .ref (q 2)), (1, .ref (q 8)), (2, .ref (q 3)), (3, .int (nI k))]) (hk : k + d = 100) (hr : itU (xAddFsStep (u.1 4) (u.1 7)) d k fl = (xAddFs (u.1 4) (u.1 7) (u.1 5))), W p l e rmX1_addFiles_0 s m ([.ref (q 2), .ref (q 8), .ref (q 3)] : List Value).toArray below meth c H locs 0 0 Q (F0 m 2 ls []) := by
    intro d
    induction d with
    | zero =>
      intro k fl H locs ls hP hD hS hl hk hr
      refine lv_iload_n hx hb dX1_addFiles_2 rfl (lv_at hl 3 rfl) ?_
      refine lv_bipush (v := 100) hx hb dX1_addFiles_3 (by decide +kernel) ?_
      refine lv_icmp_ge (tgt := 41) hx hb dX1_addFiles_5 (by decide) (fun c_5 => ?_) (fun c_5 => ?_)
      · have n_5 : 100 ≤ k := (g_leI (a := 100) (b := k) rfl rfl (by omega) (by omega)).mp c_5
        refine g_vret (u1 := (gS u 5 fl)) hx hb hret hlk hQ hP hD hS dX1_addFiles_41 ?_ ?_
        · exact rfl
        · exact (by rw [← hr] <;> rfl)
      · have n_5 : ¬ 100 ≤ k := fun h => c_5 ((g_leI (a := 100) (b := k) rfl rfl (by omega) (by omega)).mpr h)
        exfalso; omega
    | succ d ih =>
      intro k fl H locs ls hP hD hS hl hk hr
      refine lv_iload_n hx hb dX1_addFiles_2 rfl (lv_at hl 3 rfl) ?_
      refine lv_bipush (v := 100) hx hb dX1_addFiles_3 (by decide +kernel) ?_
      refine lv_icmp_ge (tgt := 41) hx hb dX1_addFiles_5 (by decide) (fun c_5 => ?_) (fun c_5 => ?_)
      · have n_5 : 100 ≤ k := (g_leI (a := 100) (b := k) rfl rfl (by omega) (by omega)).mp c_5
        exfalso; omega
      · have n_5 : ¬ 100 ≤ k := fun h => c_5 ((g_leI (a := 100) (b := k) rfl rfl (by omega) (by omega)).mpr h)
        refine lv_iload_n hx hb dX1_addFiles_8 rfl (lv_at hl 3 rfl) ?_
        refine lv_aload_n hx hb dX1_addFiles_9 rfl (lv_at hl 1 rfl) ?_
        refine va_alen (v := 100) (ty := .boolean) hx hb hK hP 8 rfl (t0 := 1) rfl rfl dX1_addFiles_10 ?_
        refine lv_icmp_ge (tgt := 41) hx hb dX1_addFiles_11 (by decide) (fun c_11 => ?_) (fun c_11 => ?_)
        · have n_11 : 100 ≤ k := (g_leI (a := 100) (b := k) rfl rfl (by omega) (by omega)).mp c_11
          exfalso; omega
        · have n_11 : ¬ 100 ≤ k := fun h => c_11 ((g_leI (a := 100) (b := k) rfl rfl (by omega) (by omega)).mpr h)
          refine lv_aload_n hx hb dX1_addFiles_14 rfl (lv_at hl 1 rfl) ?_
          refine lv_iload_n hx hb dX1_addFiles_15 rfl (lv_at hl 3 rfl) ?_
          refine g_zald (n := 100) (f := (u.1 4)) hx hb hK hP 8 1 rfl rfl k (by omega) (by omega) rfl dX1_addFiles_16 ?_
          refine lv_if_eq (tgt := 35) hx hb dX1_addFiles_17 (by decide) (fun c_17 => ?_) (fun c_17 => ?_)
          · refine lv_iinc (v := (nI (k + 1))) (lv' := [(3, .int (nI (k + 1))), (0, .ref (q 2)), (1, .ref (q 8)), (2, .ref (q 3))]) hx hb dX1_addFiles_35 hl (k := 3) rfl (nI_1 _) (by decide) rfl (fun ls hl => ?_)
            refine lv_goto (tgt := 2) hx hb dX1_addFiles_38 (by decide) ?_
            exact ih (k + 1) fl _ _ _ hP hD hS (lv_sub hl [1, 2, 3, 0] rfl) (by omega) (by rw [← hr]; show _ = itU _ d (k + 1) (xAddFsStep _ _ k fl); rw [show xAddFsStep (u.1 4) (u.1 7) k fl = fl from by simp only [xAddFsStep, c_5, c_11, c_17, ↓reduceIte, not_true_eq_false, not_false_eq_true]])
          · refine lv_aload_n hx hb dX1_addFiles_20 rfl (lv_at hl 2 rfl) ?_
            refine lv_iload_n hx hb dX1_addFiles_21 rfl (lv_at hl 3 rfl) ?_
            refine g_callV (As := [.int (nI k)]) (rest := []) hx hb hml hown hts (ctX1_holdsFile_1 l D cI cZ q (gS u 5 fl) (nI k)) gX1_addFiles_X1_holdsFile rfl rfl rfl hdX1_holdsFile ⟨Nat.le_of_ble_eq_true rfl, Nat.le_of_ble_eq_true rfl⟩ XG_em hE hP hK hD hS hA 3 rfl rfl rfl hl.1 rfl (Nat.le_of_ble_eq_true rfl) dX1_addFiles_22 ⟨Nat.zero_le _, Nat.zero_le _⟩ (fun H locs hP hD hS => ?_)
            have hP : va_P D vwCl (XW cI cZ q (gS u 5 fl)) H := hP
            have hD : va_D A (XW cI cZ q (gS u 5 fl)) := hD
            refine W.eq (g2 := F0 m 25 ls [.int (xHas (u.1 7) (nI k))]) rfl ?_
            refine lv_if_eq (tgt := 35) hx hb dX1_addFiles_25 (by decide) (fun c_25 => ?_) (fun c_25 => ?_)
            · refine lv_iinc (v := (nI (k + 1))) (lv' := [(3, .int (nI (k + 1))), (0, .ref (q 2)), (1, .ref (q 8)), (2, .ref (q 3))]) hx hb dX1_addFiles_35 hl (k := 3) rfl (nI_1 _) (by decide) rfl (fun ls hl => ?_)
              refine lv_goto (tgt := 2) hx hb dX1_addFiles_38 (by decide) ?_
              exact ih (k + 1) fl _ _ _ hP hD hS (lv_sub hl [1, 2, 3, 0] rfl) (by omega) (by rw [← hr]; show _ = itU _ d (k + 1) (xAddFsStep _ _ k fl); rw [show xAddFsStep (u.1 4) (u.1 7) k fl = fl from by simp only [xAddFsStep, c_5, c_11, c_17, c_25, ↓reduceIte, not_true_eq_false, not_false_eq_true]])
            · refine lv_aload_n hx hb dX1_addFiles_28 rfl (lv_at hl 0 rfl) ?_
              refine va_get (ci := 1) (v := .ref (q 9)) (C := RX1) (T := TX1) (N := 3) hx hb hts inX1_addFiles_RX1 hown hK hP 2 rfl rfl 1 (by decide) (hts _ lkX1_addFiles_9) (fun _ h9 => h9) rfl dX1_addFiles_29 ?_
              refine lv_iload_n hx hb dX1_addFiles_32 rfl (lv_at hl 3 rfl) ?_
              refine lv_iconst (v := 1) hx hb dX1_addFiles_33 (by decide +kernel) ?_
              refine g_zast (n := 100) (f := fl) (u' := (gS u 5 (upd fl k 1))) hx hb hK hP hD hS 9 1 rfl rfl k (by omega) (by omega) rfl rfl rfl dX1_addFiles_34 (fun H locs hP hD hS => ?_)
              refine lv_iinc (v := (nI (k + 1))) (lv' := [(3, .int (nI (k + 1))), (0, .ref (q 2)), (1, .ref (q 8)), (2, .ref (q 3))]) hx hb dX1_addFiles_35 hl (k := 3) rfl (nI_1 _) (by decide) rfl (fun ls hl => ?_)
              refine lv_goto (tgt := 2) hx hb dX1_addFiles_38 (by decide) ?_
              exact ih (k + 1) (upd fl k 1) _ _ _ hP hD hS (lv_sub hl [1, 2, 3, 0] rfl) (by omega) (by rw [← hr]; show _ = itU _ d (k + 1) (xAddFsStep _ _ k fl); rw [show xAddFsStep (u.1 4) (u.1 7) k fl = (upd fl k 1) from by simp only [xAddFsStep, c_5, c_11, c_17, c_25, ↓reduceIte, not_true_eq_false, not_false_eq_true]])
  exact loop 100 0 (u.1 5) _ _ _ hP hD hS (lv_sub hl [1, 2, 3, 0] rfl) (by omega) rfl
abbrev rmX1_addFiles_1 : Room := { frames := 2, cells := 0, slots := 0, locals := 41 }
set_option maxHeartbeats 4000000 in
set_option maxRecDepth 100000 in
theorem ctX1_addFiles_1 (l : Launch) (D : va_G) (cI cZ : ClassId) (q : Nat → Nat) (u : SX)  : gM l yX1_addFiles wsX1_addFiles rmX1_addFiles_1 D [(cI, .int), (cZ, .boolean)] (XW cI cZ q) XG [.ref (q 3), .ref (q 8), .ref (q 2)] u none (gS u 7 (xAddFs (u.1 4) (u.1 5) (u.1 7))) := by
  refine g_start (cc := cX1_addFiles) (maxL := 4) (ret := none) (by decide) rfl (Nat.le_of_ble_eq_true rfl) ?_
  intro p e s m below meth c A ls Q hx hb hml hret hts hown hlk hE hP hK hD hA hl hQ hS
  have hown : s.vm.findClass RX1 = some m.cls := hown
  have hl : lv_has ls 4 [(0, .ref (q 3)), (1, .ref (q 8)), (2, .ref (q 2))] := hl
  refine lv_iconst (v := (nI 0)) hx hb dX1_addFiles_0 (by decide +kernel) ?_
  refine lv_istore_n (lv' := [(3, .int (nI 0)), (0, .ref (q 3)), (1, .ref (q 8)), (2, .ref (q 2))]) hx hb dX1_addFiles_1 rfl hl (by decide) rfl (fun ls hl => ?_)
  have loop : ∀ (d k : Nat) (fl : Nat → Int32) (H : Heap) (locs : List Loc) (ls : Array Slot) (hP : va_P D vwCl (XW cI cZ q (gS u 7 fl)) H) (hD : va_D A (XW cI cZ q (gS u 7 fl))) (hS : va_S A s.heap H locs) (hl : lv_has ls 4 [(0, .ref (q 3)), (1, .ref (q 8)), (2, .ref (q 2)), (3, .int (nI k))]) (hk : k + d = 100) (hr : itU (xAddFsStep (u.1 4) (u.1 5)) d k fl = (xAddFs (u.1 4) (u.1 5) (u.1 7))), W p l e rmX1_addFiles_1 s m ([.ref (q 3), .ref (q 8), .ref (q 2)] : List Value).toArray below meth c H locs 0 0 Q (F0 m 2 ls []) := by
    intro d
    induction d with
    | zero =>
      intro k fl H locs ls hP hD hS hl hk hr
      refine lv_iload_n hx hb dX1_addFiles_2 rfl (lv_at hl 3 rfl) ?_
      refine lv_bipush (v := 100) hx hb dX1_addFiles_3 (by decide +kernel) ?_
      refine lv_icmp_ge (tgt := 41) hx hb dX1_addFiles_5 (by decide) (fun c_5 => ?_) (fun c_5 => ?_)
      · have n_5 : 100 ≤ k := (g_leI (a := 100) (b := k) rfl rfl (by omega) (by omega)).mp c_5
        refine g_vret (u1 := (gS u 7 fl)) hx hb hret hlk hQ hP hD hS dX1_addFiles_41 ?_ ?_
        · exact rfl
        · exact (by rw [← hr] <;> rfl)
      · have n_5 : ¬ 100 ≤ k := fun h => c_5 ((g_leI (a := 100) (b := k) rfl rfl (by omega) (by omega)).mpr h)
        exfalso; omega
    | succ d ih =>
      intro k fl H locs ls hP hD hS hl hk hr
      refine lv_iload_n hx hb dX1_addFiles_2 rfl (lv_at hl 3 rfl) ?_
      refine lv_bipush (v := 100) hx hb dX1_addFiles_3 (by decide +kernel) ?_
      refine lv_icmp_ge (tgt := 41) hx hb dX1_addFiles_5 (by decide) (fun c_5 => ?_) (fun c_5 => ?_)
      · have n_5 : 100 ≤ k := (g_leI (a := 100) (b := k) rfl rfl (by omega) (by omega)).mp c_5
        exfalso; omega
      · have n_5 : ¬ 100 ≤ k := fun h => c_5 ((g_leI (a := 100) (b := k) rfl rfl (by omega) (by omega)).mpr h)
        refine lv_iload_n hx hb dX1_addFiles_8 rfl (lv_at hl 3 rfl) ?_
        refine lv_aload_n hx hb dX1_addFiles_9 rfl (lv_at hl 1 rfl) ?_
        refine va_alen (v := 100) (ty := .boolean) hx hb hK hP 8 rfl (t0 := 1) rfl rfl dX1_addFiles_10 ?_
        refine lv_icmp_ge (tgt := 41) hx hb dX1_addFiles_11 (by decide) (fun c_11 => ?_) (fun c_11 => ?_)
        · have n_11 : 100 ≤ k := (g_leI (a := 100) (b := k) rfl rfl (by omega) (by omega)).mp c_11
          exfalso; omega
        · have n_11 : ¬ 100 ≤ k := fun h => c_11 ((g_leI (a := 100) (b := k) rfl rfl (by omega) (by omega)).mpr h)
          refine lv_aload_n hx hb dX1_addFiles_14 rfl (lv_at hl 1 rfl) ?_
          refine lv_iload_n hx hb dX1_addFiles_15 rfl (lv_at hl 3 rfl) ?_
          refine g_zald (n := 100) (f := (u.1 4)) hx hb hK hP 8 1 rfl rfl k (by omega) (by omega) rfl dX1_addFiles_16 ?_
          refine lv_if_eq (tgt := 35) hx hb dX1_addFiles_17 (by decide) (fun c_17 => ?_) (fun c_17 => ?_)
          · refine lv_iinc (v := (nI (k + 1))) (lv' := [(3, .int (nI (k + 1))), (0, .ref (q 3)), (1, .ref (q 8)), (2, .ref (q 2))]) hx hb dX1_addFiles_35 hl (k := 3) rfl (nI_1 _) (by decide) rfl (fun ls hl => ?_)
            refine lv_goto (tgt := 2) hx hb dX1_addFiles_38 (by decide) ?_
            exact ih (k + 1) fl _ _ _ hP hD hS (lv_sub hl [1, 2, 3, 0] rfl) (by omega) (by rw [← hr]; show _ = itU _ d (k + 1) (xAddFsStep _ _ k fl); rw [show xAddFsStep (u.1 4) (u.1 5) k fl = fl from by simp only [xAddFsStep, c_5, c_11, c_17, ↓reduceIte, not_true_eq_false, not_false_eq_true]])
          · refine lv_aload_n hx hb dX1_addFiles_20 rfl (lv_at hl 2 rfl) ?_
            refine lv_iload_n hx hb dX1_addFiles_21 rfl (lv_at hl 3 rfl) ?_
            refine g_callV (As := [.int (nI k)]) (rest := []) hx hb hml hown hts (ctX1_holdsFile_0 l D cI cZ q (gS u 7 fl) (nI k)) gX1_addFiles_X1_holdsFile rfl rfl rfl hdX1_holdsFile ⟨Nat.le_of_ble_eq_true rfl, Nat.le_of_ble_eq_true rfl⟩ XG_em hE hP hK hD hS hA 2 rfl rfl rfl hl.1 rfl (Nat.le_of_ble_eq_true rfl) dX1_addFiles_22 ⟨Nat.zero_le _, Nat.zero_le _⟩ (fun H locs hP hD hS => ?_)
            have hP : va_P D vwCl (XW cI cZ q (gS u 7 fl)) H := hP
            have hD : va_D A (XW cI cZ q (gS u 7 fl)) := hD
            refine W.eq (g2 := F0 m 25 ls [.int (xHas (u.1 5) (nI k))]) rfl ?_
            refine lv_if_eq (tgt := 35) hx hb dX1_addFiles_25 (by decide) (fun c_25 => ?_) (fun c_25 => ?_)
            · refine lv_iinc (v := (nI (k + 1))) (lv' := [(3, .int (nI (k + 1))), (0, .ref (q 3)), (1, .ref (q 8)), (2, .ref (q 2))]) hx hb dX1_addFiles_35 hl (k := 3) rfl (nI_1 _) (by decide) rfl (fun ls hl => ?_)
              refine lv_goto (tgt := 2) hx hb dX1_addFiles_38 (by decide) ?_
              exact ih (k + 1) fl _ _ _ hP hD hS (lv_sub hl [1, 2, 3, 0] rfl) (by omega) (by rw [← hr]; show _ = itU _ d (k + 1) (xAddFsStep _ _ k fl); rw [show xAddFsStep (u.1 4) (u.1 5) k fl = fl from by simp only [xAddFsStep, c_5, c_11, c_17, c_25, ↓reduceIte, not_true_eq_false, not_false_eq_true]])
            · refine lv_aload_n hx hb dX1_addFiles_28 rfl (lv_at hl 0 rfl) ?_
              refine va_get (ci := 1) (v := .ref (q 11)) (C := RX1) (T := TX1) (N := 3) hx hb hts inX1_addFiles_RX1 hown hK hP 3 rfl rfl 1 (by decide) (hts _ lkX1_addFiles_9) (fun _ h9 => h9) rfl dX1_addFiles_29 ?_
              refine lv_iload_n hx hb dX1_addFiles_32 rfl (lv_at hl 3 rfl) ?_
              refine lv_iconst (v := 1) hx hb dX1_addFiles_33 (by decide +kernel) ?_
              refine g_zast (n := 100) (f := fl) (u' := (gS u 7 (upd fl k 1))) hx hb hK hP hD hS 11 1 rfl rfl k (by omega) (by omega) rfl rfl rfl dX1_addFiles_34 (fun H locs hP hD hS => ?_)
              refine lv_iinc (v := (nI (k + 1))) (lv' := [(3, .int (nI (k + 1))), (0, .ref (q 3)), (1, .ref (q 8)), (2, .ref (q 2))]) hx hb dX1_addFiles_35 hl (k := 3) rfl (nI_1 _) (by decide) rfl (fun ls hl => ?_)
              refine lv_goto (tgt := 2) hx hb dX1_addFiles_38 (by decide) ?_
              exact ih (k + 1) (upd fl k 1) _ _ _ hP hD hS (lv_sub hl [1, 2, 3, 0] rfl) (by omega) (by rw [← hr]; show _ = itU _ d (k + 1) (xAddFsStep _ _ k fl); rw [show xAddFsStep (u.1 4) (u.1 5) k fl = (upd fl k 1) from by simp only [xAddFsStep, c_5, c_11, c_17, c_25, ↓reduceIte, not_true_eq_false, not_false_eq_true]])
  exact loop 100 0 (u.1 7) _ _ _ hP hD hS (lv_sub hl [1, 2, 3, 0] rfl) (by omega) rfl
theorem lkX1_keepOnlyFiles_9 : Cond.fieldLink RX1 9 "FetchHouse$Store" "heldFiles" "[Z" ∈ wsX1_keepOnlyFiles := List.mem_of_getElem? (i := 1) (by decide +kernel)
theorem inX1_keepOnlyFiles_RX1 : ∀ w ∈ u_ws RX1 TX1 3, w ∈ wsX1_keepOnlyFiles := fun w h => List.mem_cons_of_mem _ (List.mem_append_right _ h)
abbrev rmX1_keepOnlyFiles_0 : Room := { frames := 0, cells := 0, slots := 0, locals := 0 }
set_option maxHeartbeats 4000000 in
set_option maxRecDepth 100000 in
theorem ctX1_keepOnlyFiles_0 (l : Launch) (D : va_G) (cI cZ : ClassId) (q : Nat → Nat) (u : SX)  : gM l yX1_keepOnlyFiles wsX1_keepOnlyFiles rmX1_keepOnlyFiles_0 D [(cI, .int), (cZ, .boolean)] (XW cI cZ q) XG [.ref (q 2), .ref (q 8)] u none (gS u 5 (xKeep (u.1 4) (u.1 5))) := by
  refine g_start (cc := cX1_keepOnlyFiles) (maxL := 3) (ret := none) (by decide) rfl (Nat.le_of_ble_eq_true rfl) ?_
  intro p e s m below meth c A ls Q hx hb hml hret hts hown hlk hE hP hK hD hA hl hQ hS
  have hown : s.vm.findClass RX1 = some m.cls := hown
  have hl : lv_has ls 3 [(0, .ref (q 2)), (1, .ref (q 8))] := hl
  refine lv_iconst (v := (nI 0)) hx hb dX1_keepOnlyFiles_0 (by decide +kernel) ?_
  refine lv_istore_n (lv' := [(2, .int (nI 0)), (0, .ref (q 2)), (1, .ref (q 8))]) hx hb dX1_keepOnlyFiles_1 rfl hl (by decide) rfl (fun ls hl => ?_)
  have loop : ∀ (d k : Nat) (fl : Nat → Int32) (H : Heap) (locs : List Loc) (ls : Array Slot) (hP : va_P D vwCl (XW cI cZ q (gS u 5 fl)) H) (hD : va_D A (XW cI cZ q (gS u 5 fl))) (hS : va_S A s.heap H locs) (hl : lv_has ls 3 [(0, .ref (q 2)), (1, .ref (q 8)), (2, .int (nI k))]) (hk : k + d = 100) (hr : itU (xKeepStep (u.1 4)) d k fl = (xKeep (u.1 4) (u.1 5))), W p l e rmX1_keepOnlyFiles_0 s m ([.ref (q 2), .ref (q 8)] : List Value).toArray below meth c H locs 0 0 Q (F0 m 2 ls []) := by
    intro d
    induction d with
    | zero =>
      intro k fl H locs ls hP hD hS hl hk hr
      refine lv_iload_n hx hb dX1_keepOnlyFiles_2 rfl (lv_at hl 2 rfl) ?_
      refine lv_bipush (v := 100) hx hb dX1_keepOnlyFiles_3 (by decide +kernel) ?_
      refine lv_icmp_ge (tgt := 46) hx hb dX1_keepOnlyFiles_5 (by decide) (fun c_5 => ?_) (fun c_5 => ?_)
      · have n_5 : 100 ≤ k := (g_leI (a := 100) (b := k) rfl rfl (by omega) (by omega)).mp c_5
        refine g_vret (u1 := (gS u 5 fl)) hx hb hret hlk hQ hP hD hS dX1_keepOnlyFiles_46 ?_ ?_
        · exact rfl
        · exact (by rw [← hr] <;> rfl)
      · have n_5 : ¬ 100 ≤ k := fun h => c_5 ((g_leI (a := 100) (b := k) rfl rfl (by omega) (by omega)).mpr h)
        exfalso; omega
    | succ d ih =>
      intro k fl H locs ls hP hD hS hl hk hr
      refine lv_iload_n hx hb dX1_keepOnlyFiles_2 rfl (lv_at hl 2 rfl) ?_
      refine lv_bipush (v := 100) hx hb dX1_keepOnlyFiles_3 (by decide +kernel) ?_
      refine lv_icmp_ge (tgt := 46) hx hb dX1_keepOnlyFiles_5 (by decide) (fun c_5 => ?_) (fun c_5 => ?_)
      · have n_5 : 100 ≤ k := (g_leI (a := 100) (b := k) rfl rfl (by omega) (by omega)).mp c_5
        exfalso; omega
      · have n_5 : ¬ 100 ≤ k := fun h => c_5 ((g_leI (a := 100) (b := k) rfl rfl (by omega) (by omega)).mpr h)
        refine lv_iload_n hx hb dX1_keepOnlyFiles_8 rfl (lv_at hl 2 rfl) ?_
        refine lv_aload_n hx hb dX1_keepOnlyFiles_9 rfl (lv_at hl 1 rfl) ?_
        refine va_alen (v := 100) (ty := .boolean) hx hb hK hP 8 rfl (t0 := 1) rfl rfl dX1_keepOnlyFiles_10 ?_
        refine lv_icmp_ge (tgt := 46) hx hb dX1_keepOnlyFiles_11 (by decide) (fun c_11 => ?_) (fun c_11 => ?_)
        · have n_11 : 100 ≤ k := (g_leI (a := 100) (b := k) rfl rfl (by omega) (by omega)).mp c_11
          exfalso; omega
        · have n_11 : ¬ 100 ≤ k := fun h => c_11 ((g_leI (a := 100) (b := k) rfl rfl (by omega) (by omega)).mpr h)
          refine lv_aload_n hx hb dX1_keepOnlyFiles_14 rfl (lv_at hl 0 rfl) ?_
          refine va_get (ci := 1) (v := .ref (q 9)) (C := RX1) (T := TX1) (N := 3) hx hb hts inX1_keepOnlyFiles_RX1 hown hK hP 2 rfl rfl 1 (by decide) (hts _ lkX1_keepOnlyFiles_9) (fun _ h9 => h9) rfl dX1_keepOnlyFiles_15 ?_
          refine lv_iload_n hx hb dX1_keepOnlyFiles_18 rfl (lv_at hl 2 rfl) ?_
          refine lv_aload_n hx hb dX1_keepOnlyFiles_19 rfl (lv_at hl 0 rfl) ?_
          refine va_get (ci := 1) (v := .ref (q 9)) (C := RX1) (T := TX1) (N := 3) hx hb hts inX1_keepOnlyFiles_RX1 hown hK hP 2 rfl rfl 1 (by decide) (hts _ lkX1_keepOnlyFiles_9) (fun _ h9 => h9) rfl dX1_keepOnlyFiles_20 ?_
          refine lv_iload_n hx hb dX1_keepOnlyFiles_23 rfl (lv_at hl 2 rfl) ?_
          refine g_zald (n := 100) (f := fl) hx hb hK hP 9 1 rfl rfl k (by omega) (by omega) rfl dX1_keepOnlyFiles_24 ?_
          refine lv_if_eq (tgt := 38) hx hb dX1_keepOnlyFiles_25 (by decide) (fun c_25 => ?_) (fun c_25 => ?_)
          · refine lv_iconst (v := 0) hx hb dX1_keepOnlyFiles_38 (by decide +kernel) ?_
            refine g_zast (n := 100) (f := fl) (u' := (gS u 5 (upd fl k 0))) hx hb hK hP hD hS 9 1 rfl rfl k (by omega) (by omega) rfl rfl rfl dX1_keepOnlyFiles_39 (fun H locs hP hD hS => ?_)
            refine lv_iinc (v := (nI (k + 1))) (lv' := [(2, .int (nI (k + 1))), (0, .ref (q 2)), (1, .ref (q 8))]) hx hb dX1_keepOnlyFiles_40 hl (k := 2) rfl (nI_1 _) (by decide) rfl (fun ls hl => ?_)
            refine lv_goto (tgt := 2) hx hb dX1_keepOnlyFiles_43 (by decide) ?_
            exact ih (k + 1) (upd fl k 0) _ _ _ hP hD hS (lv_sub hl [1, 2, 0] rfl) (by omega) (by rw [← hr]; show _ = itU _ d (k + 1) (xKeepStep _ k fl); rw [show xKeepStep (u.1 4) k fl = (upd fl k 0) from by simp only [xKeepStep, c_5, c_11, c_25, ↓reduceIte, not_true_eq_false, not_false_eq_true]])
          · refine lv_aload_n hx hb dX1_keepOnlyFiles_28 rfl (lv_at hl 1 rfl) ?_
            refine lv_iload_n hx hb dX1_keepOnlyFiles_29 rfl (lv_at hl 2 rfl) ?_
            refine g_zald (n := 100) (f := (u.1 4)) hx hb hK hP 8 1 rfl rfl k (by omega) (by omega) rfl dX1_keepOnlyFiles_30 ?_
            refine lv_if_eq (tgt := 38) hx hb dX1_keepOnlyFiles_31 (by decide) (fun c_31 => ?_) (fun c_31 => ?_)
            · refine lv_iconst (v := 0) hx hb dX1_keepOnlyFiles_38 (by decide +kernel) ?_
              refine g_zast (n := 100) (f := fl) (u' := (gS u 5 (upd fl k 0))) hx hb hK hP hD hS 9 1 rfl rfl k (by omega) (by omega) rfl rfl rfl dX1_keepOnlyFiles_39 (fun H locs hP hD hS => ?_)
              refine lv_iinc (v := (nI (k + 1))) (lv' := [(2, .int (nI (k + 1))), (0, .ref (q 2)), (1, .ref (q 8))]) hx hb dX1_keepOnlyFiles_40 hl (k := 2) rfl (nI_1 _) (by decide) rfl (fun ls hl => ?_)
              refine lv_goto (tgt := 2) hx hb dX1_keepOnlyFiles_43 (by decide) ?_
              exact ih (k + 1) (upd fl k 0) _ _ _ hP hD hS (lv_sub hl [1, 2, 0] rfl) (by omega) (by rw [← hr]; show _ = itU _ d (k + 1) (xKeepStep _ k fl); rw [show xKeepStep (u.1 4) k fl = (upd fl k 0) from by simp only [xKeepStep, c_5, c_11, c_25, c_31, ↓reduceIte, not_true_eq_false, not_false_eq_true]])
            · refine lv_iconst (v := 1) hx hb dX1_keepOnlyFiles_34 (by decide +kernel) ?_
              refine lv_goto (tgt := 39) hx hb dX1_keepOnlyFiles_35 (by decide) ?_
              refine g_zast (n := 100) (f := fl) (u' := (gS u 5 (upd fl k 1))) hx hb hK hP hD hS 9 1 rfl rfl k (by omega) (by omega) rfl rfl rfl dX1_keepOnlyFiles_39 (fun H locs hP hD hS => ?_)
              refine lv_iinc (v := (nI (k + 1))) (lv' := [(2, .int (nI (k + 1))), (0, .ref (q 2)), (1, .ref (q 8))]) hx hb dX1_keepOnlyFiles_40 hl (k := 2) rfl (nI_1 _) (by decide) rfl (fun ls hl => ?_)
              refine lv_goto (tgt := 2) hx hb dX1_keepOnlyFiles_43 (by decide) ?_
              exact ih (k + 1) (upd fl k 1) _ _ _ hP hD hS (lv_sub hl [1, 2, 0] rfl) (by omega) (by rw [← hr]; show _ = itU _ d (k + 1) (xKeepStep _ k fl); rw [show xKeepStep (u.1 4) k fl = (upd fl k 1) from by simp only [xKeepStep, c_5, c_11, c_25, c_31, ↓reduceIte, not_true_eq_false, not_false_eq_true]])
  exact loop 100 0 (u.1 5) _ _ _ hP hD hS (lv_sub hl [1, 2, 0] rfl) (by omega) rfl
abbrev rmX1_keepOnlyFiles_1 : Room := { frames := 0, cells := 0, slots := 0, locals := 0 }
set_option maxHeartbeats 4000000 in
set_option maxRecDepth 100000 in
theorem ctX1_keepOnlyFiles_1 (l : Launch) (D : va_G) (cI cZ : ClassId) (q : Nat → Nat) (u : SX)  : gM l yX1_keepOnlyFiles wsX1_keepOnlyFiles rmX1_keepOnlyFiles_1 D [(cI, .int), (cZ, .boolean)] (XW cI cZ q) XG [.ref (q 3), .ref (q 8)] u none (gS u 7 (xKeep (u.1 4) (u.1 7))) := by
  refine g_start (cc := cX1_keepOnlyFiles) (maxL := 3) (ret := none) (by decide) rfl (Nat.le_of_ble_eq_true rfl) ?_
  intro p e s m below meth c A ls Q hx hb hml hret hts hown hlk hE hP hK hD hA hl hQ hS
  have hown : s.vm.findClass RX1 = some m.cls := hown
  have hl : lv_has ls 3 [(0, .ref (q 3)), (1, .ref (q 8))] := hl
  refine lv_iconst (v := (nI 0)) hx hb dX1_keepOnlyFiles_0 (by decide +kernel) ?_
  refine lv_istore_n (lv' := [(2, .int (nI 0)), (0, .ref (q 3)), (1, .ref (q 8))]) hx hb dX1_keepOnlyFiles_1 rfl hl (by decide) rfl (fun ls hl => ?_)
  have loop : ∀ (d k : Nat) (fl : Nat → Int32) (H : Heap) (locs : List Loc) (ls : Array Slot) (hP : va_P D vwCl (XW cI cZ q (gS u 7 fl)) H) (hD : va_D A (XW cI cZ q (gS u 7 fl))) (hS : va_S A s.heap H locs) (hl : lv_has ls 3 [(0, .ref (q 3)), (1, .ref (q 8)), (2, .int (nI k))]) (hk : k + d = 100) (hr : itU (xKeepStep (u.1 4)) d k fl = (xKeep (u.1 4) (u.1 7))), W p l e rmX1_keepOnlyFiles_1 s m ([.ref (q 3), .ref (q 8)] : List Value).toArray below meth c H locs 0 0 Q (F0 m 2 ls []) := by
    intro d
    induction d with
    | zero =>
      intro k fl H locs ls hP hD hS hl hk hr
      refine lv_iload_n hx hb dX1_keepOnlyFiles_2 rfl (lv_at hl 2 rfl) ?_
      refine lv_bipush (v := 100) hx hb dX1_keepOnlyFiles_3 (by decide +kernel) ?_
      refine lv_icmp_ge (tgt := 46) hx hb dX1_keepOnlyFiles_5 (by decide) (fun c_5 => ?_) (fun c_5 => ?_)
      · have n_5 : 100 ≤ k := (g_leI (a := 100) (b := k) rfl rfl (by omega) (by omega)).mp c_5
        refine g_vret (u1 := (gS u 7 fl)) hx hb hret hlk hQ hP hD hS dX1_keepOnlyFiles_46 ?_ ?_
        · exact rfl
        · exact (by rw [← hr] <;> rfl)
      · have n_5 : ¬ 100 ≤ k := fun h => c_5 ((g_leI (a := 100) (b := k) rfl rfl (by omega) (by omega)).mpr h)
        exfalso; omega
    | succ d ih =>
      intro k fl H locs ls hP hD hS hl hk hr
      refine lv_iload_n hx hb dX1_keepOnlyFiles_2 rfl (lv_at hl 2 rfl) ?_
      refine lv_bipush (v := 100) hx hb dX1_keepOnlyFiles_3 (by decide +kernel) ?_
      refine lv_icmp_ge (tgt := 46) hx hb dX1_keepOnlyFiles_5 (by decide) (fun c_5 => ?_) (fun c_5 => ?_)
      · have n_5 : 100 ≤ k := (g_leI (a := 100) (b := k) rfl rfl (by omega) (by omega)).mp c_5
        exfalso; omega
      · have n_5 : ¬ 100 ≤ k := fun h => c_5 ((g_leI (a := 100) (b := k) rfl rfl (by omega) (by omega)).mpr h)
        refine lv_iload_n hx hb dX1_keepOnlyFiles_8 rfl (lv_at hl 2 rfl) ?_
        refine lv_aload_n hx hb dX1_keepOnlyFiles_9 rfl (lv_at hl 1 rfl) ?_
        refine va_alen (v := 100) (ty := .boolean) hx hb hK hP 8 rfl (t0 := 1) rfl rfl dX1_keepOnlyFiles_10 ?_
        refine lv_icmp_ge (tgt := 46) hx hb dX1_keepOnlyFiles_11 (by decide) (fun c_11 => ?_) (fun c_11 => ?_)
        · have n_11 : 100 ≤ k := (g_leI (a := 100) (b := k) rfl rfl (by omega) (by omega)).mp c_11
          exfalso; omega
        · have n_11 : ¬ 100 ≤ k := fun h => c_11 ((g_leI (a := 100) (b := k) rfl rfl (by omega) (by omega)).mpr h)
          refine lv_aload_n hx hb dX1_keepOnlyFiles_14 rfl (lv_at hl 0 rfl) ?_
          refine va_get (ci := 1) (v := .ref (q 11)) (C := RX1) (T := TX1) (N := 3) hx hb hts inX1_keepOnlyFiles_RX1 hown hK hP 3 rfl rfl 1 (by decide) (hts _ lkX1_keepOnlyFiles_9) (fun _ h9 => h9) rfl dX1_keepOnlyFiles_15 ?_
          refine lv_iload_n hx hb dX1_keepOnlyFiles_18 rfl (lv_at hl 2 rfl) ?_
          refine lv_aload_n hx hb dX1_keepOnlyFiles_19 rfl (lv_at hl 0 rfl) ?_
          refine va_get (ci := 1) (v := .ref (q 11)) (C := RX1) (T := TX1) (N := 3) hx hb hts inX1_keepOnlyFiles_RX1 hown hK hP 3 rfl rfl 1 (by decide) (hts _ lkX1_keepOnlyFiles_9) (fun _ h9 => h9) rfl dX1_keepOnlyFiles_20 ?_
          refine lv_iload_n hx hb dX1_keepOnlyFiles_23 rfl (lv_at hl 2 rfl) ?_
          refine g_zald (n := 100) (f := fl) hx hb hK hP 11 1 rfl rfl k (by omega) (by omega) rfl dX1_keepOnlyFiles_24 ?_
          refine lv_if_eq (tgt := 38) hx hb dX1_keepOnlyFiles_25 (by decide) (fun c_25 => ?_) (fun c_25 => ?_)
          · refine lv_iconst (v := 0) hx hb dX1_keepOnlyFiles_38 (by decide +kernel) ?_
            refine g_zast (n := 100) (f := fl) (u' := (gS u 7 (upd fl k 0))) hx hb hK hP hD hS 11 1 rfl rfl k (by omega) (by omega) rfl rfl rfl dX1_keepOnlyFiles_39 (fun H locs hP hD hS => ?_)
            refine lv_iinc (v := (nI (k + 1))) (lv' := [(2, .int (nI (k + 1))), (0, .ref (q 3)), (1, .ref (q 8))]) hx hb dX1_keepOnlyFiles_40 hl (k := 2) rfl (nI_1 _) (by decide) rfl (fun ls hl => ?_)
            refine lv_goto (tgt := 2) hx hb dX1_keepOnlyFiles_43 (by decide) ?_
            exact ih (k + 1) (upd fl k 0) _ _ _ hP hD hS (lv_sub hl [1, 2, 0] rfl) (by omega) (by rw [← hr]; show _ = itU _ d (k + 1) (xKeepStep _ k fl); rw [show xKeepStep (u.1 4) k fl = (upd fl k 0) from by simp only [xKeepStep, c_5, c_11, c_25, ↓reduceIte, not_true_eq_false, not_false_eq_true]])
          · refine lv_aload_n hx hb dX1_keepOnlyFiles_28 rfl (lv_at hl 1 rfl) ?_
            refine lv_iload_n hx hb dX1_keepOnlyFiles_29 rfl (lv_at hl 2 rfl) ?_
            refine g_zald (n := 100) (f := (u.1 4)) hx hb hK hP 8 1 rfl rfl k (by omega) (by omega) rfl dX1_keepOnlyFiles_30 ?_
            refine lv_if_eq (tgt := 38) hx hb dX1_keepOnlyFiles_31 (by decide) (fun c_31 => ?_) (fun c_31 => ?_)
            · refine lv_iconst (v := 0) hx hb dX1_keepOnlyFiles_38 (by decide +kernel) ?_
              refine g_zast (n := 100) (f := fl) (u' := (gS u 7 (upd fl k 0))) hx hb hK hP hD hS 11 1 rfl rfl k (by omega) (by omega) rfl rfl rfl dX1_keepOnlyFiles_39 (fun H locs hP hD hS => ?_)
              refine lv_iinc (v := (nI (k + 1))) (lv' := [(2, .int (nI (k + 1))), (0, .ref (q 3)), (1, .ref (q 8))]) hx hb dX1_keepOnlyFiles_40 hl (k := 2) rfl (nI_1 _) (by decide) rfl (fun ls hl => ?_)
              refine lv_goto (tgt := 2) hx hb dX1_keepOnlyFiles_43 (by decide) ?_
              exact ih (k + 1) (upd fl k 0) _ _ _ hP hD hS (lv_sub hl [1, 2, 0] rfl) (by omega) (by rw [← hr]; show _ = itU _ d (k + 1) (xKeepStep _ k fl); rw [show xKeepStep (u.1 4) k fl = (upd fl k 0) from by simp only [xKeepStep, c_5, c_11, c_25, c_31, ↓reduceIte, not_true_eq_false, not_false_eq_true]])
            · refine lv_iconst (v := 1) hx hb dX1_keepOnlyFiles_34 (by decide +kernel) ?_
              refine lv_goto (tgt := 39) hx hb dX1_keepOnlyFiles_35 (by decide) ?_
              refine g_zast (n := 100) (f := fl) (u' := (gS u 7 (upd fl k 1))) hx hb hK hP hD hS 11 1 rfl rfl k (by omega) (by omega) rfl rfl rfl dX1_keepOnlyFiles_39 (fun H locs hP hD hS => ?_)
              refine lv_iinc (v := (nI (k + 1))) (lv' := [(2, .int (nI (k + 1))), (0, .ref (q 3)), (1, .ref (q 8))]) hx hb dX1_keepOnlyFiles_40 hl (k := 2) rfl (nI_1 _) (by decide) rfl (fun ls hl => ?_)
              refine lv_goto (tgt := 2) hx hb dX1_keepOnlyFiles_43 (by decide) ?_
              exact ih (k + 1) (upd fl k 1) _ _ _ hP hD hS (lv_sub hl [1, 2, 0] rfl) (by omega) (by rw [← hr]; show _ = itU _ d (k + 1) (xKeepStep _ k fl); rw [show xKeepStep (u.1 4) k fl = (upd fl k 1) from by simp only [xKeepStep, c_5, c_11, c_25, c_31, ↓reduceIte, not_true_eq_false, not_false_eq_true]])
  exact loop 100 0 (u.1 7) _ _ _ hP hD hS (lv_sub hl [1, 2, 0] rfl) (by omega) rfl
theorem lkX1_countLacking_9 : Cond.fieldLink RX1 9 "FetchHouse$Store" "heldFiles" "[Z" ∈ wsX1_countLacking := List.mem_of_getElem? (i := 1) (by decide +kernel)
theorem inX1_countLacking_RX1 : ∀ w ∈ u_ws RX1 TX1 3, w ∈ wsX1_countLacking := fun w h => List.mem_cons_of_mem _ (List.mem_append_right _ h)
abbrev rmX1_countLacking_0 : Room := { frames := 0, cells := 0, slots := 0, locals := 0 }
set_option maxHeartbeats 4000000 in
set_option maxRecDepth 100000 in
theorem ctX1_countLacking_0 (l : Launch) (D : va_G) (cI cZ : ClassId) (q : Nat → Nat) (u : SX)  : gM l yX1_countLacking wsX1_countLacking rmX1_countLacking_0 D [(cI, .int), (cZ, .boolean)] (XW cI cZ q) XG [.ref (q 2), .ref (q 8)] u (some (.int (xLack (u.1 4) (u.1 5)))) u := by
  refine g_start (cc := cX1_countLacking) (maxL := 4) (ret := (some .int)) (by decide) rfl (Nat.le_of_ble_eq_true rfl) ?_
  intro p e s m below meth c A ls Q hx hb hml hret hts hown hlk hE hP hK hD hA hl hQ hS
  have hown : s.vm.findClass RX1 = some m.cls := hown
  have hl : lv_has ls 4 [(0, .ref (q 2)), (1, .ref (q 8))] := hl
  refine lv_iconst (v := 0) hx hb dX1_countLacking_0 (by decide +kernel) ?_
  refine lv_istore_n (lv' := [(2, .int 0), (0, .ref (q 2)), (1, .ref (q 8))]) hx hb dX1_countLacking_1 rfl hl (by decide) rfl (fun ls hl => ?_)
  refine lv_iconst (v := (nI 0)) hx hb dX1_countLacking_2 (by decide +kernel) ?_
  refine lv_istore_n (lv' := [(3, .int (nI 0)), (2, .int 0), (0, .ref (q 2)), (1, .ref (q 8))]) hx hb dX1_countLacking_3 rfl hl (by decide) rfl (fun ls hl => ?_)
  have loop : ∀ (d k : Nat) (t : Int32) (H : Heap) (locs : List Loc) (ls : Array Slot) (hP : va_P D vwCl (XW cI cZ q u) H) (hD : va_D A (XW cI cZ q u)) (hS : va_S A s.heap H locs) (hl : lv_has ls 4 [(0, .ref (q 2)), (1, .ref (q 8)), (2, .int t), (3, .int (nI k))]) (hk : k + d = 100) (hr : itU (xLackStep (u.1 4) (u.1 5)) d k t = (xLack (u.1 4) (u.1 5))), W p l e rmX1_countLacking_0 s m ([.ref (q 2), .ref (q 8)] : List Value).toArray below meth c H locs 0 0 Q (F0 m 4 ls []) := by
    intro d
    induction d with
    | zero =>
      intro k t H locs ls hP hD hS hl hk hr
      refine lv_iload_n hx hb dX1_countLacking_4 rfl (lv_at hl 3 rfl) ?_
      refine lv_bipush (v := 100) hx hb dX1_countLacking_5 (by decide +kernel) ?_
      refine lv_icmp_ge (tgt := 40) hx hb dX1_countLacking_7 (by decide) (fun c_7 => ?_) (fun c_7 => ?_)
      · have n_7 : 100 ≤ k := (g_leI (a := 100) (b := k) rfl rfl (by omega) (by omega)).mp c_7
        refine lv_iload_n hx hb dX1_countLacking_40 rfl (lv_at hl 2 rfl) ?_
        refine g_iret (u1 := u) hx hb hret hlk hQ hP hD hS dX1_countLacking_41 ?_ ?_
        · exact (by rw [← hr] <;> rfl)
        · exact rfl
      · have n_7 : ¬ 100 ≤ k := fun h => c_7 ((g_leI (a := 100) (b := k) rfl rfl (by omega) (by omega)).mpr h)
        exfalso; omega
    | succ d ih =>
      intro k t H locs ls hP hD hS hl hk hr
      refine lv_iload_n hx hb dX1_countLacking_4 rfl (lv_at hl 3 rfl) ?_
      refine lv_bipush (v := 100) hx hb dX1_countLacking_5 (by decide +kernel) ?_
      refine lv_icmp_ge (tgt := 40) hx hb dX1_countLacking_7 (by decide) (fun c_7 => ?_) (fun c_7 => ?_)
      · have n_7 : 100 ≤ k := (g_leI (a := 100) (b := k) rfl rfl (by omega) (by omega)).mp c_7
        exfalso; omega
      · have n_7 : ¬ 100 ≤ k := fun h => c_7 ((g_leI (a := 100) (b := k) rfl rfl (by omega) (by omega)).mpr h)
        refine lv_iload_n hx hb dX1_countLacking_10 rfl (lv_at hl 3 rfl) ?_
        refine lv_aload_n hx hb dX1_countLacking_11 rfl (lv_at hl 1 rfl) ?_
        refine va_alen (v := 100) (ty := .boolean) hx hb hK hP 8 rfl (t0 := 1) rfl rfl dX1_countLacking_12 ?_
        refine lv_icmp_ge (tgt := 40) hx hb dX1_countLacking_13 (by decide) (fun c_13 => ?_) (fun c_13 => ?_)
        · have n_13 : 100 ≤ k := (g_leI (a := 100) (b := k) rfl rfl (by omega) (by omega)).mp c_13
          exfalso; omega
        · have n_13 : ¬ 100 ≤ k := fun h => c_13 ((g_leI (a := 100) (b := k) rfl rfl (by omega) (by omega)).mpr h)
          refine lv_aload_n hx hb dX1_countLacking_16 rfl (lv_at hl 1 rfl) ?_
          refine lv_iload_n hx hb dX1_countLacking_17 rfl (lv_at hl 3 rfl) ?_
          refine g_zald (n := 100) (f := (u.1 4)) hx hb hK hP 8 1 rfl rfl k (by omega) (by omega) rfl dX1_countLacking_18 ?_
          refine lv_if_eq (tgt := 34) hx hb dX1_countLacking_19 (by decide) (fun c_19 => ?_) (fun c_19 => ?_)
          · refine lv_iinc (v := (nI (k + 1))) (lv' := [(3, .int (nI (k + 1))), (0, .ref (q 2)), (1, .ref (q 8)), (2, .int t)]) hx hb dX1_countLacking_34 hl (k := 3) rfl (nI_1 _) (by decide) rfl (fun ls hl => ?_)
            refine lv_goto (tgt := 4) hx hb dX1_countLacking_37 (by decide) ?_
            exact ih (k + 1) t _ _ _ hP hD hS (lv_sub hl [1, 2, 3, 0] rfl) (by omega) (by rw [← hr]; show _ = itU _ d (k + 1) (xLackStep _ _ k t); rw [show xLackStep (u.1 4) (u.1 5) k t = t from by simp only [xLackStep, c_7, c_13, c_19, ↓reduceIte, not_true_eq_false, not_false_eq_true]])
          · refine lv_aload_n hx hb dX1_countLacking_22 rfl (lv_at hl 0 rfl) ?_
            refine va_get (ci := 1) (v := .ref (q 9)) (C := RX1) (T := TX1) (N := 3) hx hb hts inX1_countLacking_RX1 hown hK hP 2 rfl rfl 1 (by decide) (hts _ lkX1_countLacking_9) (fun _ h9 => h9) rfl dX1_countLacking_23 ?_
            refine lv_iload_n hx hb dX1_countLacking_26 rfl (lv_at hl 3 rfl) ?_
            refine g_zald (n := 100) (f := (u.1 5)) hx hb hK hP 9 1 rfl rfl k (by omega) (by omega) rfl dX1_countLacking_27 ?_
            refine lv_if_ne (tgt := 34) hx hb dX1_countLacking_28 (by decide) (fun c_28 => ?_) (fun c_28 => ?_)
            · refine lv_iinc (v := (nI (k + 1))) (lv' := [(3, .int (nI (k + 1))), (0, .ref (q 2)), (1, .ref (q 8)), (2, .int t)]) hx hb dX1_countLacking_34 hl (k := 3) rfl (nI_1 _) (by decide) rfl (fun ls hl => ?_)
              refine lv_goto (tgt := 4) hx hb dX1_countLacking_37 (by decide) ?_
              exact ih (k + 1) t _ _ _ hP hD hS (lv_sub hl [1, 2, 3, 0] rfl) (by omega) (by rw [← hr]; show _ = itU _ d (k + 1) (xLackStep _ _ k t); rw [show xLackStep (u.1 4) (u.1 5) k t = t from by simp only [xLackStep, c_7, c_13, c_19, c_28, ↓reduceIte, not_true_eq_false, not_false_eq_true]])
            · refine lv_iinc (v := (t + 1)) (lv' := [(2, .int (t + 1)), (0, .ref (q 2)), (1, .ref (q 8)), (3, .int (nI k))]) hx hb dX1_countLacking_31 hl (k := 2) rfl rfl (by decide) rfl (fun ls hl => ?_)
              refine lv_iinc (v := (nI (k + 1))) (lv' := [(3, .int (nI (k + 1))), (2, .int (t + 1)), (0, .ref (q 2)), (1, .ref (q 8))]) hx hb dX1_countLacking_34 hl (k := 3) rfl (nI_1 _) (by decide) rfl (fun ls hl => ?_)
              refine lv_goto (tgt := 4) hx hb dX1_countLacking_37 (by decide) ?_
              exact ih (k + 1) (t + 1) _ _ _ hP hD hS (lv_sub hl [2, 3, 1, 0] rfl) (by omega) (by rw [← hr]; show _ = itU _ d (k + 1) (xLackStep _ _ k t); rw [show xLackStep (u.1 4) (u.1 5) k t = (t + 1) from by simp only [xLackStep, c_7, c_13, c_19, c_28, ↓reduceIte, not_true_eq_false, not_false_eq_true]])
  exact loop 100 0 0 _ _ _ hP hD hS (lv_sub hl [2, 3, 1, 0] rfl) (by omega) rfl
abbrev rmX1_countLacking_1 : Room := { frames := 0, cells := 0, slots := 0, locals := 0 }
set_option maxHeartbeats 4000000 in
set_option maxRecDepth 100000 in
theorem ctX1_countLacking_1 (l : Launch) (D : va_G) (cI cZ : ClassId) (q : Nat → Nat) (u : SX)  : gM l yX1_countLacking wsX1_countLacking rmX1_countLacking_1 D [(cI, .int), (cZ, .boolean)] (XW cI cZ q) XG [.ref (q 3), .ref (q 8)] u (some (.int (xLack (u.1 4) (u.1 7)))) u := by
  refine g_start (cc := cX1_countLacking) (maxL := 4) (ret := (some .int)) (by decide) rfl (Nat.le_of_ble_eq_true rfl) ?_
  intro p e s m below meth c A ls Q hx hb hml hret hts hown hlk hE hP hK hD hA hl hQ hS
  have hown : s.vm.findClass RX1 = some m.cls := hown
  have hl : lv_has ls 4 [(0, .ref (q 3)), (1, .ref (q 8))] := hl
  refine lv_iconst (v := 0) hx hb dX1_countLacking_0 (by decide +kernel) ?_
  refine lv_istore_n (lv' := [(2, .int 0), (0, .ref (q 3)), (1, .ref (q 8))]) hx hb dX1_countLacking_1 rfl hl (by decide) rfl (fun ls hl => ?_)
  refine lv_iconst (v := (nI 0)) hx hb dX1_countLacking_2 (by decide +kernel) ?_
  refine lv_istore_n (lv' := [(3, .int (nI 0)), (2, .int 0), (0, .ref (q 3)), (1, .ref (q 8))]) hx hb dX1_countLacking_3 rfl hl (by decide) rfl (fun ls hl => ?_)
  have loop : ∀ (d k : Nat) (t : Int32) (H : Heap) (locs : List Loc) (ls : Array Slot) (hP : va_P D vwCl (XW cI cZ q u) H) (hD : va_D A (XW cI cZ q u)) (hS : va_S A s.heap H locs) (hl : lv_has ls 4 [(0, .ref (q 3)), (1, .ref (q 8)), (2, .int t), (3, .int (nI k))]) (hk : k + d = 100) (hr : itU (xLackStep (u.1 4) (u.1 7)) d k t = (xLack (u.1 4) (u.1 7))), W p l e rmX1_countLacking_1 s m ([.ref (q 3), .ref (q 8)] : List Value).toArray below meth c H locs 0 0 Q (F0 m 4 ls []) := by
    intro d
    induction d with
    | zero =>
      intro k t H locs ls hP hD hS hl hk hr
      refine lv_iload_n hx hb dX1_countLacking_4 rfl (lv_at hl 3 rfl) ?_
      refine lv_bipush (v := 100) hx hb dX1_countLacking_5 (by decide +kernel) ?_
      refine lv_icmp_ge (tgt := 40) hx hb dX1_countLacking_7 (by decide) (fun c_7 => ?_) (fun c_7 => ?_)
      · have n_7 : 100 ≤ k := (g_leI (a := 100) (b := k) rfl rfl (by omega) (by omega)).mp c_7
        refine lv_iload_n hx hb dX1_countLacking_40 rfl (lv_at hl 2 rfl) ?_
        refine g_iret (u1 := u) hx hb hret hlk hQ hP hD hS dX1_countLacking_41 ?_ ?_
        · exact (by rw [← hr] <;> rfl)
        · exact rfl
      · have n_7 : ¬ 100 ≤ k := fun h => c_7 ((g_leI (a := 100) (b := k) rfl rfl (by omega) (by omega)).mpr h)
        exfalso; omega
    | succ d ih =>
      intro k t H locs ls hP hD hS hl hk hr
      refine lv_iload_n hx hb dX1_countLacking_4 rfl (lv_at hl 3 rfl) ?_
      refine lv_bipush (v := 100) hx hb dX1_countLacking_5 (by decide +kernel) ?_
      refine lv_icmp_ge (tgt := 40) hx hb dX1_countLacking_7 (by decide) (fun c_7 => ?_) (fun c_7 => ?_)
      · have n_7 : 100 ≤ k := (g_leI (a := 100) (b := k) rfl rfl (by omega) (by omega)).mp c_7
        exfalso; omega
      · have n_7 : ¬ 100 ≤ k := fun h => c_7 ((g_leI (a := 100) (b := k) rfl rfl (by omega) (by omega)).mpr h)
        refine lv_iload_n hx hb dX1_countLacking_10 rfl (lv_at hl 3 rfl) ?_
        refine lv_aload_n hx hb dX1_countLacking_11 rfl (lv_at hl 1 rfl) ?_
        refine va_alen (v := 100) (ty := .boolean) hx hb hK hP 8 rfl (t0 := 1) rfl rfl dX1_countLacking_12 ?_
        refine lv_icmp_ge (tgt := 40) hx hb dX1_countLacking_13 (by decide) (fun c_13 => ?_) (fun c_13 => ?_)
        · have n_13 : 100 ≤ k := (g_leI (a := 100) (b := k) rfl rfl (by omega) (by omega)).mp c_13
          exfalso; omega
        · have n_13 : ¬ 100 ≤ k := fun h => c_13 ((g_leI (a := 100) (b := k) rfl rfl (by omega) (by omega)).mpr h)
          refine lv_aload_n hx hb dX1_countLacking_16 rfl (lv_at hl 1 rfl) ?_
          refine lv_iload_n hx hb dX1_countLacking_17 rfl (lv_at hl 3 rfl) ?_
          refine g_zald (n := 100) (f := (u.1 4)) hx hb hK hP 8 1 rfl rfl k (by omega) (by omega) rfl dX1_countLacking_18 ?_
          refine lv_if_eq (tgt := 34) hx hb dX1_countLacking_19 (by decide) (fun c_19 => ?_) (fun c_19 => ?_)
          · refine lv_iinc (v := (nI (k + 1))) (lv' := [(3, .int (nI (k + 1))), (0, .ref (q 3)), (1, .ref (q 8)), (2, .int t)]) hx hb dX1_countLacking_34 hl (k := 3) rfl (nI_1 _) (by decide) rfl (fun ls hl => ?_)
            refine lv_goto (tgt := 4) hx hb dX1_countLacking_37 (by decide) ?_
            exact ih (k + 1) t _ _ _ hP hD hS (lv_sub hl [1, 2, 3, 0] rfl) (by omega) (by rw [← hr]; show _ = itU _ d (k + 1) (xLackStep _ _ k t); rw [show xLackStep (u.1 4) (u.1 7) k t = t from by simp only [xLackStep, c_7, c_13, c_19, ↓reduceIte, not_true_eq_false, not_false_eq_true]])
          · refine lv_aload_n hx hb dX1_countLacking_22 rfl (lv_at hl 0 rfl) ?_
            refine va_get (ci := 1) (v := .ref (q 11)) (C := RX1) (T := TX1) (N := 3) hx hb hts inX1_countLacking_RX1 hown hK hP 3 rfl rfl 1 (by decide) (hts _ lkX1_countLacking_9) (fun _ h9 => h9) rfl dX1_countLacking_23 ?_
            refine lv_iload_n hx hb dX1_countLacking_26 rfl (lv_at hl 3 rfl) ?_
            refine g_zald (n := 100) (f := (u.1 7)) hx hb hK hP 11 1 rfl rfl k (by omega) (by omega) rfl dX1_countLacking_27 ?_
            refine lv_if_ne (tgt := 34) hx hb dX1_countLacking_28 (by decide) (fun c_28 => ?_) (fun c_28 => ?_)
            · refine lv_iinc (v := (nI (k + 1))) (lv' := [(3, .int (nI (k + 1))), (0, .ref (q 3)), (1, .ref (q 8)), (2, .int t)]) hx hb dX1_countLacking_34 hl (k := 3) rfl (nI_1 _) (by decide) rfl (fun ls hl => ?_)
              refine lv_goto (tgt := 4) hx hb dX1_countLacking_37 (by decide) ?_
              exact ih (k + 1) t _ _ _ hP hD hS (lv_sub hl [1, 2, 3, 0] rfl) (by omega) (by rw [← hr]; show _ = itU _ d (k + 1) (xLackStep _ _ k t); rw [show xLackStep (u.1 4) (u.1 7) k t = t from by simp only [xLackStep, c_7, c_13, c_19, c_28, ↓reduceIte, not_true_eq_false, not_false_eq_true]])
            · refine lv_iinc (v := (t + 1)) (lv' := [(2, .int (t + 1)), (0, .ref (q 3)), (1, .ref (q 8)), (3, .int (nI k))]) hx hb dX1_countLacking_31 hl (k := 2) rfl rfl (by decide) rfl (fun ls hl => ?_)
              refine lv_iinc (v := (nI (k + 1))) (lv' := [(3, .int (nI (k + 1))), (2, .int (t + 1)), (0, .ref (q 3)), (1, .ref (q 8))]) hx hb dX1_countLacking_34 hl (k := 3) rfl (nI_1 _) (by decide) rfl (fun ls hl => ?_)
              refine lv_goto (tgt := 4) hx hb dX1_countLacking_37 (by decide) ?_
              exact ih (k + 1) (t + 1) _ _ _ hP hD hS (lv_sub hl [2, 3, 1, 0] rfl) (by omega) (by rw [← hr]; show _ = itU _ d (k + 1) (xLackStep _ _ k t); rw [show xLackStep (u.1 4) (u.1 7) k t = (t + 1) from by simp only [xLackStep, c_7, c_13, c_19, c_28, ↓reduceIte, not_true_eq_false, not_false_eq_true]])
  exact loop 100 0 0 _ _ _ hP hD hS (lv_sub hl [2, 3, 1, 0] rfl) (by omega) rfl
