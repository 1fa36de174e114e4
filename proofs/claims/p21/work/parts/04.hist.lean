def xShStep (n : Nat) (fp sp : Nat → Int32) (held : Int64) (k : Nat) (sh : Int64) : Int64 := if xCon held (nI k) = 0 then sh else if (xPar n fp sp (nI k) &&& (held ^^^ (-1))) = 0 then sh else sh ||| xSet (nI k)
def xShallow (n : Nat) (fp sp : Nat → Int32) (held : Int64) : Int64 := itU (xShStep n fp sp held) n 0 0
def xAncStep (n : Nat) (fp sp : Nat → Int32) (uf : Int64) (k : Nat) (fd : Int64) : Int64 := if xCon (fd &&& (uf ^^^ (-1))) (nI k) = 0 then fd else fd ||| xPar n fp sp (nI k)
def xAnc (n : Nat) (fp sp : Nat → Int32) (starts held : Int64) : Int64 := itD (xAncStep n fp sp (xShallow n fp sp held)) n (starts &&& held)
def xFindStep (n : Nat) (sf : Nat → Int32) (c : Int32) (k : Nat) (ff : Nat → Int32) : Nat → Int32 := if xRange (xFileIn n sf c (nI k)) 100 = 0 then ff else upd ff (xFileIn n sf c (nI k)).toNatClampNeg 1
def xFind (n : Nat) (sf : Nat → Int32) (c : Int32) (ff : Nat → Int32) : Nat → Int32 := itU (xFindStep n sf c) 4 0 ff
def xClrStep (k : Nat) (ff : Nat → Int32) : Nat → Int32 := upd ff k 0
def xClr (ff : Nat → Int32) : Nat → Int32 := itU xClrStep 100 0 ff
def xFilesStep (n : Nat) (sf : Nat → Int32) (cs : Int64) (k : Nat) (ff : Nat → Int32) : Nat → Int32 := if xCon cs (nI k) = 0 then ff else xFind n sf (nI k) ff
def xFiles (n : Nat) (sf : Nat → Int32) (cs : Int64) (ff : Nat → Int32) : Nat → Int32 := itU (xFilesStep n sf cs) n 0 (xClr ff)
def xSlotStep (n : Nat) (first slot file : Int32) (k : Nat) (sf : Nat → Int32) : Nat → Int32 := if nI k = slot then upd sf ((n * 4) + k) file else upd sf ((n * 4) + k) (xFileIn n sf first (nI k))
def xSlots (n : Nat) (first slot file : Int32) (sf : Nat → Int32) : Nat → Int32 := itU (xSlotStep n first slot file) 4 0 sf
def xFill (v : Int32) (f : Nat → Int32) : Nat → Int32 := itU (fun k f => upd f k v) 60 0 f
def xCome (n : Nat) (fs : Nat → Int32) (c s : Int32) : Nat → Int32 := if xRange c (nI n) = 0 then fs else if fs c.toNatClampNeg ≤ s then fs else upd fs c.toNatClampNeg s
def xFar (depth : Int32) : Int32 := if depth = 0 then 60 else depth
def xReachStep (n : Nat) (fp sp : Nat → Int32) (tf : Int32) (k : Nat) (z : Int64 × (Nat → Int32)) : Int64 × (Nat → Int32) := if tf ≤ z.2 k then z else (z.1 ||| xSet (nI k), xCome n (xCome n z.2 (fp k) (z.2 k + 1)) (sp k) (z.2 k + 1))
def xReach (n : Nat) (fp sp fs : Nat → Int32) (start depth : Int32) : Int64 × (Nat → Int32) := if xRange start (nI n) = 0 then (0, fs) else itD (xReachStep n fp sp (xFar depth)) (start.toNatClampNeg + 1) (0, upd (xFill (xFar depth) fs) start.toNatClampNeg 0)
abbrev rmX2_isSlot : Room := { frames := 0, cells := 0, slots := 0, locals := 0 }
set_option maxHeartbeats 4000000 in
set_option maxRecDepth 100000 in
theorem ctX2_isSlot (l : Launch) (D : va_G) (cI cZ : ClassId) (q : Nat → Nat) (p0 : Int32) : gM l yX2_isSlot wsX2_isSlot rmX2_isSlot D [(cI, .int), (cZ, .boolean)] w0 (fun _ => True) [.int p0] () (some (.int (xRange p0 4))) () := by
  refine g_start (cc := cX2_isSlot) (maxL := 1) (ret := (some .boolean)) (by decide) rfl (Nat.le_of_ble_eq_true rfl) ?_
  intro p e s m below meth c A ls Q hx hb hml hret hts hown hlk hE hP hK hD hA hl hQ hS
  have hown : s.vm.findClass RX2 = some m.cls := hown
  have hl : lv_has ls 1 [(0, .int p0)] := hl
  refine lv_iload_n hx hb dX2_isSlot_0 rfl (lv_at hl 0 rfl) ?_
  refine lv_if_lt (tgt := 13) hx hb dX2_isSlot_1 (by decide) (fun c_1 => ?_) (fun c_1 => ?_)
  · refine lv_iconst (v := 0) hx hb dX2_isSlot_13 (by decide +kernel) ?_
    refine g_zret hx hb hret hlk hQ hP hD hS dX2_isSlot_14 ?_ ?_ ?_
    · exact rfl
    · exact by simp only [xRange, c_1, ↓reduceIte, not_true_eq_false, not_false_eq_true]
    · exact rfl
  · refine lv_iload_n hx hb dX2_isSlot_4 rfl (lv_at hl 0 rfl) ?_
    refine lv_iconst (v := 4) hx hb dX2_isSlot_5 (by decide +kernel) ?_
    refine lv_icmp_ge (tgt := 13) hx hb dX2_isSlot_6 (by decide) (fun c_6 => ?_) (fun c_6 => ?_)
    · refine lv_iconst (v := 0) hx hb dX2_isSlot_13 (by decide +kernel) ?_
      refine g_zret hx hb hret hlk hQ hP hD hS dX2_isSlot_14 ?_ ?_ ?_
      · exact rfl
      · exact by simp only [xRange, c_1, c_6, ↓reduceIte, not_true_eq_false, not_false_eq_true]
      · exact rfl
    · refine lv_iconst (v := 1) hx hb dX2_isSlot_9 (by decide +kernel) ?_
      refine lv_goto (tgt := 14) hx hb dX2_isSlot_10 (by decide) ?_
      refine g_zret hx hb hret hlk hQ hP hD hS dX2_isSlot_14 ?_ ?_ ?_
      · exact rfl
      · exact by simp only [xRange, c_1, c_6, ↓reduceIte, not_true_eq_false, not_false_eq_true]
      · exact rfl
abbrev rmX2_isRef : Room := { frames := 0, cells := 0, slots := 0, locals := 0 }
set_option maxHeartbeats 4000000 in
set_option maxRecDepth 100000 in
theorem ctX2_isRef (l : Launch) (D : va_G) (cI cZ : ClassId) (q : Nat → Nat) (p0 : Int32) : gM l yX2_isRef wsX2_isRef rmX2_isRef D [(cI, .int), (cZ, .boolean)] w0 (fun _ => True) [.int p0] () (some (.int (xRange p0 4))) () := by
  refine g_start (cc := cX2_isRef) (maxL := 1) (ret := (some .boolean)) (by decide) rfl (Nat.le_of_ble_eq_true rfl) ?_
  intro p e s m below meth c A ls Q hx hb hml hret hts hown hlk hE hP hK hD hA hl hQ hS
  have hown : s.vm.findClass RX2 = some m.cls := hown
  have hl : lv_has ls 1 [(0, .int p0)] := hl
  refine lv_iload_n hx hb dX2_isRef_0 rfl (lv_at hl 0 rfl) ?_
  refine lv_if_lt (tgt := 13) hx hb dX2_isRef_1 (by decide) (fun c_1 => ?_) (fun c_1 => ?_)
  · refine lv_iconst (v := 0) hx hb dX2_isRef_13 (by decide +kernel) ?_
    refine g_zret hx hb hret hlk hQ hP hD hS dX2_isRef_14 ?_ ?_ ?_
    · exact rfl
    · exact by simp only [xRange, c_1, ↓reduceIte, not_true_eq_false, not_false_eq_true]
    · exact rfl
  · refine lv_iload_n hx hb dX2_isRef_4 rfl (lv_at hl 0 rfl) ?_
    refine lv_iconst (v := 4) hx hb dX2_isRef_5 (by decide +kernel) ?_
    refine lv_icmp_ge (tgt := 13) hx hb dX2_isRef_6 (by decide) (fun c_6 => ?_) (fun c_6 => ?_)
    · refine lv_iconst (v := 0) hx hb dX2_isRef_13 (by decide +kernel) ?_
      refine g_zret hx hb hret hlk hQ hP hD hS dX2_isRef_14 ?_ ?_ ?_
      · exact rfl
      · exact by simp only [xRange, c_1, c_6, ↓reduceIte, not_true_eq_false, not_false_eq_true]
      · exact rfl
    · refine lv_iconst (v := 1) hx hb dX2_isRef_9 (by decide +kernel) ?_
      refine lv_goto (tgt := 14) hx hb dX2_isRef_10 (by decide) ?_
      refine g_zret hx hb hret hlk hQ hP hD hS dX2_isRef_14 ?_ ?_ ?_
      · exact rfl
      · exact by simp only [xRange, c_1, c_6, ↓reduceIte, not_true_eq_false, not_false_eq_true]
      · exact rfl
abbrev rmX2_isFile : Room := { frames := 0, cells := 0, slots := 0, locals := 0 }
set_option maxHeartbeats 4000000 in
set_option maxRecDepth 100000 in
theorem ctX2_isFile (l : Launch) (D : va_G) (cI cZ : ClassId) (q : Nat → Nat) (p0 : Int32) : gM l yX2_isFile wsX2_isFile rmX2_isFile D [(cI, .int), (cZ, .boolean)] w0 (fun _ => True) [.int p0] () (some (.int (xRange p0 100))) () := by
  refine g_start (cc := cX2_isFile) (maxL := 1) (ret := (some .boolean)) (by decide) rfl (Nat.le_of_ble_eq_true rfl) ?_
  intro p e s m below meth c A ls Q hx hb hml hret hts hown hlk hE hP hK hD hA hl hQ hS
  have hown : s.vm.findClass RX2 = some m.cls := hown
  have hl : lv_has ls 1 [(0, .int p0)] := hl
  refine lv_iload_n hx hb dX2_isFile_0 rfl (lv_at hl 0 rfl) ?_
  refine lv_if_lt (tgt := 14) hx hb dX2_isFile_1 (by decide) (fun c_1 => ?_) (fun c_1 => ?_)
  · refine lv_iconst (v := 0) hx hb dX2_isFile_14 (by decide +kernel) ?_
    refine g_zret hx hb hret hlk hQ hP hD hS dX2_isFile_15 ?_ ?_ ?_
    · exact rfl
    · exact by simp only [xRange, c_1, ↓reduceIte, not_true_eq_false, not_false_eq_true]
    · exact rfl
  · refine lv_iload_n hx hb dX2_isFile_4 rfl (lv_at hl 0 rfl) ?_
    refine lv_bipush (v := 100) hx hb dX2_isFile_5 (by decide +kernel) ?_
    refine lv_icmp_ge (tgt := 14) hx hb dX2_isFile_7 (by decide) (fun c_7 => ?_) (fun c_7 => ?_)
    · refine lv_iconst (v := 0) hx hb dX2_isFile_14 (by decide +kernel) ?_
      refine g_zret hx hb hret hlk hQ hP hD hS dX2_isFile_15 ?_ ?_ ?_
      · exact rfl
      · exact by simp only [xRange, c_1, c_7, ↓reduceIte, not_true_eq_false, not_false_eq_true]
      · exact rfl
    · refine lv_iconst (v := 1) hx hb dX2_isFile_10 (by decide +kernel) ?_
      refine lv_goto (tgt := 15) hx hb dX2_isFile_11 (by decide) ?_
      refine g_zret hx hb hret hlk hQ hP hD hS dX2_isFile_15 ?_ ?_ ?_
      · exact rfl
      · exact by simp only [xRange, c_1, c_7, ↓reduceIte, not_true_eq_false, not_false_eq_true]
      · exact rfl
abbrev rmX2_setOf : Room := { frames := 0, cells := 0, slots := 0, locals := 0 }
set_option maxHeartbeats 4000000 in
set_option maxRecDepth 100000 in
theorem ctX2_setOf (l : Launch) (D : va_G) (cI cZ : ClassId) (q : Nat → Nat) (p0 : Int32) : gM l yX2_setOf wsX2_setOf rmX2_setOf D [(cI, .int), (cZ, .boolean)] w0 (fun _ => True) [.int p0] () (some (.long (xSet p0))) () := by
  refine g_start (cc := cX2_setOf) (maxL := 1) (ret := (some .long)) (by decide) rfl (Nat.le_of_ble_eq_true rfl) ?_
  intro p e s m below meth c A ls Q hx hb hml hret hts hown hlk hE hP hK hD hA hl hQ hS
  have hown : s.vm.findClass RX2 = some m.cls := hown
  have hl : lv_has ls 1 [(0, .int p0)] := hl
  refine lv_iload_n hx hb dX2_setOf_0 rfl (lv_at hl 0 rfl) ?_
  refine lv_if_lt (tgt := 16) hx hb dX2_setOf_1 (by decide) (fun c_1 => ?_) (fun c_1 => ?_)
  · refine lv_lconst (v := 0) hx hb dX2_setOf_16 (by decide +kernel) ?_
    refine g_lret hx hb hret hlk hQ hP hD hS dX2_setOf_17 ?_ ?_
    · exact by simp only [xSet, c_1, ↓reduceIte, not_true_eq_false, not_false_eq_true]
    · exact rfl
  · refine lv_iload_n hx hb dX2_setOf_4 rfl (lv_at hl 0 rfl) ?_
    refine lv_bipush (v := 60) hx hb dX2_setOf_5 (by decide +kernel) ?_
    refine lv_icmp_ge (tgt := 16) hx hb dX2_setOf_7 (by decide) (fun c_7 => ?_) (fun c_7 => ?_)
    · refine lv_lconst (v := 0) hx hb dX2_setOf_16 (by decide +kernel) ?_
      refine g_lret hx hb hret hlk hQ hP hD hS dX2_setOf_17 ?_ ?_
      · exact by simp only [xSet, c_1, c_7, ↓reduceIte, not_true_eq_false, not_false_eq_true]
      · exact rfl
    · refine lv_lconst (v := 1) hx hb dX2_setOf_10 (by decide +kernel) ?_
      refine lv_iload_n hx hb dX2_setOf_11 rfl (lv_at hl 0 rfl) ?_
      refine lv_lshl (v := ((1 : Int64) <<< ((Int32.toInt64 p0) &&& 63))) hx hb dX2_setOf_12 rfl ?_
      refine lv_goto (tgt := 17) hx hb dX2_setOf_13 (by decide) ?_
      refine g_lret hx hb hret hlk hQ hP hD hS dX2_setOf_17 ?_ ?_
      · exact by simp only [xSet, c_1, c_7, ↓reduceIte, not_true_eq_false, not_false_eq_true]
      · exact rfl
abbrev rmX2_contains : Room := { frames := 1, cells := 0, slots := 0, locals := 20 }
set_option maxHeartbeats 4000000 in
set_option maxRecDepth 100000 in
theorem ctX2_contains (l : Launch) (D : va_G) (cI cZ : ClassId) (q : Nat → Nat) (p0 : Int64) (p1 : Int32) : gM l yX2_contains wsX2_contains rmX2_contains D [(cI, .int), (cZ, .boolean)] w0 (fun _ => True) [.long p0, .int p1] () (some (.int (xCon p0 p1))) () := by
  refine g_start (cc := cX2_contains) (maxL := 3) (ret := (some .boolean)) (by decide) rfl (Nat.le_of_ble_eq_true rfl) ?_
  intro p e s m below meth c A ls Q hx hb hml hret hts hown hlk hE hP hK hD hA hl hQ hS
  have hown : s.vm.findClass RX2 = some m.cls := hown
  have hl : lv_has ls 3 [(0, .long p0), (2, .int p1)] := hl
  refine lv_lload_n hx hb dX2_contains_0 rfl (lv_at hl 0 rfl) ?_
  refine lv_iload_n hx hb dX2_contains_1 rfl (lv_at hl 1 rfl) ?_
  refine g_callS0 (As := [.int p1]) (rest := [.long p0]) hx hb hml hown hts (ctX2_setOf l D cI cZ q p1) gX2_contains_X2_setOf rfl rfl rfl hdX2_setOf ⟨Nat.le_of_ble_eq_true rfl, Nat.le_of_ble_eq_true rfl⟩ gEM_true trivial hP hK hS hA rfl hl.1 rfl (Nat.le_of_ble_eq_true rfl) dX2_contains_2 ⟨Nat.zero_le _, Nat.zero_le _⟩ (fun H locs hP hS => ?_)
  refine W.eq (g2 := F0 m 5 ls [.long (xSet p1), .long p0]) rfl ?_
  refine lv_land hx hb dX2_contains_5 ?_
  refine lv_lconst (v := 0) hx hb dX2_contains_6 (by decide +kernel) ?_
  refine g_lcmpE (tgt := 15) hx hb dX2_contains_7 dX2_contains_8 (by decide) (fun c_7 => ?_) (fun c_7 => ?_)
  · refine lv_iconst (v := 0) hx hb dX2_contains_15 (by decide +kernel) ?_
    refine g_zret hx hb hret hlk hQ hP hD hS dX2_contains_16 ?_ ?_ ?_
    · exact rfl
    · exact by simp only [xCon, c_7, ↓reduceIte, not_true_eq_false, not_false_eq_true]
    · exact rfl
  · refine lv_iconst (v := 1) hx hb dX2_contains_11 (by decide +kernel) ?_
    refine lv_goto (tgt := 16) hx hb dX2_contains_12 (by decide) ?_
    refine g_zret hx hb hret hlk hQ hP hD hS dX2_contains_16 ?_ ?_ ?_
    · exact rfl
    · exact by simp only [xCon, c_7, ↓reduceIte, not_true_eq_false, not_false_eq_true]
    · exact rfl
theorem lkX0_size_28 : Cond.fieldLink RX0 28 "FetchHouse$History" "made" "I" ∈ wsX0_size := List.mem_of_getElem? (i := 1) (by decide +kernel)
theorem inX0_size_RX0 : ∀ w ∈ u_ws RX0 TX0 6, w ∈ wsX0_size := fun w h => List.mem_cons_of_mem _ (List.mem_append_right _ h)
abbrev rmX0_size : Room := { frames := 0, cells := 0, slots := 0, locals := 0 }
set_option maxHeartbeats 4000000 in
set_option maxRecDepth 100000 in
theorem ctX0_size (l : Launch) (D : va_G) (cI cZ : ClassId) (q : Nat → Nat) (u : SX) (n : Nat) (hn : u.1 15 0 = nI n) (h60 : n ≤ 60) : gM l yX0_size wsX0_size rmX0_size D [(cI, .int), (cZ, .boolean)] (XW cI cZ q) XG [.ref (q 1)] u (some (.int (nI n))) u := by
  refine g_start (cc := cX0_size) (maxL := 1) (ret := (some .int)) (by decide) rfl (Nat.le_of_ble_eq_true rfl) ?_
  intro p e s m below meth c A ls Q hx hb hml hret hts hown hlk hE hP hK hD hA hl hQ hS
  have hown : s.vm.findClass RX0 = some m.cls := hown
  have hl : lv_has ls 1 [(0, .ref (q 1))] := hl
  refine lv_aload_n hx hb dX0_size_0 rfl (lv_at hl 0 rfl) ?_
  refine va_get (ci := 0) (v := .int (nI n)) (C := RX0) (T := TX0) (N := 6) hx hb hts inX0_size_RX0 hown hK hP 1 rfl rfl 5 (by decide) (hts _ lkX0_size_28) (fun _ h9 => h9) (congrArg (fun z => some (Value.int z)) hn) dX0_size_1 ?_
  refine g_iret (u1 := u) hx hb hret hlk hQ hP hD hS dX0_size_4 ?_ ?_
  · exact rfl
  · exact rfl
theorem lkX0_isFull_28 : Cond.fieldLink RX0 28 "FetchHouse$History" "made" "I" ∈ wsX0_isFull := List.mem_of_getElem? (i := 1) (by decide +kernel)
theorem inX0_isFull_RX0 : ∀ w ∈ u_ws RX0 TX0 6, w ∈ wsX0_isFull := fun w h => List.mem_cons_of_mem _ (List.mem_append_right _ h)
abbrev rmX0_isFull : Room := { frames := 0, cells := 0, slots := 0, locals := 0 }
set_option maxHeartbeats 4000000 in
set_option maxRecDepth 100000 in
theorem ctX0_isFull (l : Launch) (D : va_G) (cI cZ : ClassId) (q : Nat → Nat) (u : SX) (n : Nat) (hn : u.1 15 0 = nI n) (h60 : n ≤ 60) : gM l yX0_isFull wsX0_isFull rmX0_isFull D [(cI, .int), (cZ, .boolean)] (XW cI cZ q) XG [.ref (q 1)] u (some (.int (if n < 60 then 0 else 1))) u := by
  refine g_start (cc := cX0_isFull) (maxL := 1) (ret := (some .boolean)) (by decide) rfl (Nat.le_of_ble_eq_true rfl) ?_
  intro p e s m below meth c A ls Q hx hb hml hret hts hown hlk hE hP hK hD hA hl hQ hS
  have hown : s.vm.findClass RX0 = some m.cls := hown
  have hl : lv_has ls 1 [(0, .ref (q 1))] := hl
  refine lv_aload_n hx hb dX0_isFull_0 rfl (lv_at hl 0 rfl) ?_
  refine va_get (ci := 0) (v := .int (nI n)) (C := RX0) (T := TX0) (N := 6) hx hb hts inX0_isFull_RX0 hown hK hP 1 rfl rfl 5 (by decide) (hts _ lkX0_isFull_28) (fun _ h9 => h9) (congrArg (fun z => some (Value.int z)) hn) dX0_isFull_1 ?_
  refine lv_bipush (v := 60) hx hb dX0_isFull_4 (by decide +kernel) ?_
  refine lv_icmp_lt (tgt := 13) hx hb dX0_isFull_6 (by decide) (fun c_6 => ?_) (fun c_6 => ?_)
  · have n_6 : n < 60 := (g_ltI (a := n) (b := 60) rfl rfl (by omega) (by omega)).mp c_6
    refine lv_iconst (v := 0) hx hb dX0_isFull_13 (by decide +kernel) ?_
    refine g_zret (u1 := u) hx hb hret hlk hQ hP hD hS dX0_isFull_14 ?_ ?_ ?_
    · exact rfl
    · exact by simp only [n_6, ↓reduceIte]
    · exact rfl
  · have n_6 : ¬ n < 60 := fun h => c_6 ((g_ltI (a := n) (b := 60) rfl rfl (by omega) (by omega)).mpr h)
    refine lv_iconst (v := 1) hx hb dX0_isFull_9 (by decide +kernel) ?_
    refine lv_goto (tgt := 14) hx hb dX0_isFull_10 (by decide) ?_
    refine g_zret (u1 := u) hx hb hret hlk hQ hP hD hS dX0_isFull_14 ?_ ?_ ?_
    · exact rfl
    · exact by simp only [n_6, ↓reduceIte]
    · exact rfl
theorem lkX0_isCommit_28 : Cond.fieldLink RX0 28 "FetchHouse$History" "made" "I" ∈ wsX0_isCommit := List.mem_of_getElem? (i := 1) (by decide +kernel)
theorem inX0_isCommit_RX0 : ∀ w ∈ u_ws RX0 TX0 6, w ∈ wsX0_isCommit := fun w h => List.mem_cons_of_mem _ (List.mem_append_right _ h)
abbrev rmX0_isCommit : Room := { frames := 0, cells := 0, slots := 0, locals := 0 }
set_option maxHeartbeats 4000000 in
set_option maxRecDepth 100000 in
theorem ctX0_isCommit (l : Launch) (D : va_G) (cI cZ : ClassId) (q : Nat → Nat) (u : SX) (n : Nat) (hn : u.1 15 0 = nI n) (h60 : n ≤ 60) (p0 : Int32) : gM l yX0_isCommit wsX0_isCommit rmX0_isCommit D [(cI, .int), (cZ, .boolean)] (XW cI cZ q) XG [.ref (q 1), .int p0] u (some (.int (xRange p0 (nI n)))) u := by
  refine g_start (cc := cX0_isCommit) (maxL := 2) (ret := (some .boolean)) (by decide) rfl (Nat.le_of_ble_eq_true rfl) ?_
  intro p e s m below meth c A ls Q hx hb hml hret hts hown hlk hE hP hK hD hA hl hQ hS
  have hown : s.vm.findClass RX0 = some m.cls := hown
  have hl : lv_has ls 2 [(0, .ref (q 1)), (1, .int p0)] := hl
  refine lv_iload_n hx hb dX0_isCommit_0 rfl (lv_at hl 1 rfl) ?_
  refine lv_if_lt (tgt := 16) hx hb dX0_isCommit_1 (by decide) (fun c_1 => ?_) (fun c_1 => ?_)
  · refine lv_iconst (v := 0) hx hb dX0_isCommit_16 (by decide +kernel) ?_
    refine g_zret (u1 := u) hx hb hret hlk hQ hP hD hS dX0_isCommit_17 ?_ ?_ ?_
    · exact rfl
    · exact by simp only [xRange, c_1, ↓reduceIte, not_true_eq_false, not_false_eq_true]
    · exact rfl
  · refine lv_iload_n hx hb dX0_isCommit_4 rfl (lv_at hl 1 rfl) ?_
    refine lv_aload_n hx hb dX0_isCommit_5 rfl (lv_at hl 0 rfl) ?_
    refine va_get (ci := 0) (v := .int (nI n)) (C := RX0) (T := TX0) (N := 6) hx hb hts inX0_isCommit_RX0 hown hK hP 1 rfl rfl 5 (by decide) (hts _ lkX0_isCommit_28) (fun _ h9 => h9) (congrArg (fun z => some (Value.int z)) hn) dX0_isCommit_6 ?_
    refine lv_icmp_ge (tgt := 16) hx hb dX0_isCommit_9 (by decide) (fun c_9 => ?_) (fun c_9 => ?_)
    · refine lv_iconst (v := 0) hx hb dX0_isCommit_16 (by decide +kernel) ?_
      refine g_zret (u1 := u) hx hb hret hlk hQ hP hD hS dX0_isCommit_17 ?_ ?_ ?_
      · exact rfl
      · exact by simp only [xRange, c_1, c_9, ↓reduceIte, not_true_eq_false, not_false_eq_true]
      · exact rfl
    · refine lv_iconst (v := 1) hx hb dX0_isCommit_12 (by decide +kernel) ?_
      refine lv_goto (tgt := 17) hx hb dX0_isCommit_13 (by decide) ?_
      refine g_zret (u1 := u) hx hb hret hlk hQ hP hD hS dX0_isCommit_17 ?_ ?_ ?_
      · exact rfl
      · exact by simp only [xRange, c_1, c_9, ↓reduceIte, not_true_eq_false, not_false_eq_true]
      · exact rfl
theorem lkX0_fileIn_inRX2 : Cond.initialized RX2 ∈ wsX0_fileIn := List.mem_of_getElem? (i := 9) (by decide +kernel)
theorem lkX0_fileIn_stX2_isSlot : Cond.static yX2_isSlot ∈ wsX0_fileIn := List.mem_of_getElem? (i := 8) (by decide +kernel)
theorem lkX0_fileIn_18 : Cond.fieldLink RX0 18 "FetchHouse$History" "slotFiles" "[I" ∈ wsX0_fileIn := List.mem_of_getElem? (i := 1) (by decide +kernel)
theorem inX0_fileIn_RX0 : ∀ w ∈ u_ws RX0 TX0 6, w ∈ wsX0_fileIn := fun w h => List.mem_cons_of_mem _ (List.mem_append_right _ h)
abbrev rmX0_fileIn : Room := { frames := 1, cells := 0, slots := 0, locals := 21 }
set_option maxHeartbeats 4000000 in
set_option maxRecDepth 100000 in
theorem ctX0_fileIn (l : Launch) (D : va_G) (cI cZ : ClassId) (q : Nat → Nat) (u : SX) (n : Nat) (hn : u.1 15 0 = nI n) (h60 : n ≤ 60) (p0 p1 : Int32) : gM l yX0_fileIn wsX0_fileIn rmX0_fileIn D [(cI, .int), (cZ, .boolean)] (XW cI cZ q) XG [.ref (q 1), .int p0, .int p1] u (some (.int (xFileIn n (u.1 2) p0 p1))) u := by
  refine g_start (cc := cX0_fileIn) (maxL := 3) (ret := (some .int)) (by decide) rfl (Nat.le_of_ble_eq_true rfl) ?_
  intro p e s m below meth c A ls Q hx hb hml hret hts hown hlk hE hP hK hD hA hl hQ hS
  have hown : s.vm.findClass RX0 = some m.cls := hown
  have hl : lv_has ls 3 [(0, .ref (q 1)), (1, .int p0), (2, .int p1)] := hl
  refine lv_aload_n hx hb dX0_fileIn_0 rfl (lv_at hl 0 rfl) ?_
  refine lv_iload_n hx hb dX0_fileIn_1 rfl (lv_at hl 1 rfl) ?_
  refine g_callV (As := [.int p0]) (rest := []) hx hb hml hown hts (ctX0_isCommit l D cI cZ q u n hn h60 p0) gX0_fileIn_X0_isCommit rfl rfl rfl hdX0_isCommit ⟨Nat.le_of_ble_eq_true rfl, Nat.le_of_ble_eq_true rfl⟩ XG_em hE hP hK hD hS hA 1 rfl rfl rfl hl.1 rfl (Nat.le_of_ble_eq_true rfl) dX0_fileIn_2 ⟨Nat.zero_le _, Nat.zero_le _⟩ (fun H locs hP hD hS => ?_)
  have hP : va_P D vwCl (XW cI cZ q u) H := hP
  have hD : va_D A (XW cI cZ q u) := hD
  refine W.eq (g2 := F0 m 5 ls [.int (xRange p0 (nI n))]) rfl ?_
  refine lv_if_eq (tgt := 28) hx hb dX0_fileIn_5 (by decide) (fun c_5 => ?_) (fun c_5 => ?_)
  · refine lv_iconst (v := (-1)) hx hb dX0_fileIn_28 (by decide +kernel) ?_
    refine g_iret (u1 := u) hx hb hret hlk hQ hP hD hS dX0_fileIn_29 ?_ ?_
    · exact by simp only [xFileIn, c_5, ↓reduceIte, not_true_eq_false, not_false_eq_true]
    · exact rfl
  · refine lv_iload_n hx hb dX0_fileIn_8 rfl (lv_at hl 2 rfl) ?_
    refine g_callN0 (host := "FetchHouse") (As := [.int p1]) (rest := []) hx hb hml hown hts (ctX2_isSlot l D cI cZ q p1) gX0_fileIn_X2_isSlot_n44 rfl rfl rfl (hE.1 _ (List.mem_of_getElem? (i := 2) rfl)) (hts _ lkX0_fileIn_inRX2) (hts _ lkX0_fileIn_stX2_isSlot) hdX2_isSlot ⟨Nat.le_of_ble_eq_true rfl, Nat.le_of_ble_eq_true rfl⟩ gEM_true trivial hP hK hS hA rfl hl.1 rfl (Nat.le_of_ble_eq_true rfl) dX0_fileIn_9 ⟨Nat.zero_le _, Nat.zero_le _⟩ (fun H locs hP hS => ?_)
    refine W.eq (g2 := F0 m 12 ls [.int (xRange p1 4)]) rfl ?_
    refine lv_if_eq (tgt := 28) hx hb dX0_fileIn_12 (by decide) (fun c_12 => ?_) (fun c_12 => ?_)
    · refine lv_iconst (v := (-1)) hx hb dX0_fileIn_28 (by decide +kernel) ?_
      refine g_iret (u1 := u) hx hb hret hlk hQ hP hD hS dX0_fileIn_29 ?_ ?_
      · exact by simp only [xFileIn, c_5, c_12, ↓reduceIte, not_true_eq_false, not_false_eq_true]
      · exact rfl
    · obtain ⟨j, hj, rfl⟩ := xRange_ne rfl (by omega) c_5
      obtain ⟨t, ht, rfl⟩ := xRange_ne (n := 4) rfl (by omega) c_12
      refine lv_aload_n hx hb dX0_fileIn_15 rfl (lv_at hl 0 rfl) ?_
      refine va_get (ci := 0) (v := .ref (q 6)) (C := RX0) (T := TX0) (N := 6) hx hb hts inX0_fileIn_RX0 hown hK hP 1 rfl rfl 2 (by decide) (hts _ lkX0_fileIn_18) (fun _ h9 => h9) rfl dX0_fileIn_16 ?_
      refine lv_iload_n hx hb dX0_fileIn_19 rfl (lv_at hl 1 rfl) ?_
      refine lv_iconst (v := 4) hx hb dX0_fileIn_20 (by decide +kernel) ?_
      refine lv_imul hx hb dX0_fileIn_21 ?_
      refine lv_iload_n hx hb dX0_fileIn_22 rfl (lv_at hl 2 rfl) ?_
      refine lv_iadd hx hb dX0_fileIn_23 ?_
      refine g_iald (n := 240) (f := (u.1 2)) hx hb hK hP 6 0 rfl rfl (j * 4 + t) (by omega) (by omega) (g_addE (g_mulE rfl rfl) rfl) dX0_fileIn_24 ?_
      refine lv_goto (tgt := 29) hx hb dX0_fileIn_25 (by decide) ?_
      refine g_iret (u1 := u) hx hb hret hlk hQ hP hD hS dX0_fileIn_29 ?_ ?_
      · exact by rw [xFileIn, if_neg c_5, if_neg c_12, nI_clamp (by omega), nI_clamp (by omega)]
      · exact rfl
theorem lkX0_parentsOf_inRX2 : Cond.initialized RX2 ∈ wsX0_parentsOf := List.mem_of_getElem? (i := 10) (by decide +kernel)
theorem lkX0_parentsOf_stX2_setOf : Cond.static yX2_setOf ∈ wsX0_parentsOf := List.mem_of_getElem? (i := 9) (by decide +kernel)
theorem lkX0_parentsOf_15 : Cond.fieldLink RX0 15 "FetchHouse$History" "secondParents" "[I" ∈ wsX0_parentsOf := List.mem_of_getElem? (i := 2) (by decide +kernel)
theorem lkX0_parentsOf_9 : Cond.fieldLink RX0 9 "FetchHouse$History" "firstParents" "[I" ∈ wsX0_parentsOf := List.mem_of_getElem? (i := 1) (by decide +kernel)
theorem inX0_parentsOf_RX0 : ∀ w ∈ u_ws RX0 TX0 6, w ∈ wsX0_parentsOf := fun w h => List.mem_cons_of_mem _ (List.mem_append_right _ h)
abbrev rmX0_parentsOf : Room := { frames := 1, cells := 0, slots := 0, locals := 21 }
set_option maxHeartbeats 4000000 in
set_option maxRecDepth 100000 in
theorem ctX0_parentsOf (l : Launch) (D : va_G) (cI cZ : ClassId) (q : Nat → Nat) (u : SX) (n : Nat) (hn : u.1 15 0 = nI n) (h60 : n ≤ 60) (p0 : Int32) : gM l yX0_parentsOf wsX0_parentsOf rmX0_parentsOf D [(cI, .int), (cZ, .boolean)] (XW cI cZ q) XG [.ref (q 1), .int p0] u (some (.long (xPar n (u.1 0) (u.1 1) p0))) u := by
  refine g_start (cc := cX0_parentsOf) (maxL := 2) (ret := (some .long)) (by decide) rfl (Nat.le_of_ble_eq_true rfl) ?_
  intro p e s m below meth c A ls Q hx hb hml hret hts hown hlk hE hP hK hD hA hl hQ hS
  have hown : s.vm.findClass RX0 = some m.cls := hown
  have hl : lv_has ls 2 [(0, .ref (q 1)), (1, .int p0)] := hl
  refine lv_aload_n hx hb dX0_parentsOf_0 rfl (lv_at hl 0 rfl) ?_
  refine lv_iload_n hx hb dX0_parentsOf_1 rfl (lv_at hl 1 rfl) ?_
  refine g_callV (As := [.int p0]) (rest := []) hx hb hml hown hts (ctX0_isCommit l D cI cZ q u n hn h60 p0) gX0_parentsOf_X0_isCommit rfl rfl rfl hdX0_isCommit ⟨Nat.le_of_ble_eq_true rfl, Nat.le_of_ble_eq_true rfl⟩ XG_em hE hP hK hD hS hA 1 rfl rfl rfl hl.1 rfl (Nat.le_of_ble_eq_true rfl) dX0_parentsOf_2 ⟨Nat.zero_le _, Nat.zero_le _⟩ (fun H locs hP hD hS => ?_)
  have hP : va_P D vwCl (XW cI cZ q u) H := hP
  have hD : va_D A (XW cI cZ q u) := hD
  refine W.eq (g2 := F0 m 5 ls [.int (xRange p0 (nI n))]) rfl ?_
  refine lv_if_eq (tgt := 30) hx hb dX0_parentsOf_5 (by decide) (fun c_5 => ?_) (fun c_5 => ?_)
  · refine lv_lconst (v := 0) hx hb dX0_parentsOf_30 (by decide +kernel) ?_
    refine g_lret (u1 := u) hx hb hret hlk hQ hP hD hS dX0_parentsOf_31 ?_ ?_
    · exact by simp only [xPar, c_5, ↓reduceIte, not_true_eq_false, not_false_eq_true]
    · exact rfl
  · obtain ⟨j, hj, rfl⟩ := xRange_ne rfl (by omega) c_5
    refine lv_aload_n hx hb dX0_parentsOf_8 rfl (lv_at hl 0 rfl) ?_
    refine va_get (ci := 0) (v := .ref (q 4)) (C := RX0) (T := TX0) (N := 6) hx hb hts inX0_parentsOf_RX0 hown hK hP 1 rfl rfl 0 (by decide) (hts _ lkX0_parentsOf_9) (fun _ h9 => h9) rfl dX0_parentsOf_9 ?_
    refine lv_iload_n hx hb dX0_parentsOf_12 rfl (lv_at hl 1 rfl) ?_
    refine g_iald (n := 60) (f := (u.1 0)) hx hb hK hP 4 0 rfl rfl j (by omega) (by omega) rfl dX0_parentsOf_13 ?_
    refine g_callN0 (host := "FetchHouse") (As := [.int ((u.1 0) j)]) (rest := []) hx hb hml hown hts (ctX2_setOf l D cI cZ q ((u.1 0) j)) gX0_parentsOf_X2_setOf_n58 rfl rfl rfl (hE.1 _ (List.mem_of_getElem? (i := 5) rfl)) (hts _ lkX0_parentsOf_inRX2) (hts _ lkX0_parentsOf_stX2_setOf) hdX2_setOf ⟨Nat.le_of_ble_eq_true rfl, Nat.le_of_ble_eq_true rfl⟩ gEM_true trivial hP hK hS hA rfl hl.1 rfl (Nat.le_of_ble_eq_true rfl) dX0_parentsOf_14 ⟨Nat.zero_le _, Nat.zero_le _⟩ (fun H locs hP hS => ?_)
    refine W.eq (g2 := F0 m 17 ls [.long (xSet ((u.1 0) j))]) rfl ?_
    refine lv_aload_n hx hb dX0_parentsOf_17 rfl (lv_at hl 0 rfl) ?_
    refine va_get (ci := 0) (v := .ref (q 5)) (C := RX0) (T := TX0) (N := 6) hx hb hts inX0_parentsOf_RX0 hown hK hP 1 rfl rfl 1 (by decide) (hts _ lkX0_parentsOf_15) (fun _ h9 => h9) rfl dX0_parentsOf_18 ?_
    refine lv_iload_n hx hb dX0_parentsOf_21 rfl (lv_at hl 1 rfl) ?_
    refine g_iald (n := 60) (f := (u.1 1)) hx hb hK hP 5 0 rfl rfl j (by omega) (by omega) rfl dX0_parentsOf_22 ?_
    refine g_callN0 (host := "FetchHouse") (As := [.int ((u.1 1) j)]) (rest := [.long (xSet ((u.1 0) j))]) hx hb hml hown hts (ctX2_setOf l D cI cZ q ((u.1 1) j)) gX0_parentsOf_X2_setOf_n58 rfl rfl rfl (hE.1 _ (List.mem_of_getElem? (i := 5) rfl)) (hts _ lkX0_parentsOf_inRX2) (hts _ lkX0_parentsOf_stX2_setOf) hdX2_setOf ⟨Nat.le_of_ble_eq_true rfl, Nat.le_of_ble_eq_true rfl⟩ gEM_true trivial hP hK hS hA rfl hl.1 rfl (Nat.le_of_ble_eq_true rfl) dX0_parentsOf_23 ⟨Nat.zero_le _, Nat.zero_le _⟩ (fun H locs hP hS => ?_)
    refine W.eq (g2 := F0 m 26 ls [.long (xSet ((u.1 1) j)), .long (xSet ((u.1 0) j))]) rfl ?_
    refine lv_lor hx hb dX0_parentsOf_26 ?_
    refine lv_goto (tgt := 31) hx hb dX0_parentsOf_27 (by decide) ?_
    refine g_lret (u1 := u) hx hb hret hlk hQ hP hD hS dX0_parentsOf_31 ?_ ?_
    · exact by rw [xPar, if_neg c_5, nI_clamp (by omega)]
    · exact rfl
theorem lkX0_shallowOf_inRX2 : Cond.initialized RX2 ∈ wsX0_shallowOf := List.mem_of_getElem? (i := 4) (by decide +kernel)
theorem lkX0_shallowOf_stX2_contains : Cond.static yX2_contains ∈ wsX0_shallowOf := List.mem_of_getElem? (i := 3) (by decide +kernel)
theorem lkX0_shallowOf_stX2_setOf : Cond.static yX2_setOf ∈ wsX0_shallowOf := List.mem_of_getElem? (i := 7) (by decide +kernel)
theorem lkX0_shallowOf_28 : Cond.fieldLink RX0 28 "FetchHouse$History" "made" "I" ∈ wsX0_shallowOf := List.mem_of_getElem? (i := 1) (by decide +kernel)
theorem lkX0_shallowOf_65 : Cond.constantLong RX0 65 (-1) ∈ wsX0_shallowOf := List.mem_of_getElem? (i := 2) (by decide +kernel)
theorem inX0_shallowOf_RX0 : ∀ w ∈ u_ws RX0 TX0 6, w ∈ wsX0_shallowOf := fun w h => List.mem_cons_of_mem _ (List.mem_append_right _ h)
abbrev rmX0_shallowOf : Room := { frames := 2, cells := 0, slots := 0, locals := 42 }
set_option maxHeartbeats 4000000 in
set_option maxRecDepth 100000 in
theorem ctX0_shallowOf (l : Launch) (D : va_G) (cI cZ : ClassId) (q : Nat → Nat) (u : SX) (n : Nat) (hn : u.1 15 0 = nI n) (h60 : n ≤ 60) (p0 : Int64) : gM l yX0_shallowOf wsX0_shallowOf rmX0_shallowOf D [(cI, .int), (cZ, .boolean)] (XW cI cZ q) XG [.ref (q 1), .long p0] u (some (.long (xShallow n (u.1 0) (u.1 1) p0))) u := by
  refine g_start (cc := cX0_shallowOf) (maxL := 6) (ret := (some .long)) (by decide) rfl (Nat.le_of_ble_eq_true rfl) ?_
  intro p e s m below meth c A ls Q hx hb hml hret hts hown hlk hE hP hK hD hA hl hQ hS
  have hown : s.vm.findClass RX0 = some m.cls := hown
  have hl : lv_has ls 6 [(0, .ref (q 1)), (1, .long p0)] := hl
  refine lv_lconst (v := 0) hx hb dX0_shallowOf_0 (by decide +kernel) ?_
  refine lv_lstore_n (lv' := [(3, .long 0), (0, .ref (q 1)), (1, .long p0)]) hx hb dX0_shallowOf_1 rfl hl (by decide) rfl (fun ls hl => ?_)
  refine lv_iconst (v := (nI 0)) hx hb dX0_shallowOf_2 (by decide +kernel) ?_
  refine lv_istore (lv' := [(5, .int (nI 0)), (3, .long 0), (0, .ref (q 1)), (1, .long p0)]) hx hb dX0_shallowOf_3 hl (by decide) rfl (fun ls hl => ?_)
  have loop : ∀ (d k : Nat) (sh : Int64) (H : Heap) (locs : List Loc) (ls : Array Slot) (hP : va_P D vwCl (XW cI cZ q u) H) (hD : va_D A (XW cI cZ q u)) (hS : va_S A s.heap H locs) (hl : lv_has ls 6 [(0, .ref (q 1)), (1, .long p0), (3, .long sh), (5, .int (nI k))]) (hk : k + d = n) (hr : itU (xShStep n (u.1 0) (u.1 1) p0) d k sh = (xShallow n (u.1 0) (u.1 1) p0)), W p l e rmX0_shallowOf s m ([.ref (q 1), .long p0] : List Value).toArray below meth c H locs 0 0 Q (F0 m 5 ls []) := by
    intro d
    induction d with
    | zero =>
      intro k sh H locs ls hP hD hS hl hk hr
      refine lv_iload hx hb dX0_shallowOf_5 (lv_at hl 3 rfl) ?_
      refine lv_aload_n hx hb dX0_shallowOf_7 rfl (lv_at hl 0 rfl) ?_
      refine va_get (ci := 0) (v := .int (nI n)) (C := RX0) (T := TX0) (N := 6) hx hb hts inX0_shallowOf_RX0 hown hK hP 1 rfl rfl 5 (by decide) (hts _ lkX0_shallowOf_28) (fun _ h9 => h9) (congrArg (fun z => some (Value.int z)) hn) dX0_shallowOf_8 ?_
      refine lv_icmp_ge (tgt := 54) hx hb dX0_shallowOf_11 (by decide) (fun c_11 => ?_) (fun c_11 => ?_)
      · have n_11 : n ≤ k := (g_leI (a := n) (b := k) rfl rfl (by omega) (by omega)).mp c_11
        refine lv_lload_n hx hb dX0_shallowOf_54 rfl (lv_at hl 2 rfl) ?_
        refine g_lret (u1 := u) hx hb hret hlk hQ hP hD hS dX0_shallowOf_55 ?_ ?_
        · exact (by rw [← hr] <;> rfl)
        · exact rfl
      · have n_11 : ¬ n ≤ k := fun h => c_11 ((g_leI (a := n) (b := k) rfl rfl (by omega) (by omega)).mpr h)
        exfalso; omega
    | succ d ih =>
      intro k sh H locs ls hP hD hS hl hk hr
      refine lv_iload hx hb dX0_shallowOf_5 (lv_at hl 3 rfl) ?_
      refine lv_aload_n hx hb dX0_shallowOf_7 rfl (lv_at hl 0 rfl) ?_
      refine va_get (ci := 0) (v := .int (nI n)) (C := RX0) (T := TX0) (N := 6) hx hb hts inX0_shallowOf_RX0 hown hK hP 1 rfl rfl 5 (by decide) (hts _ lkX0_shallowOf_28) (fun _ h9 => h9) (congrArg (fun z => some (Value.int z)) hn) dX0_shallowOf_8 ?_
      refine lv_icmp_ge (tgt := 54) hx hb dX0_shallowOf_11 (by decide) (fun c_11 => ?_) (fun c_11 => ?_)
      · have n_11 : n ≤ k := (g_leI (a := n) (b := k) rfl rfl (by omega) (by omega)).mp c_11
        exfalso; omega
      · have n_11 : ¬ n ≤ k := fun h => c_11 ((g_leI (a := n) (b := k) rfl rfl (by omega) (by omega)).mpr h)
        refine lv_lload_n hx hb dX0_shallowOf_14 rfl (lv_at hl 1 rfl) ?_
        refine lv_iload hx hb dX0_shallowOf_15 (lv_at hl 3 rfl) ?_
        refine g_callN0 (host := "FetchHouse") (As := [.long p0, .int (nI k)]) (rest := []) hx hb hml hown hts (ctX2_contains l D cI cZ q p0 (nI k)) gX0_shallowOf_X2_contains_n47 rfl rfl rfl (hE.1 _ (List.mem_of_getElem? (i := 3) rfl)) (hts _ lkX0_shallowOf_inRX2) (hts _ lkX0_shallowOf_stX2_contains) hdX2_contains ⟨Nat.le_of_ble_eq_true rfl, Nat.le_of_ble_eq_true rfl⟩ gEM_true trivial hP hK hS hA rfl hl.1 rfl (Nat.le_of_ble_eq_true rfl) dX0_shallowOf_17 ⟨Nat.zero_le _, Nat.zero_le _⟩ (fun H locs hP hS => ?_)
        refine W.eq (g2 := F0 m 20 ls [.int (xCon p0 (nI k))]) rfl ?_
        refine lv_if_eq (tgt := 48) hx hb dX0_shallowOf_20 (by decide) (fun c_20 => ?_) (fun c_20 => ?_)
        · refine lv_iinc (v := (nI (k + 1))) (lv' := [(5, .int (nI (k + 1))), (0, .ref (q 1)), (1, .long p0), (3, .long sh)]) hx hb dX0_shallowOf_48 hl (k := 3) rfl (nI_1 _) (by decide) rfl (fun ls hl => ?_)
          refine lv_goto (tgt := 5) hx hb dX0_shallowOf_51 (by decide) ?_
          exact ih (k + 1) sh _ _ _ hP hD hS (lv_sub hl [1, 2, 3, 0] rfl) (by omega) (by rw [← hr]; show _ = itU _ d (k + 1) (xShStep _ _ _ _ k sh); rw [show xShStep n (u.1 0) (u.1 1) p0 k sh = sh from by simp only [xShStep, c_11, c_20, ↓reduceIte, not_true_eq_false, not_false_eq_true]])
        · refine lv_aload_n hx hb dX0_shallowOf_23 rfl (lv_at hl 0 rfl) ?_
          refine lv_iload hx hb dX0_shallowOf_24 (lv_at hl 3 rfl) ?_
          refine g_callV (As := [.int (nI k)]) (rest := []) hx hb hml hown hts (ctX0_parentsOf l D cI cZ q u n hn h60 (nI k)) gX0_shallowOf_X0_parentsOf rfl rfl rfl hdX0_parentsOf ⟨Nat.le_of_ble_eq_true rfl, Nat.le_of_ble_eq_true rfl⟩ XG_em hE hP hK hD hS hA 1 rfl rfl rfl hl.1 rfl (Nat.le_of_ble_eq_true rfl) dX0_shallowOf_26 ⟨Nat.zero_le _, Nat.zero_le _⟩ (fun H locs hP hD hS => ?_)
          have hP : va_P D vwCl (XW cI cZ q u) H := hP
          have hD : va_D A (XW cI cZ q u) := hD
          refine W.eq (g2 := F0 m 29 ls [.long (xPar n (u.1 0) (u.1 1) (nI k))]) rfl ?_
          refine lv_lload_n hx hb dX0_shallowOf_29 rfl (lv_at hl 1 rfl) ?_
          refine lv_ldc2 (v := (-1)) hx hb hown (hts _ lkX0_shallowOf_65) dX0_shallowOf_30 ?_
          refine lv_lxor hx hb dX0_shallowOf_33 ?_
          refine lv_land hx hb dX0_shallowOf_34 ?_
          refine lv_lconst (v := 0) hx hb dX0_shallowOf_35 (by decide +kernel) ?_
          refine g_lcmpE (tgt := 48) hx hb dX0_shallowOf_36 dX0_shallowOf_37 (by decide) (fun c_36 => ?_) (fun c_36 => ?_)
          · refine lv_iinc (v := (nI (k + 1))) (lv' := [(5, .int (nI (k + 1))), (0, .ref (q 1)), (1, .long p0), (3, .long sh)]) hx hb dX0_shallowOf_48 hl (k := 3) rfl (nI_1 _) (by decide) rfl (fun ls hl => ?_)
            refine lv_goto (tgt := 5) hx hb dX0_shallowOf_51 (by decide) ?_
            exact ih (k + 1) sh _ _ _ hP hD hS (lv_sub hl [1, 2, 3, 0] rfl) (by omega) (by rw [← hr]; show _ = itU _ d (k + 1) (xShStep _ _ _ _ k sh); rw [show xShStep n (u.1 0) (u.1 1) p0 k sh = sh from by simp only [xShStep, c_11, c_20, c_36, ↓reduceIte, not_true_eq_false, not_false_eq_true]])
          · refine lv_lload_n hx hb dX0_shallowOf_40 rfl (lv_at hl 2 rfl) ?_
            refine lv_iload hx hb dX0_shallowOf_41 (lv_at hl 3 rfl) ?_
            refine g_callN0 (host := "FetchHouse") (As := [.int (nI k)]) (rest := [.long sh]) hx hb hml hown hts (ctX2_setOf l D cI cZ q (nI k)) gX0_shallowOf_X2_setOf_n58 rfl rfl rfl (hE.1 _ (List.mem_of_getElem? (i := 5) rfl)) (hts _ lkX0_shallowOf_inRX2) (hts _ lkX0_shallowOf_stX2_setOf) hdX2_setOf ⟨Nat.le_of_ble_eq_true rfl, Nat.le_of_ble_eq_true rfl⟩ gEM_true trivial hP hK hS hA rfl hl.1 rfl (Nat.le_of_ble_eq_true rfl) dX0_shallowOf_43 ⟨Nat.zero_le _, Nat.zero_le _⟩ (fun H locs hP hS => ?_)
            refine W.eq (g2 := F0 m 46 ls [.long (xSet (nI k)), .long sh]) rfl ?_
            refine lv_lor hx hb dX0_shallowOf_46 ?_
            refine lv_lstore_n (lv' := [(3, .long (sh ||| (xSet (nI k)))), (0, .ref (q 1)), (1, .long p0), (5, .int (nI k))]) hx hb dX0_shallowOf_47 rfl hl (by decide) rfl (fun ls hl => ?_)
            refine lv_iinc (v := (nI (k + 1))) (lv' := [(5, .int (nI (k + 1))), (3, .long (sh ||| (xSet (nI k)))), (0, .ref (q 1)), (1, .long p0)]) hx hb dX0_shallowOf_48 hl (k := 3) rfl (nI_1 _) (by decide) rfl (fun ls hl => ?_)
            refine lv_goto (tgt := 5) hx hb dX0_shallowOf_51 (by decide) ?_
            exact ih (k + 1) (sh ||| (xSet (nI k))) _ _ _ hP hD hS (lv_sub hl [2, 3, 1, 0] rfl) (by omega) (by rw [← hr]; show _ = itU _ d (k + 1) (xShStep _ _ _ _ k sh); rw [show xShStep n (u.1 0) (u.1 1) p0 k sh = (sh ||| (xSet (nI k))) from by simp only [xShStep, c_11, c_20, c_36, ↓reduceIte, not_true_eq_false, not_false_eq_true]])
  exact loop n 0 0 _ _ _ hP hD hS (lv_sub hl [2, 3, 1, 0] rfl) (by omega) rfl
theorem lkX0_ancestorsOf_inRX2 : Cond.initialized RX2 ∈ wsX0_ancestorsOf := List.mem_of_getElem? (i := 9) (by decide +kernel)
theorem lkX0_ancestorsOf_stX2_contains : Cond.static yX2_contains ∈ wsX0_ancestorsOf := List.mem_of_getElem? (i := 8) (by decide +kernel)
theorem lkX0_ancestorsOf_28 : Cond.fieldLink RX0 28 "FetchHouse$History" "made" "I" ∈ wsX0_ancestorsOf := List.mem_of_getElem? (i := 1) (by decide +kernel)
theorem lkX0_ancestorsOf_65 : Cond.constantLong RX0 65 (-1) ∈ wsX0_ancestorsOf := List.mem_of_getElem? (i := 2) (by decide +kernel)
theorem inX0_ancestorsOf_RX0 : ∀ w ∈ u_ws RX0 TX0 6, w ∈ wsX0_ancestorsOf := fun w h => List.mem_cons_of_mem _ (List.mem_append_right _ h)
abbrev rmX0_ancestorsOf : Room := { frames := 3, cells := 0, slots := 0, locals := 67 }
set_option maxHeartbeats 4000000 in
set_option maxRecDepth 100000 in
theorem ctX0_ancestorsOf (l : Launch) (D : va_G) (cI cZ : ClassId) (q : Nat → Nat) (u : SX) (n : Nat) (hn : u.1 15 0 = nI n) (h60 : n ≤ 60) (p0 p1 : Int64) : gM l yX0_ancestorsOf wsX0_ancestorsOf rmX0_ancestorsOf D [(cI, .int), (cZ, .boolean)] (XW cI cZ q) XG [.ref (q 1), .long p0, .long p1] u (some (.long (xAnc n (u.1 0) (u.1 1) p0 p1))) u := by
  refine g_start (cc := cX0_ancestorsOf) (maxL := 10) (ret := (some .long)) (by decide) rfl (Nat.le_of_ble_eq_true rfl) ?_
  intro p e s m below meth c A ls Q hx hb hml hret hts hown hlk hE hP hK hD hA hl hQ hS
  have hown : s.vm.findClass RX0 = some m.cls := hown
  have hl : lv_has ls 10 [(0, .ref (q 1)), (1, .long p0), (3, .long p1)] := hl
  refine lv_aload_n hx hb dX0_ancestorsOf_0 rfl (lv_at hl 0 rfl) ?_
  refine lv_lload_n hx hb dX0_ancestorsOf_1 rfl (lv_at hl 2 rfl) ?_
  refine g_callV (As := [.long p1]) (rest := []) hx hb hml hown hts (ctX0_shallowOf l D cI cZ q u n hn h60 p1) gX0_ancestorsOf_X0_shallowOf rfl rfl rfl hdX0_shallowOf ⟨Nat.le_of_ble_eq_true rfl, Nat.le_of_ble_eq_true rfl⟩ XG_em hE hP hK hD hS hA 1 rfl rfl rfl hl.1 rfl (Nat.le_of_ble_eq_true rfl) dX0_ancestorsOf_2 ⟨Nat.zero_le _, Nat.zero_le _⟩ (fun H locs hP hD hS => ?_)
  have hP : va_P D vwCl (XW cI cZ q u) H := hP
  have hD : va_D A (XW cI cZ q u) := hD
  refine W.eq (g2 := F0 m 5 ls [.long (xShallow n (u.1 0) (u.1 1) p1)]) rfl ?_
  refine lv_lstore (lv' := [(5, .long (xShallow n (u.1 0) (u.1 1) p1)), (0, .ref (q 1)), (1, .long p0), (3, .long p1)]) hx hb dX0_ancestorsOf_5 hl (by decide) rfl (fun ls hl => ?_)
  refine lv_lload_n hx hb dX0_ancestorsOf_7 rfl (lv_at hl 2 rfl) ?_
  refine lv_lload_n hx hb dX0_ancestorsOf_8 rfl (lv_at hl 3 rfl) ?_
  refine lv_land hx hb dX0_ancestorsOf_9 ?_
  refine lv_lstore (lv' := [(7, .long (p0 &&& p1)), (5, .long (xShallow n (u.1 0) (u.1 1) p1)), (0, .ref (q 1)), (1, .long p0), (3, .long p1)]) hx hb dX0_ancestorsOf_10 hl (by decide) rfl (fun ls hl => ?_)
  refine lv_aload_n hx hb dX0_ancestorsOf_12 rfl (lv_at hl 2 rfl) ?_
  refine va_get (ci := 0) (v := .int (nI n)) (C := RX0) (T := TX0) (N := 6) hx hb hts inX0_ancestorsOf_RX0 hown hK hP 1 rfl rfl 5 (by decide) (hts _ lkX0_ancestorsOf_28) (fun _ h9 => h9) (congrArg (fun z => some (Value.int z)) hn) dX0_ancestorsOf_13 ?_
  refine lv_iconst (v := 1) hx hb dX0_ancestorsOf_16 (by decide +kernel) ?_
  refine lv_isub hx hb dX0_ancestorsOf_17 ?_
  refine lv_istore (lv' := [(9, .int ((nI n) - 1)), (7, .long (p0 &&& p1)), (5, .long (xShallow n (u.1 0) (u.1 1) p1)), (0, .ref (q 1)), (1, .long p0), (3, .long p1)]) hx hb dX0_ancestorsOf_18 hl (by decide) rfl (fun ls hl => ?_)
  have loop : ∀ (d : Nat) (fd : Int64) (H : Heap) (locs : List Loc) (ls : Array Slot) (hP : va_P D vwCl (XW cI cZ q u) H) (hD : va_D A (XW cI cZ q u)) (hS : va_S A s.heap H locs) (hl : lv_has ls 10 [(0, .ref (q 1)), (1, .long p0), (3, .long p1), (5, .long (xShallow n (u.1 0) (u.1 1) p1)), (7, .long fd), (9, .int (nI d - 1))]) (hd : d ≤ n) (hr : itD (xAncStep n (u.1 0) (u.1 1) (xShallow n (u.1 0) (u.1 1) p1)) d fd = (xAnc n (u.1 0) (u.1 1) p0 p1)), W p l e rmX0_ancestorsOf s m ([.ref (q 1), .long p0, .long p1] : List Value).toArray below meth c H locs 0 0 Q (F0 m 20 ls []) := by
    intro d
    induction d with
    | zero =>
      intro fd H locs ls hP hD hS hl hd hr
      refine lv_iload hx hb dX0_ancestorsOf_20 (lv_at hl 5 rfl) ?_
      refine lv_if_lt (tgt := 59) hx hb dX0_ancestorsOf_22 (by decide) (fun c_22 => ?_) (fun c_22 => ?_)
      · refine lv_lload hx hb dX0_ancestorsOf_59 (lv_at hl 4 rfl) ?_
        refine g_lret (u1 := u) hx hb hret hlk hQ hP hD hS dX0_ancestorsOf_61 ?_ ?_
        · exact (by rw [← hr] <;> rfl)
        · exact rfl
      · exact absurd (by decide +kernel) c_22
    | succ d ih =>
      intro fd H locs ls hP hD hS hl hd hr
      rw [nI_pred] at hl
      refine lv_iload hx hb dX0_ancestorsOf_20 (lv_at hl 5 rfl) ?_
      refine lv_if_lt (tgt := 59) hx hb dX0_ancestorsOf_22 (by decide) (fun c_22 => ?_) (fun c_22 => ?_)
      · exact absurd c_22 (nI_pos (by omega))
      · refine lv_lload hx hb dX0_ancestorsOf_25 (lv_at hl 4 rfl) ?_
        refine lv_lload hx hb dX0_ancestorsOf_27 (lv_at hl 3 rfl) ?_
        refine lv_ldc2 (v := (-1)) hx hb hown (hts _ lkX0_ancestorsOf_65) dX0_ancestorsOf_29 ?_
        refine lv_lxor hx hb dX0_ancestorsOf_32 ?_
        refine lv_land hx hb dX0_ancestorsOf_33 ?_
        refine lv_iload hx hb dX0_ancestorsOf_34 (lv_at hl 5 rfl) ?_
        refine g_callN0 (host := "FetchHouse") (As := [.long (fd &&& ((xShallow n (u.1 0) (u.1 1) p1) ^^^ (-1))), .int (nI d)]) (rest := []) hx hb hml hown hts (ctX2_contains l D cI cZ q (fd &&& ((xShallow n (u.1 0) (u.1 1) p1) ^^^ (-1))) (nI d)) gX0_ancestorsOf_X2_contains_n47 rfl rfl rfl (hE.1 _ (List.mem_of_getElem? (i := 3) rfl)) (hts _ lkX0_ancestorsOf_inRX2) (hts _ lkX0_ancestorsOf_stX2_contains) hdX2_contains ⟨Nat.le_of_ble_eq_true rfl, Nat.le_of_ble_eq_true rfl⟩ gEM_true trivial hP hK hS hA rfl hl.1 rfl (Nat.le_of_ble_eq_true rfl) dX0_ancestorsOf_36 ⟨Nat.zero_le _, Nat.zero_le _⟩ (fun H locs hP hS => ?_)
        refine W.eq (g2 := F0 m 39 ls [.int (xCon (fd &&& ((xShallow n (u.1 0) (u.1 1) p1) ^^^ (-1))) (nI d))]) rfl ?_
        refine lv_if_eq (tgt := 53) hx hb dX0_ancestorsOf_39 (by decide) (fun c_39 => ?_) (fun c_39 => ?_)
        · refine lv_iinc (v := ((nI d) - 1)) (lv' := [(9, .int ((nI d) - 1)), (0, .ref (q 1)), (1, .long p0), (3, .long p1), (5, .long (xShallow n (u.1 0) (u.1 1) p1)), (7, .long fd)]) hx hb dX0_ancestorsOf_53 hl (k := 5) rfl (g_dec1 _) (by decide) rfl (fun ls hl => ?_)
          refine lv_goto (tgt := 20) hx hb dX0_ancestorsOf_56 (by decide) ?_
          exact ih fd _ _ _ hP hD hS (lv_sub hl [1, 2, 3, 4, 5, 0] rfl) (by omega) (by rw [← hr]; show _ = itD _ d (xAncStep _ _ _ _ d fd); rw [show xAncStep n (u.1 0) (u.1 1) (xShallow n (u.1 0) (u.1 1) p1) d fd = fd from by simp only [xAncStep, c_22, c_39, ↓reduceIte, not_true_eq_false, not_false_eq_true]])
        · refine lv_lload hx hb dX0_ancestorsOf_42 (lv_at hl 4 rfl) ?_
          refine lv_aload_n hx hb dX0_ancestorsOf_44 rfl (lv_at hl 0 rfl) ?_
          refine lv_iload hx hb dX0_ancestorsOf_45 (lv_at hl 5 rfl) ?_
          refine g_callV (As := [.int (nI d)]) (rest := [.long fd]) hx hb hml hown hts (ctX0_parentsOf l D cI cZ q u n hn h60 (nI d)) gX0_ancestorsOf_X0_parentsOf rfl rfl rfl hdX0_parentsOf ⟨Nat.le_of_ble_eq_true rfl, Nat.le_of_ble_eq_true rfl⟩ XG_em hE hP hK hD hS hA 1 rfl rfl rfl hl.1 rfl (Nat.le_of_ble_eq_true rfl) dX0_ancestorsOf_47 ⟨Nat.zero_le _, Nat.zero_le _⟩ (fun H locs hP hD hS => ?_)
          have hP : va_P D vwCl (XW cI cZ q u) H := hP
          have hD : va_D A (XW cI cZ q u) := hD
          refine W.eq (g2 := F0 m 50 ls [.long (xPar n (u.1 0) (u.1 1) (nI d)), .long fd]) rfl ?_
          refine lv_lor hx hb dX0_ancestorsOf_50 ?_
          refine lv_lstore (lv' := [(7, .long (fd ||| (xPar n (u.1 0) (u.1 1) (nI d)))), (0, .ref (q 1)), (1, .long p0), (3, .long p1), (5, .long (xShallow n (u.1 0) (u.1 1) p1)), (9, .int (nI d))]) hx hb dX0_ancestorsOf_51 hl (by decide) rfl (fun ls hl => ?_)
          refine lv_iinc (v := ((nI d) - 1)) (lv' := [(9, .int ((nI d) - 1)), (7, .long (fd ||| (xPar n (u.1 0) (u.1 1) (nI d)))), (0, .ref (q 1)), (1, .long p0), (3, .long p1), (5, .long (xShallow n (u.1 0) (u.1 1) p1))]) hx hb dX0_ancestorsOf_53 hl (k := 5) rfl (g_dec1 _) (by decide) rfl (fun ls hl => ?_)
          refine lv_goto (tgt := 20) hx hb dX0_ancestorsOf_56 (by decide) ?_
          exact ih (fd ||| (xPar n (u.1 0) (u.1 1) (nI d))) _ _ _ hP hD hS (lv_sub hl [2, 3, 4, 5, 1, 0] rfl) (by omega) (by rw [← hr]; show _ = itD _ d (xAncStep _ _ _ _ d fd); rw [show xAncStep n (u.1 0) (u.1 1) (xShallow n (u.1 0) (u.1 1) p1) d fd = (fd ||| (xPar n (u.1 0) (u.1 1) (nI d))) from by simp only [xAncStep, c_22, c_39, ↓reduceIte, not_true_eq_false, not_false_eq_true]])
  exact loop n (p0 &&& p1) _ _ _ hP hD hS (lv_sub hl [3, 4, 5, 2, 1, 0] rfl) (by omega) rfl
theorem lkX0_findFilesOf_inRX2 : Cond.initialized RX2 ∈ wsX0_findFilesOf := List.mem_of_getElem? (i := 14) (by decide +kernel)
theorem lkX0_findFilesOf_stX2_isFile : Cond.static yX2_isFile ∈ wsX0_findFilesOf := List.mem_of_getElem? (i := 16) (by decide +kernel)
theorem lkX0_findFilesOf_24 : Cond.fieldLink RX0 24 "FetchHouse$History" "foundFiles" "[Z" ∈ wsX0_findFilesOf := List.mem_of_getElem? (i := 1) (by decide +kernel)
theorem inX0_findFilesOf_RX0 : ∀ w ∈ u_ws RX0 TX0 6, w ∈ wsX0_findFilesOf := fun w h => List.mem_cons_of_mem _ (List.mem_append_right _ h)
abbrev rmX0_findFilesOf : Room := { frames := 2, cells := 0, slots := 0, locals := 43 }
set_option maxHeartbeats 4000000 in
set_option maxRecDepth 100000 in
theorem ctX0_findFilesOf (l : Launch) (D : va_G) (cI cZ : ClassId) (q : Nat → Nat) (u : SX) (n : Nat) (hn : u.1 15 0 = nI n) (h60 : n ≤ 60) (p0 : Int32) : gM l yX0_findFilesOf wsX0_findFilesOf rmX0_findFilesOf D [(cI, .int), (cZ, .boolean)] (XW cI cZ q) XG [.ref (q 1), .int p0] u none (gS u 4 (xFind n (u.1 2) p0 (u.1 4))) := by
  refine g_start (cc := cX0_findFilesOf) (maxL := 4) (ret := none) (by decide) rfl (Nat.le_of_ble_eq_true rfl) ?_
  intro p e s m below meth c A ls Q hx hb hml hret hts hown hlk hE hP hK hD hA hl hQ hS
  have hown : s.vm.findClass RX0 = some m.cls := hown
  have hl : lv_has ls 4 [(0, .ref (q 1)), (1, .int p0)] := hl
  refine lv_iconst (v := (nI 0)) hx hb dX0_findFilesOf_0 (by decide +kernel) ?_
  refine lv_istore_n (lv' := [(2, .int (nI 0)), (0, .ref (q 1)), (1, .int p0)]) hx hb dX0_findFilesOf_1 rfl hl (by decide) rfl (fun ls hl => ?_)
  have loop : ∀ (d k : Nat) (ff : Nat → Int32) (H : Heap) (locs : List Loc) (ls : Array Slot) (hP : va_P D vwCl (XW cI cZ q (gS u 4 ff)) H) (hD : va_D A (XW cI cZ q (gS u 4 ff))) (hS : va_S A s.heap H locs) (hl : lv_has ls 4 [(0, .ref (q 1)), (1, .int p0), (2, .int (nI k))]) (hk : k + d = 4) (hr : itU (xFindStep n (u.1 2) p0) d k ff = (xFind n (u.1 2) p0 (u.1 4))), W p l e rmX0_findFilesOf s m ([.ref (q 1), .int p0] : List Value).toArray below meth c H locs 0 0 Q (F0 m 2 ls []) := by
    intro d
    induction d with
    | zero =>
      intro k ff H locs ls hP hD hS hl hk hr
      refine lv_iload_n hx hb dX0_findFilesOf_2 rfl (lv_at hl 2 rfl) ?_
      refine lv_iconst (v := 4) hx hb dX0_findFilesOf_3 (by decide +kernel) ?_
      refine lv_icmp_ge (tgt := 34) hx hb dX0_findFilesOf_4 (by decide) (fun c_4 => ?_) (fun c_4 => ?_)
      · have n_4 : 4 ≤ k := (g_leI (a := 4) (b := k) rfl rfl (by omega) (by omega)).mp c_4
        refine g_vret (u1 := (gS u 4 ff)) hx hb hret hlk hQ hP hD hS dX0_findFilesOf_34 ?_ ?_
        · exact rfl
        · exact (by rw [← hr] <;> rfl)
      · have n_4 : ¬ 4 ≤ k := fun h => c_4 ((g_leI (a := 4) (b := k) rfl rfl (by omega) (by omega)).mpr h)
        exfalso; omega
    | succ d ih =>
      intro k ff H locs ls hP hD hS hl hk hr
      refine lv_iload_n hx hb dX0_findFilesOf_2 rfl (lv_at hl 2 rfl) ?_
      refine lv_iconst (v := 4) hx hb dX0_findFilesOf_3 (by decide +kernel) ?_
      refine lv_icmp_ge (tgt := 34) hx hb dX0_findFilesOf_4 (by decide) (fun c_4 => ?_) (fun c_4 => ?_)
      · have n_4 : 4 ≤ k := (g_leI (a := 4) (b := k) rfl rfl (by omega) (by omega)).mp c_4
        exfalso; omega
      · have n_4 : ¬ 4 ≤ k := fun h => c_4 ((g_leI (a := 4) (b := k) rfl rfl (by omega) (by omega)).mpr h)
        refine lv_aload_n hx hb dX0_findFilesOf_7 rfl (lv_at hl 0 rfl) ?_
        refine lv_iload_n hx hb dX0_findFilesOf_8 rfl (lv_at hl 1 rfl) ?_
        refine lv_iload_n hx hb dX0_findFilesOf_9 rfl (lv_at hl 2 rfl) ?_
        refine g_callV (As := [.int p0, .int (nI k)]) (rest := []) hx hb hml hown hts (ctX0_fileIn l D cI cZ q (gS u 4 ff) n hn h60 p0 (nI k)) gX0_findFilesOf_X0_fileIn rfl rfl rfl hdX0_fileIn ⟨Nat.le_of_ble_eq_true rfl, Nat.le_of_ble_eq_true rfl⟩ XG_em hE hP hK hD hS hA 1 rfl rfl rfl hl.1 rfl (Nat.le_of_ble_eq_true rfl) dX0_findFilesOf_10 ⟨Nat.zero_le _, Nat.zero_le _⟩ (fun H locs hP hD hS => ?_)
        have hP : va_P D vwCl (XW cI cZ q (gS u 4 ff)) H := hP
        have hD : va_D A (XW cI cZ q (gS u 4 ff)) := hD
        refine W.eq (g2 := F0 m 13 ls [.int (xFileIn n (u.1 2) p0 (nI k))]) rfl ?_
        refine lv_istore_n (lv' := [(3, .int (xFileIn n (u.1 2) p0 (nI k))), (0, .ref (q 1)), (1, .int p0), (2, .int (nI k))]) hx hb dX0_findFilesOf_13 rfl hl (by decide) rfl (fun ls hl => ?_)
        refine lv_iload_n hx hb dX0_findFilesOf_14 rfl (lv_at hl 0 rfl) ?_
        refine g_callN0 (host := "FetchHouse") (As := [.int (xFileIn n (u.1 2) p0 (nI k))]) (rest := []) hx hb hml hown hts (ctX2_isFile l D cI cZ q (xFileIn n (u.1 2) p0 (nI k))) gX0_findFilesOf_X2_isFile_n55 rfl rfl rfl (hE.1 _ (List.mem_of_getElem? (i := 4) rfl)) (hts _ lkX0_findFilesOf_inRX2) (hts _ lkX0_findFilesOf_stX2_isFile) hdX2_isFile ⟨Nat.le_of_ble_eq_true rfl, Nat.le_of_ble_eq_true rfl⟩ gEM_true trivial hP hK hS hA rfl hl.1 rfl (Nat.le_of_ble_eq_true rfl) dX0_findFilesOf_15 ⟨Nat.zero_le _, Nat.zero_le _⟩ (fun H locs hP hS => ?_)
        refine W.eq (g2 := F0 m 18 ls [.int (xRange (xFileIn n (u.1 2) p0 (nI k)) 100)]) rfl ?_
        refine lv_if_eq (tgt := 28) hx hb dX0_findFilesOf_18 (by decide) (fun c_18 => ?_) (fun c_18 => ?_)
        · refine lv_iinc (v := (nI (k + 1))) (lv' := [(2, .int (nI (k + 1))), (3, .int (xFileIn n (u.1 2) p0 (nI k))), (0, .ref (q 1)), (1, .int p0)]) hx hb dX0_findFilesOf_28 hl (k := 3) rfl (nI_1 _) (by decide) rfl (fun ls hl => ?_)
          refine lv_goto (tgt := 2) hx hb dX0_findFilesOf_31 (by decide) ?_
          exact ih (k + 1) ff _ _ _ hP hD hS (lv_sub hl [2, 3, 0] rfl) (by omega) (by rw [← hr]; show _ = itU _ d (k + 1) (xFindStep _ _ _ k ff); rw [show xFindStep n (u.1 2) p0 k ff = ff from by simp only [xFindStep, c_4, c_18, ↓reduceIte, not_true_eq_false, not_false_eq_true]])
        · obtain ⟨j, hj, hj2⟩ := xRange_ne (n := 100) rfl (by omega) c_18
          have hfe : (xFileIn n (u.1 2) p0 (nI k)) = nI (xFileIn n (u.1 2) p0 (nI k)).toNatClampNeg := by rw [hj2, nI_clamp (by omega)]
          have hfb : (xFileIn n (u.1 2) p0 (nI k)).toNatClampNeg < 100 := by rw [hj2, nI_clamp (by omega)]; exact hj
          refine lv_aload_n hx hb dX0_findFilesOf_21 rfl (lv_at hl 1 rfl) ?_
          refine va_get (ci := 0) (v := .ref (q 8)) (C := RX0) (T := TX0) (N := 6) hx hb hts inX0_findFilesOf_RX0 hown hK hP 1 rfl rfl 4 (by decide) (hts _ lkX0_findFilesOf_24) (fun _ h9 => h9) rfl dX0_findFilesOf_22 ?_
          refine lv_iload_n hx hb dX0_findFilesOf_25 rfl (lv_at hl 0 rfl) ?_
          refine lv_iconst (v := 1) hx hb dX0_findFilesOf_26 (by decide +kernel) ?_
          refine g_zast (n := 100) (f := ff) (u' := (gS u 4 (upd ff (xFileIn n (u.1 2) p0 (nI k)).toNatClampNeg 1))) hx hb hK hP hD hS 8 1 rfl rfl (xFileIn n (u.1 2) p0 (nI k)).toNatClampNeg (by omega) (by omega) hfe rfl rfl dX0_findFilesOf_27 (fun H locs hP hD hS => ?_)
          refine lv_iinc (v := (nI (k + 1))) (lv' := [(2, .int (nI (k + 1))), (3, .int (xFileIn n (u.1 2) p0 (nI k))), (0, .ref (q 1)), (1, .int p0)]) hx hb dX0_findFilesOf_28 hl (k := 3) rfl (nI_1 _) (by decide) rfl (fun ls hl => ?_)
          refine lv_goto (tgt := 2) hx hb dX0_findFilesOf_31 (by decide) ?_
          exact ih (k + 1) (upd ff (xFileIn n (u.1 2) p0 (nI k)).toNatClampNeg 1) _ _ _ hP hD hS (lv_sub hl [2, 3, 0] rfl) (by omega) (by rw [← hr]; show _ = itU _ d (k + 1) (xFindStep _ _ _ k ff); rw [show xFindStep n (u.1 2) p0 k ff = (upd ff (xFileIn n (u.1 2) p0 (nI k)).toNatClampNeg 1) from by simp only [xFindStep, c_4, c_18, ↓reduceIte, not_true_eq_false, not_false_eq_true]])
  exact loop 4 0 (u.1 4) _ _ _ hP hD hS (lv_sub hl [1, 2, 0] rfl) (by omega) rfl
theorem lkX0_filesOf_inRX2 : Cond.initialized RX2 ∈ wsX0_filesOf := List.mem_of_getElem? (i := 4) (by decide +kernel)
theorem lkX0_filesOf_stX2_contains : Cond.static yX2_contains ∈ wsX0_filesOf := List.mem_of_getElem? (i := 3) (by decide +kernel)
theorem lkX0_filesOf_24 : Cond.fieldLink RX0 24 "FetchHouse$History" "foundFiles" "[Z" ∈ wsX0_filesOf := List.mem_of_getElem? (i := 1) (by decide +kernel)
theorem lkX0_filesOf_28 : Cond.fieldLink RX0 28 "FetchHouse$History" "made" "I" ∈ wsX0_filesOf := List.mem_of_getElem? (i := 2) (by decide +kernel)
theorem inX0_filesOf_RX0 : ∀ w ∈ u_ws RX0 TX0 6, w ∈ wsX0_filesOf := fun w h => List.mem_cons_of_mem _ (List.mem_append_right _ h)
abbrev rmX0_filesOf : Room := { frames := 3, cells := 0, slots := 0, locals := 66 }
set_option maxHeartbeats 4000000 in
set_option maxRecDepth 100000 in
theorem ctX0_filesOf (l : Launch) (D : va_G) (cI cZ : ClassId) (q : Nat → Nat) (u : SX) (n : Nat) (hn : u.1 15 0 = nI n) (h60 : n ≤ 60) (p0 : Int64) : gM l yX0_filesOf wsX0_filesOf rmX0_filesOf D [(cI, .int), (cZ, .boolean)] (XW cI cZ q) XG [.ref (q 1), .long p0] u (some (.ref (q 8))) (gS u 4 (xFiles n (u.1 2) p0 (u.1 4))) := by
  refine g_start (cc := cX0_filesOf) (maxL := 4) (ret := (some (.array .boolean))) (by decide) rfl (Nat.le_of_ble_eq_true rfl) ?_
  intro p e s m below meth c A ls Q hx hb hml hret hts hown hlk hE hP hK hD hA hl hQ hS
  have hown : s.vm.findClass RX0 = some m.cls := hown
  have hl : lv_has ls 4 [(0, .ref (q 1)), (1, .long p0)] := hl
  refine lv_iconst (v := (nI 0)) hx hb dX0_filesOf_0 (by decide +kernel) ?_
  refine lv_istore_n (lv' := [(3, .int (nI 0)), (0, .ref (q 1)), (1, .long p0)]) hx hb dX0_filesOf_1 rfl hl (by decide) rfl (fun ls hl => ?_)
  have loop : ∀ (d k : Nat) (ff : Nat → Int32) (H : Heap) (locs : List Loc) (ls : Array Slot) (hP : va_P D vwCl (XW cI cZ q (gS u 4 ff)) H) (hD : va_D A (XW cI cZ q (gS u 4 ff))) (hS : va_S A s.heap H locs) (hl : lv_has ls 4 [(0, .ref (q 1)), (1, .long p0), (3, .int (nI k))]) (hk : k + d = 100) (hr : itU xClrStep d k ff = xClr (u.1 4)), W p l e rmX0_filesOf s m ([.ref (q 1), .long p0] : List Value).toArray below meth c H locs 0 0 Q (F0 m 2 ls []) := by
    intro d
    induction d with
    | zero =>
      intro k ff H locs ls hP hD hS hl hk hr
      refine lv_iload_n hx hb dX0_filesOf_2 rfl (lv_at hl 2 rfl) ?_
      refine lv_bipush (v := 100) hx hb dX0_filesOf_3 (by decide +kernel) ?_
      refine lv_icmp_ge (tgt := 21) hx hb dX0_filesOf_5 (by decide) (fun c_5 => ?_) (fun c_5 => ?_)
      · have n_5 : 100 ≤ k := (g_leI (a := 100) (b := k) rfl rfl (by omega) (by omega)).mp c_5
        refine lv_iconst (v := (nI 0)) hx hb dX0_filesOf_21 (by decide +kernel) ?_
        refine lv_istore_n (lv' := [(3, .int (nI 0)), (0, .ref (q 1)), (1, .long p0)]) hx hb dX0_filesOf_22 rfl hl (by decide) rfl (fun ls hl => ?_)
        have loop2 : ∀ (d2 k2 : Nat) (gg : Nat → Int32) (H : Heap) (locs : List Loc) (ls : Array Slot) (hP : va_P D vwCl (XW cI cZ q (gS u 4 gg)) H) (hD : va_D A (XW cI cZ q (gS u 4 gg))) (hS : va_S A s.heap H locs) (hl : lv_has ls 4 [(0, .ref (q 1)), (1, .long p0), (3, .int (nI k2))]) (hk2 : k2 + d2 = n) (hr2 : itU (xFilesStep n (u.1 2) p0) d2 k2 gg = (xFiles n (u.1 2) p0 (u.1 4))), W p l e rmX0_filesOf s m ([.ref (q 1), .long p0] : List Value).toArray below meth c H locs 0 0 Q (F0 m 23 ls []) := by
          intro d2
          induction d2 with
          | zero =>
            intro k2 gg H locs ls hP hD hS hl hk2 hr2
            refine lv_iload_n hx hb dX0_filesOf_23 rfl (lv_at hl 2 rfl) ?_
            refine lv_aload_n hx hb dX0_filesOf_24 rfl (lv_at hl 0 rfl) ?_
            refine va_get (ci := 0) (v := .int (nI n)) (C := RX0) (T := TX0) (N := 6) hx hb hts inX0_filesOf_RX0 hown hK hP 1 rfl rfl 5 (by decide) (hts _ lkX0_filesOf_28) (fun _ h9 => h9) (congrArg (fun z => some (Value.int z)) hn) dX0_filesOf_25 ?_
            refine lv_icmp_ge (tgt := 50) hx hb dX0_filesOf_28 (by decide) (fun c_28 => ?_) (fun c_28 => ?_)
            · have n_28 : n ≤ k2 := (g_leI (a := n) (b := k2) rfl rfl (by omega) (by omega)).mp c_28
              refine lv_aload_n hx hb dX0_filesOf_50 rfl (lv_at hl 0 rfl) ?_
              refine va_get (ci := 0) (v := .ref (q 8)) (C := RX0) (T := TX0) (N := 6) hx hb hts inX0_filesOf_RX0 hown hK hP 1 rfl rfl 4 (by decide) (hts _ lkX0_filesOf_24) (fun _ h9 => h9) rfl dX0_filesOf_51 ?_
              refine g_aret (u1 := (gS u 4 gg)) hx hb hret (Or.inr ⟨_, rfl⟩) hlk hQ hP hD hS dX0_filesOf_54 ?_ ?_
              · exact rfl
              · exact (by rw [← hr2] <;> rfl)
            · have n_28 : ¬ n ≤ k2 := fun h => c_28 ((g_leI (a := n) (b := k2) rfl rfl (by omega) (by omega)).mpr h)
              exfalso; omega
          | succ d2 ih =>
            intro k2 gg H locs ls hP hD hS hl hk2 hr2
            refine lv_iload_n hx hb dX0_filesOf_23 rfl (lv_at hl 2 rfl) ?_
            refine lv_aload_n hx hb dX0_filesOf_24 rfl (lv_at hl 0 rfl) ?_
            refine va_get (ci := 0) (v := .int (nI n)) (C := RX0) (T := TX0) (N := 6) hx hb hts inX0_filesOf_RX0 hown hK hP 1 rfl rfl 5 (by decide) (hts _ lkX0_filesOf_28) (fun _ h9 => h9) (congrArg (fun z => some (Value.int z)) hn) dX0_filesOf_25 ?_
            refine lv_icmp_ge (tgt := 50) hx hb dX0_filesOf_28 (by decide) (fun c_28 => ?_) (fun c_28 => ?_)
            · have n_28 : n ≤ k2 := (g_leI (a := n) (b := k2) rfl rfl (by omega) (by omega)).mp c_28
              exfalso; omega
            · have n_28 : ¬ n ≤ k2 := fun h => c_28 ((g_leI (a := n) (b := k2) rfl rfl (by omega) (by omega)).mpr h)
              refine lv_lload_n hx hb dX0_filesOf_31 rfl (lv_at hl 1 rfl) ?_
              refine lv_iload_n hx hb dX0_filesOf_32 rfl (lv_at hl 2 rfl) ?_
              refine g_callN0 (host := "FetchHouse") (As := [.long p0, .int (nI k2)]) (rest := []) hx hb hml hown hts (ctX2_contains l D cI cZ q p0 (nI k2)) gX0_filesOf_X2_contains_n47 rfl rfl rfl (hE.1 _ (List.mem_of_getElem? (i := 3) rfl)) (hts _ lkX0_filesOf_inRX2) (hts _ lkX0_filesOf_stX2_contains) hdX2_contains ⟨Nat.le_of_ble_eq_true rfl, Nat.le_of_ble_eq_true rfl⟩ gEM_true trivial hP hK hS hA rfl hl.1 rfl (Nat.le_of_ble_eq_true rfl) dX0_filesOf_33 ⟨Nat.zero_le _, Nat.zero_le _⟩ (fun H locs hP hS => ?_)
              refine W.eq (g2 := F0 m 36 ls [.int (xCon p0 (nI k2))]) rfl ?_
              refine lv_if_eq (tgt := 44) hx hb dX0_filesOf_36 (by decide) (fun c_36 => ?_) (fun c_36 => ?_)
              · refine lv_iinc (v := (nI (k2 + 1))) (lv' := [(3, .int (nI (k2 + 1))), (0, .ref (q 1)), (1, .long p0)]) hx hb dX0_filesOf_44 hl (k := 2) rfl (nI_1 _) (by decide) rfl (fun ls hl => ?_)
                refine lv_goto (tgt := 23) hx hb dX0_filesOf_47 (by decide) ?_
                exact ih (k2 + 1) gg _ _ _ hP hD hS (lv_sub hl [1, 2, 0] rfl) (by omega) (by rw [← hr2]; show _ = itU _ d2 (k2 + 1) (xFilesStep _ _ _ k2 gg); rw [show xFilesStep n (u.1 2) p0 k2 gg = gg from by simp only [xFilesStep, c_5, c_28, c_36, ↓reduceIte, not_true_eq_false, not_false_eq_true]])
              · refine lv_aload_n hx hb dX0_filesOf_39 rfl (lv_at hl 0 rfl) ?_
                refine lv_iload_n hx hb dX0_filesOf_40 rfl (lv_at hl 2 rfl) ?_
                refine g_callV (As := [.int (nI k2)]) (rest := []) hx hb hml hown hts (ctX0_findFilesOf l D cI cZ q (gS u 4 gg) n hn h60 (nI k2)) gX0_filesOf_X0_findFilesOf rfl rfl rfl hdX0_findFilesOf ⟨Nat.le_of_ble_eq_true rfl, Nat.le_of_ble_eq_true rfl⟩ XG_em hE hP hK hD hS hA 1 rfl rfl rfl hl.1 rfl (Nat.le_of_ble_eq_true rfl) dX0_filesOf_41 ⟨Nat.zero_le _, Nat.zero_le _⟩ (fun H locs hP hD hS => ?_)
                have hP : va_P D vwCl (XW cI cZ q (gS u 4 (xFind n (u.1 2) (nI k2) gg))) H := hP
                have hD : va_D A (XW cI cZ q (gS u 4 (xFind n (u.1 2) (nI k2) gg))) := hD
                refine W.eq (g2 := F0 m 44 ls []) rfl ?_
                refine lv_iinc (v := (nI (k2 + 1))) (lv' := [(3, .int (nI (k2 + 1))), (0, .ref (q 1)), (1, .long p0)]) hx hb dX0_filesOf_44 hl (k := 2) rfl (nI_1 _) (by decide) rfl (fun ls hl => ?_)
                refine lv_goto (tgt := 23) hx hb dX0_filesOf_47 (by decide) ?_
                exact ih (k2 + 1) (xFind n (u.1 2) (nI k2) gg) _ _ _ hP hD hS (lv_sub hl [1, 2, 0] rfl) (by omega) (by rw [← hr2]; show _ = itU _ d2 (k2 + 1) (xFilesStep _ _ _ k2 gg); rw [show xFilesStep n (u.1 2) p0 k2 gg = (xFind n (u.1 2) (nI k2) gg) from by simp only [xFilesStep, c_5, c_28, c_36, ↓reduceIte, not_true_eq_false, not_false_eq_true]])
        exact loop2 n 0 ff _ _ _ hP hD hS (lv_sub hl [1, 2, 0] rfl) (by omega) (by rw [show ff = xClr (u.1 4) from hr] <;> rfl)
      · have n_5 : ¬ 100 ≤ k := fun h => c_5 ((g_leI (a := 100) (b := k) rfl rfl (by omega) (by omega)).mpr h)
        exfalso; omega
    | succ d ih =>
      intro k ff H locs ls hP hD hS hl hk hr
      refine lv_iload_n hx hb dX0_filesOf_2 rfl (lv_at hl 2 rfl) ?_
      refine lv_bipush (v := 100) hx hb dX0_filesOf_3 (by decide +kernel) ?_
      refine lv_icmp_ge (tgt := 21) hx hb dX0_filesOf_5 (by decide) (fun c_5 => ?_) (fun c_5 => ?_)
      · have n_5 : 100 ≤ k := (g_leI (a := 100) (b := k) rfl rfl (by omega) (by omega)).mp c_5
        exfalso; omega
      · have n_5 : ¬ 100 ≤ k := fun h => c_5 ((g_leI (a := 100) (b := k) rfl rfl (by omega) (by omega)).mpr h)
        refine lv_aload_n hx hb dX0_filesOf_8 rfl (lv_at hl 0 rfl) ?_
        refine va_get (ci := 0) (v := .ref (q 8)) (C := RX0) (T := TX0) (N := 6) hx hb hts inX0_filesOf_RX0 hown hK hP 1 rfl rfl 4 (by decide) (hts _ lkX0_filesOf_24) (fun _ h9 => h9) rfl dX0_filesOf_9 ?_
        refine lv_iload_n hx hb dX0_filesOf_12 rfl (lv_at hl 2 rfl) ?_
        refine lv_iconst (v := 0) hx hb dX0_filesOf_13 (by decide +kernel) ?_
        refine g_zast (n := 100) (f := ff) (u' := (gS u 4 (upd ff k 0))) hx hb hK hP hD hS 8 1 rfl rfl k (by omega) (by omega) rfl rfl rfl dX0_filesOf_14 (fun H locs hP hD hS => ?_)
        refine lv_iinc (v := (nI (k + 1))) (lv' := [(3, .int (nI (k + 1))), (0, .ref (q 1)), (1, .long p0)]) hx hb dX0_filesOf_15 hl (k := 2) rfl (nI_1 _) (by decide) rfl (fun ls hl => ?_)
        refine lv_goto (tgt := 2) hx hb dX0_filesOf_18 (by decide) ?_
        exact ih (k + 1) (upd ff k 0) _ _ _ hP hD hS (lv_sub hl [1, 2, 0] rfl) (by omega) (by rw [← hr] <;> rfl)
  exact loop 100 0 (u.1 4) _ _ _ hP hD hS (lv_sub hl [1, 2, 0] rfl) (by omega) rfl
theorem lkX0_append_15 : Cond.fieldLink RX0 15 "FetchHouse$History" "secondParents" "[I" ∈ wsX0_append := List.mem_of_getElem? (i := 3) (by decide +kernel)
theorem lkX0_append_18 : Cond.fieldLink RX0 18 "FetchHouse$History" "slotFiles" "[I" ∈ wsX0_append := List.mem_of_getElem? (i := 4) (by decide +kernel)
theorem lkX0_append_28 : Cond.fieldLink RX0 28 "FetchHouse$History" "made" "I" ∈ wsX0_append := List.mem_of_getElem? (i := 1) (by decide +kernel)
theorem lkX0_append_9 : Cond.fieldLink RX0 9 "FetchHouse$History" "firstParents" "[I" ∈ wsX0_append := List.mem_of_getElem? (i := 2) (by decide +kernel)
theorem inX0_append_RX0 : ∀ w ∈ u_ws RX0 TX0 6, w ∈ wsX0_append := fun w h => List.mem_cons_of_mem _ (List.mem_append_right _ h)
abbrev rmX0_append : Room := { frames := 2, cells := 0, slots := 0, locals := 43 }
set_option maxHeartbeats 4000000 in
set_option maxRecDepth 100000 in
theorem ctX0_append (l : Launch) (D : va_G) (cI cZ : ClassId) (q : Nat → Nat) (u : SX) (n : Nat) (hn : u.1 15 0 = nI n) (h60 : n ≤ 60) (h59 : n < 60) (p0 p1 p2 p3 : Int32) : gM l yX0_append wsX0_append rmX0_append D [(cI, .int), (cZ, .boolean)] (XW cI cZ q) XG [.ref (q 1), .int p0, .int p1, .int p2, .int p3] u (some (.int (nI n))) (gS (gS (gS (gS u 0 (upd (u.1 0) n p0)) 1 (upd (u.1 1) n p1)) 2 (xSlots n p0 p2 p3 (u.1 2))) 15 (fun _ => (nI n + 1))) := by
  refine g_start (cc := cX0_append) (maxL := 7) (ret := (some .int)) (by decide) rfl (Nat.le_of_ble_eq_true rfl) ?_
  intro p e s m below meth c A ls Q hx hb hml hret hts hown hlk hE hP hK hD hA hl hQ hS
  have hown : s.vm.findClass RX0 = some m.cls := hown
  have hl : lv_has ls 7 [(0, .ref (q 1)), (1, .int p0), (2, .int p1), (3, .int p2), (4, .int p3)] := hl
  refine lv_aload_n hx hb dX0_append_0 rfl (lv_at hl 0 rfl) ?_
  refine g_callV (As := []) (rest := []) hx hb hml hown hts (ctX0_isFull l D cI cZ q u n hn h60) gX0_append_X0_isFull rfl rfl rfl hdX0_isFull ⟨Nat.le_of_ble_eq_true rfl, Nat.le_of_ble_eq_true rfl⟩ XG_em hE hP hK hD hS hA 1 rfl rfl rfl hl.1 rfl (Nat.le_of_ble_eq_true rfl) dX0_append_1 ⟨Nat.zero_le _, Nat.zero_le _⟩ (fun H locs hP hD hS => ?_)
  have hP : va_P D vwCl (XW cI cZ q u) H := hP
  have hD : va_D A (XW cI cZ q u) := hD
  refine W.eq (g2 := F0 m 4 ls [.int (if n < 60 then 0 else 1)]) rfl ?_
  refine lv_if_eq (tgt := 9) hx hb dX0_append_4 (by decide) (fun c_4 => ?_) (fun c_4 => ?_)
  · refine lv_aload_n hx hb dX0_append_9 rfl (lv_at hl 0 rfl) ?_
    refine va_get (ci := 0) (v := .int (nI n)) (C := RX0) (T := TX0) (N := 6) hx hb hts inX0_append_RX0 hown hK hP 1 rfl rfl 5 (by decide) (hts _ lkX0_append_28) (fun _ h9 => h9) (congrArg (fun z => some (Value.int z)) hn) dX0_append_10 ?_
    refine lv_istore (lv' := [(5, .int (nI n)), (0, .ref (q 1)), (1, .int p0), (2, .int p1), (3, .int p2), (4, .int p3)]) hx hb dX0_append_13 hl (by decide) rfl (fun ls hl => ?_)
    refine lv_aload_n hx hb dX0_append_15 rfl (lv_at hl 1 rfl) ?_
    refine va_get (ci := 0) (v := .ref (q 4)) (C := RX0) (T := TX0) (N := 6) hx hb hts inX0_append_RX0 hown hK hP 1 rfl rfl 0 (by decide) (hts _ lkX0_append_9) (fun _ h9 => h9) rfl dX0_append_16 ?_
    refine lv_iload hx hb dX0_append_19 (lv_at hl 0 rfl) ?_
    refine lv_iload_n hx hb dX0_append_21 rfl (lv_at hl 2 rfl) ?_
    refine g_iast (n := 60) (f := (u.1 0)) (u' := (gS u 0 (upd (u.1 0) n p0))) hx hb hK hP hD hS 4 0 rfl rfl n (by omega) (by omega) rfl rfl dX0_append_22 (fun H locs hP hD hS => ?_)
    refine lv_aload_n hx hb dX0_append_23 rfl (lv_at hl 1 rfl) ?_
    refine va_get (ci := 0) (v := .ref (q 5)) (C := RX0) (T := TX0) (N := 6) hx hb hts inX0_append_RX0 hown hK hP 1 rfl rfl 1 (by decide) (hts _ lkX0_append_15) (fun _ h9 => h9) rfl dX0_append_24 ?_
    refine lv_iload hx hb dX0_append_27 (lv_at hl 0 rfl) ?_
    refine lv_iload_n hx hb dX0_append_29 rfl (lv_at hl 3 rfl) ?_
    refine g_iast (n := 60) (f := (u.1 1)) (u' := (gS (gS u 0 (upd (u.1 0) n p0)) 1 (upd (u.1 1) n p1))) hx hb hK hP hD hS 5 0 rfl rfl n (by omega) (by omega) rfl rfl dX0_append_30 (fun H locs hP hD hS => ?_)
    refine lv_iconst (v := (nI 0)) hx hb dX0_append_31 (by decide +kernel) ?_
    refine lv_istore (lv' := [(6, .int (nI 0)), (5, .int (nI n)), (0, .ref (q 1)), (1, .int p0), (2, .int p1), (3, .int p2), (4, .int p3)]) hx hb dX0_append_32 hl (by decide) rfl (fun ls hl => ?_)
    have loop : ∀ (d k : Nat) (sf : Nat → Int32) (H : Heap) (locs : List Loc) (ls : Array Slot) (hP : va_P D vwCl (XW cI cZ q (gS (gS (gS u 0 (upd (u.1 0) n p0)) 1 (upd (u.1 1) n p1)) 2 sf)) H) (hD : va_D A (XW cI cZ q (gS (gS (gS u 0 (upd (u.1 0) n p0)) 1 (upd (u.1 1) n p1)) 2 sf))) (hS : va_S A s.heap H locs) (hl : lv_has ls 7 [(0, .ref (q 1)), (1, .int p0), (2, .int p1), (3, .int p2), (4, .int p3), (5, .int (nI n)), (6, .int (nI k))]) (hk : k + d = 4) (hr : itU (xSlotStep n p0 p2 p3) d k sf = (xSlots n p0 p2 p3 (u.1 2))), W p l e rmX0_append s m ([.ref (q 1), .int p0, .int p1, .int p2, .int p3] : List Value).toArray below meth c H locs 0 0 Q (F0 m 34 ls []) := by
      intro d
      induction d with
      | zero =>
        intro k sf H locs ls hP hD hS hl hk hr
        refine lv_iload hx hb dX0_append_34 (lv_at hl 6 rfl) ?_
        refine lv_iconst (v := 4) hx hb dX0_append_36 (by decide +kernel) ?_
        refine lv_icmp_ge (tgt := 76) hx hb dX0_append_37 (by decide) (fun c_37 => ?_) (fun c_37 => ?_)
        · have n_37 : 4 ≤ k := (g_leI (a := 4) (b := k) rfl rfl (by omega) (by omega)).mp c_37
          refine lv_aload_n hx hb dX0_append_76 rfl (lv_at hl 0 rfl) ?_
          refine lv_dup hx hb dX0_append_77 rfl ?_
          refine va_get (ci := 0) (v := .int (nI n)) (C := RX0) (T := TX0) (N := 6) hx hb hts inX0_append_RX0 hown hK hP 1 rfl rfl 5 (by decide) (hts _ lkX0_append_28) (fun _ h9 => h9) (congrArg (fun z => some (Value.int z)) hn) dX0_append_78 ?_
          refine lv_iconst (v := 1) hx hb dX0_append_81 (by decide +kernel) ?_
          refine lv_iadd hx hb dX0_append_82 ?_
          refine va_put (ci := 0) (v := .int ((nI n) + 1)) (ty := .int) (C := RX0) (T := TX0) (N := 6) hx hb hts inX0_append_RX0 tyX0 tyX0_ok nmX0 hown hK hP hD hS 1 rfl rfl 5 (by decide) (hts _ lkX0_append_28) (fun _ h9 => h9) rfl (by decide +kernel) rfl rfl (Nat.le_of_ble_eq_true rfl) dX0_append_83 (fun H locs hP hD hS => ?_)
          have hP : va_P D vwCl (XW cI cZ q (gS (gS (gS (gS u 0 (upd (u.1 0) n p0)) 1 (upd (u.1 1) n p1)) 2 sf) 15 (fun _ => ((nI n) + 1)))) H := hP
          have hD : va_D A (XW cI cZ q (gS (gS (gS (gS u 0 (upd (u.1 0) n p0)) 1 (upd (u.1 1) n p1)) 2 sf) 15 (fun _ => ((nI n) + 1)))) := hD
          refine lv_iload hx hb dX0_append_86 (lv_at hl 5 rfl) ?_
          refine g_iret (u1 := (gS (gS (gS (gS u 0 (upd (u.1 0) n p0)) 1 (upd (u.1 1) n p1)) 2 sf) 15 (fun _ => ((nI n) + 1)))) hx hb hret hlk hQ hP hD hS dX0_append_88 ?_ ?_
          · exact rfl
          · exact (by rw [← hr] <;> rfl)
        · have n_37 : ¬ 4 ≤ k := fun h => c_37 ((g_leI (a := 4) (b := k) rfl rfl (by omega) (by omega)).mpr h)
          exfalso; omega
      | succ d ih =>
        intro k sf H locs ls hP hD hS hl hk hr
        refine lv_iload hx hb dX0_append_34 (lv_at hl 6 rfl) ?_
        refine lv_iconst (v := 4) hx hb dX0_append_36 (by decide +kernel) ?_
        refine lv_icmp_ge (tgt := 76) hx hb dX0_append_37 (by decide) (fun c_37 => ?_) (fun c_37 => ?_)
        · have n_37 : 4 ≤ k := (g_leI (a := 4) (b := k) rfl rfl (by omega) (by omega)).mp c_37
          exfalso; omega
        · have n_37 : ¬ 4 ≤ k := fun h => c_37 ((g_leI (a := 4) (b := k) rfl rfl (by omega) (by omega)).mpr h)
          refine lv_aload_n hx hb dX0_append_40 rfl (lv_at hl 0 rfl) ?_
          refine va_get (ci := 0) (v := .ref (q 6)) (C := RX0) (T := TX0) (N := 6) hx hb hts inX0_append_RX0 hown hK hP 1 rfl rfl 2 (by decide) (hts _ lkX0_append_18) (fun _ h9 => h9) rfl dX0_append_41 ?_
          refine lv_iload hx hb dX0_append_44 (lv_at hl 5 rfl) ?_
          refine lv_iconst (v := 4) hx hb dX0_append_46 (by decide +kernel) ?_
          refine lv_imul hx hb dX0_append_47 ?_
          refine lv_iload hx hb dX0_append_48 (lv_at hl 6 rfl) ?_
          refine lv_iadd hx hb dX0_append_50 ?_
          refine lv_iload hx hb dX0_append_51 (lv_at hl 6 rfl) ?_
          refine lv_iload_n hx hb dX0_append_53 rfl (lv_at hl 3 rfl) ?_
          refine lv_icmp_ne (tgt := 62) hx hb dX0_append_54 (by decide) (fun c_54 => ?_) (fun c_54 => ?_)
          · refine lv_aload_n hx hb dX0_append_62 rfl (lv_at hl 0 rfl) ?_
            refine lv_iload_n hx hb dX0_append_63 rfl (lv_at hl 1 rfl) ?_
            refine lv_iload hx hb dX0_append_64 (lv_at hl 6 rfl) ?_
            refine g_callV (As := [.int p0, .int (nI k)]) (rest := [.int (((nI n) * 4) + (nI k)), .ref (q 6)]) hx hb hml hown hts (ctX0_fileIn l D cI cZ q (gS (gS (gS u 0 (upd (u.1 0) n p0)) 1 (upd (u.1 1) n p1)) 2 sf) n hn h60 p0 (nI k)) gX0_append_X0_fileIn rfl rfl rfl hdX0_fileIn ⟨Nat.le_of_ble_eq_true rfl, Nat.le_of_ble_eq_true rfl⟩ XG_em hE hP hK hD hS hA 1 rfl rfl rfl hl.1 rfl (Nat.le_of_ble_eq_true rfl) dX0_append_66 ⟨Nat.zero_le _, Nat.zero_le _⟩ (fun H locs hP hD hS => ?_)
            have hP : va_P D vwCl (XW cI cZ q (gS (gS (gS u 0 (upd (u.1 0) n p0)) 1 (upd (u.1 1) n p1)) 2 sf)) H := hP
            have hD : va_D A (XW cI cZ q (gS (gS (gS u 0 (upd (u.1 0) n p0)) 1 (upd (u.1 1) n p1)) 2 sf)) := hD
            refine W.eq (g2 := F0 m 69 ls [.int (xFileIn n sf p0 (nI k)), .int (((nI n) * 4) + (nI k)), .ref (q 6)]) rfl ?_
            refine g_iast (n := 240) (f := sf) (u' := (gS (gS (gS u 0 (upd (u.1 0) n p0)) 1 (upd (u.1 1) n p1)) 2 (upd sf ((n * 4) + k) (xFileIn n sf p0 (nI k))))) hx hb hK hP hD hS 6 0 rfl rfl ((n * 4) + k) (by omega) (by omega) (g_addE (g_mulE rfl rfl) rfl) rfl dX0_append_69 (fun H locs hP hD hS => ?_)
            refine lv_iinc (v := (nI (k + 1))) (lv' := [(6, .int (nI (k + 1))), (0, .ref (q 1)), (1, .int p0), (2, .int p1), (3, .int p2), (4, .int p3), (5, .int (nI n))]) hx hb dX0_append_70 hl (k := 6) rfl (nI_1 _) (by decide) rfl (fun ls hl => ?_)
            refine lv_goto (tgt := 34) hx hb dX0_append_73 (by decide) ?_
            exact ih (k + 1) (upd sf ((n * 4) + k) (xFileIn n sf p0 (nI k))) _ _ _ hP hD hS (lv_sub hl [1, 2, 3, 4, 5, 6, 0] rfl) (by omega) (by rw [← hr]; show _ = itU _ d (k + 1) (xSlotStep _ _ _ _ k sf); rw [show xSlotStep n p0 p2 p3 k sf = (upd sf ((n * 4) + k) (xFileIn n sf p0 (nI k))) from by simp only [xSlotStep, c_4, c_37, c_54, ↓reduceIte, not_true_eq_false, not_false_eq_true]])
          · refine lv_iload hx hb dX0_append_57 (lv_at hl 4 rfl) ?_
            refine lv_goto (tgt := 69) hx hb dX0_append_59 (by decide) ?_
            refine g_iast (n := 240) (f := sf) (u' := (gS (gS (gS u 0 (upd (u.1 0) n p0)) 1 (upd (u.1 1) n p1)) 2 (upd sf ((n * 4) + k) p3))) hx hb hK hP hD hS 6 0 rfl rfl ((n * 4) + k) (by omega) (by omega) (g_addE (g_mulE rfl rfl) rfl) rfl dX0_append_69 (fun H locs hP hD hS => ?_)
            refine lv_iinc (v := (nI (k + 1))) (lv' := [(6, .int (nI (k + 1))), (0, .ref (q 1)), (1, .int p0), (2, .int p1), (3, .int p2), (4, .int p3), (5, .int (nI n))]) hx hb dX0_append_70 hl (k := 6) rfl (nI_1 _) (by decide) rfl (fun ls hl => ?_)
            refine lv_goto (tgt := 34) hx hb dX0_append_73 (by decide) ?_
            exact ih (k + 1) (upd sf ((n * 4) + k) p3) _ _ _ hP hD hS (lv_sub hl [1, 2, 3, 4, 5, 6, 0] rfl) (by omega) (by rw [← hr]; show _ = itU _ d (k + 1) (xSlotStep _ _ _ _ k sf); rw [show xSlotStep n p0 p2 p3 k sf = (upd sf ((n * 4) + k) p3) from by simp only [xSlotStep, c_4, c_37, c_54, ↓reduceIte, not_true_eq_false, not_false_eq_true]])
    exact loop 4 0 (u.1 2) _ _ _ hP hD hS (lv_sub hl [2, 3, 4, 5, 6, 1, 0] rfl) (by omega) rfl
  · exact absurd (if_pos h59) c_4
abbrev rmX0_fill : Room := { frames := 0, cells := 0, slots := 0, locals := 0 }
set_option maxHeartbeats 4000000 in
set_option maxRecDepth 100000 in
theorem ctX0_fill (l : Launch) (D : va_G) (cI cZ : ClassId) (q : Nat → Nat) (u : SX) (p1 : Int32) : gM l yJ7_fill_53178 wsJ7_fill_53178 rmX0_fill D [(cI, .int), (cZ, .boolean)] (XW cI cZ q) (fun _ => True) [.ref (q 7), .int p1] u none (gS u 3 (xFill p1 (u.1 3))) := by
  refine g_start (cc := cJ7_fill_53178) (maxL := 4) (ret := none) (by decide) rfl (Nat.le_of_ble_eq_true rfl) ?_
  intro p e s m below meth c A ls Q hx hb hml hret hts hown hlk hE hP hK hD hA hl hQ hS
  have hown : s.vm.findClass RJ7 = some m.cls := hown
  have hl : lv_has ls 4 [(0, .ref (q 7)), (1, .int p1)] := hl
  refine lv_iconst (v := (nI 0)) hx hb dJ7_fill_53178_0 (by decide +kernel) ?_
  refine lv_istore_n (lv' := [(2, .int (nI 0)), (0, .ref (q 7)), (1, .int p1)]) hx hb dJ7_fill_53178_1 rfl hl (by decide) rfl (fun ls hl => ?_)
  refine lv_aload_n hx hb dJ7_fill_53178_2 rfl (lv_at hl 1 rfl) ?_
  refine va_alen (v := 60) (ty := .int) hx hb hK hP 7 rfl (t0 := 0) rfl rfl dJ7_fill_53178_3 ?_
  refine lv_istore_n (lv' := [(3, .int 60), (2, .int (nI 0)), (0, .ref (q 7)), (1, .int p1)]) hx hb dJ7_fill_53178_4 rfl hl (by decide) rfl (fun ls hl => ?_)
  have loop : ∀ (d k : Nat) (ff : Nat → Int32) (H : Heap) (locs : List Loc) (ls : Array Slot) (hP : va_P D vwCl (XW cI cZ q (gS u 3 ff)) H) (hD : va_D A (XW cI cZ q (gS u 3 ff))) (hS : va_S A s.heap H locs) (hl : lv_has ls 4 [(0, .ref (q 7)), (1, .int p1), (2, .int (nI k)), (3, .int 60)]) (hk : k + d = 60) (hr : itU (fun k f => upd f k p1) d k ff = xFill p1 (u.1 3)), W p l e rmX0_fill s m ([.ref (q 7), .int p1] : List Value).toArray below meth c H locs 0 0 Q (F0 m 5 ls []) := by
    intro d
    induction d with
    | zero =>
      intro k ff H locs ls hP hD hS hl hk hr
      refine lv_iload_n hx hb dJ7_fill_53178_5 rfl (lv_at hl 2 rfl) ?_
      refine lv_iload_n hx hb dJ7_fill_53178_6 rfl (lv_at hl 3 rfl) ?_
      refine lv_icmp_ge (tgt := 20) hx hb dJ7_fill_53178_7 (by decide) (fun c_7 => ?_) (fun c_7 => ?_)
      · have n_7 : 60 ≤ k := (g_leI (a := 60) (b := k) rfl rfl (by omega) (by omega)).mp c_7
        refine g_vret (u1 := (gS u 3 ff)) hx hb hret hlk hQ hP hD hS dJ7_fill_53178_20 ?_ ?_
        · exact rfl
        · exact (by rw [← hr] <;> rfl)
      · have n_7 : ¬ 60 ≤ k := fun h => c_7 ((g_leI (a := 60) (b := k) rfl rfl (by omega) (by omega)).mpr h)
        exfalso; omega
    | succ d ih =>
      intro k ff H locs ls hP hD hS hl hk hr
      refine lv_iload_n hx hb dJ7_fill_53178_5 rfl (lv_at hl 2 rfl) ?_
      refine lv_iload_n hx hb dJ7_fill_53178_6 rfl (lv_at hl 3 rfl) ?_
      refine lv_icmp_ge (tgt := 20) hx hb dJ7_fill_53178_7 (by decide) (fun c_7 => ?_) (fun c_7 => ?_)
      · have n_7 : 60 ≤ k := (g_leI (a := 60) (b := k) rfl rfl (by omega) (by omega)).mp c_7
        exfalso; omega
      · have n_7 : ¬ 60 ≤ k := fun h => c_7 ((g_leI (a := 60) (b := k) rfl rfl (by omega) (by omega)).mpr h)
        refine lv_aload_n hx hb dJ7_fill_53178_10 rfl (lv_at hl 0 rfl) ?_
        refine lv_iload_n hx hb dJ7_fill_53178_11 rfl (lv_at hl 2 rfl) ?_
        refine lv_iload_n hx hb dJ7_fill_53178_12 rfl (lv_at hl 1 rfl) ?_
        refine g_iast (n := 60) (f := ff) (u' := (gS u 3 (upd ff k p1))) hx hb hK hP hD hS 7 0 rfl rfl k (by omega) (by omega) rfl rfl dJ7_fill_53178_13 (fun H locs hP hD hS => ?_)
        refine lv_iinc (v := (nI (k + 1))) (lv' := [(2, .int (nI (k + 1))), (0, .ref (q 7)), (1, .int p1), (3, .int 60)]) hx hb dJ7_fill_53178_14 hl (k := 2) rfl (nI_1 _) (by decide) rfl (fun ls hl => ?_)
        refine lv_goto (tgt := 5) hx hb dJ7_fill_53178_17 (by decide) ?_
        exact ih (k + 1) (upd ff k p1) _ _ _ hP hD hS (lv_sub hl [1, 2, 0, 3] rfl) (by omega) (by rw [← hr] <;> rfl)
  exact loop 60 0 (u.1 3) _ _ _ hP hD hS (lv_sub hl [2, 3, 1, 0] rfl) (by omega) rfl
theorem lkX0_comeTo_21 : Cond.fieldLink RX0 21 "FetchHouse$History" "fewestSteps" "[I" ∈ wsX0_comeTo := List.mem_of_getElem? (i := 1) (by decide +kernel)
theorem inX0_comeTo_RX0 : ∀ w ∈ u_ws RX0 TX0 6, w ∈ wsX0_comeTo := fun w h => List.mem_cons_of_mem _ (List.mem_append_right _ h)
abbrev rmX0_comeTo : Room := { frames := 1, cells := 0, slots := 0, locals := 21 }
set_option maxHeartbeats 4000000 in
set_option maxRecDepth 100000 in
theorem ctX0_comeTo (l : Launch) (D : va_G) (cI cZ : ClassId) (q : Nat → Nat) (u : SX) (n : Nat) (hn : u.1 15 0 = nI n) (h60 : n ≤ 60) (p0 p1 : Int32) : gM l yX0_comeTo wsX0_comeTo rmX0_comeTo D [(cI, .int), (cZ, .boolean)] (XW cI cZ q) XG [.ref (q 1), .int p0, .int p1] u none (gS u 3 (xCome n (u.1 3) p0 p1)) := by
  refine g_start (cc := cX0_comeTo) (maxL := 3) (ret := none) (by decide) rfl (Nat.le_of_ble_eq_true rfl) ?_
  intro p e s m below meth c A ls Q hx hb hml hret hts hown hlk hE hP hK hD hA hl hQ hS
  have hown : s.vm.findClass RX0 = some m.cls := hown
  have hl : lv_has ls 3 [(0, .ref (q 1)), (1, .int p0), (2, .int p1)] := hl
  refine lv_aload_n hx hb dX0_comeTo_0 rfl (lv_at hl 0 rfl) ?_
  refine lv_iload_n hx hb dX0_comeTo_1 rfl (lv_at hl 1 rfl) ?_
  refine g_callV (As := [.int p0]) (rest := []) hx hb hml hown hts (ctX0_isCommit l D cI cZ q u n hn h60 p0) gX0_comeTo_X0_isCommit rfl rfl rfl hdX0_isCommit ⟨Nat.le_of_ble_eq_true rfl, Nat.le_of_ble_eq_true rfl⟩ XG_em hE hP hK hD hS hA 1 rfl rfl rfl hl.1 rfl (Nat.le_of_ble_eq_true rfl) dX0_comeTo_2 ⟨Nat.zero_le _, Nat.zero_le _⟩ (fun H locs hP hD hS => ?_)
  have hP : va_P D vwCl (XW cI cZ q u) H := hP
  have hD : va_D A (XW cI cZ q u) := hD
  refine W.eq (g2 := F0 m 5 ls [.int (xRange p0 (nI n))]) rfl ?_
  refine lv_if_eq (tgt := 25) hx hb dX0_comeTo_5 (by decide) (fun c_5 => ?_) (fun c_5 => ?_)
  · refine g_vret (u1 := u) hx hb hret hlk hQ hP hD hS dX0_comeTo_25 ?_ ?_
    · exact rfl
    · exact (by rw [show xCome n (u.1 3) p0 p1 = (u.1 3) from by unfold xCome; rw [if_pos c_5]] <;> rfl)
  · obtain ⟨j, hj, hj2⟩ := xRange_ne rfl (by omega) c_5
    refine lv_iload_n hx hb dX0_comeTo_8 rfl (lv_at hl 2 rfl) ?_
    refine lv_aload_n hx hb dX0_comeTo_9 rfl (lv_at hl 0 rfl) ?_
    refine va_get (ci := 0) (v := .ref (q 7)) (C := RX0) (T := TX0) (N := 6) hx hb hts inX0_comeTo_RX0 hown hK hP 1 rfl rfl 3 (by decide) (hts _ lkX0_comeTo_21) (fun _ h9 => h9) rfl dX0_comeTo_10 ?_
    refine lv_iload_n hx hb dX0_comeTo_13 rfl (lv_at hl 1 rfl) ?_
    refine g_iald (n := 60) (f := (u.1 3)) hx hb hK hP 7 0 rfl rfl j (by omega) (by omega) hj2 dX0_comeTo_14 ?_
    refine lv_icmp_ge (tgt := 25) hx hb dX0_comeTo_15 (by decide) (fun c_15 => ?_) (fun c_15 => ?_)
    · refine g_vret (u1 := u) hx hb hret hlk hQ hP hD hS dX0_comeTo_25 ?_ ?_
      · exact rfl
      · exact (by rw [show xCome n (u.1 3) p0 p1 = (u.1 3) from by unfold xCome; rw [if_neg c_5, hj2, nI_clamp (by omega)]; rw [if_pos c_15]] <;> rfl)
    · refine lv_aload_n hx hb dX0_comeTo_18 rfl (lv_at hl 0 rfl) ?_
      refine va_get (ci := 0) (v := .ref (q 7)) (C := RX0) (T := TX0) (N := 6) hx hb hts inX0_comeTo_RX0 hown hK hP 1 rfl rfl 3 (by decide) (hts _ lkX0_comeTo_21) (fun _ h9 => h9) rfl dX0_comeTo_19 ?_
      refine lv_iload_n hx hb dX0_comeTo_22 rfl (lv_at hl 1 rfl) ?_
      refine lv_iload_n hx hb dX0_comeTo_23 rfl (lv_at hl 2 rfl) ?_
      refine g_iast (n := 60) (f := (u.1 3)) (u' := (gS u 3 (upd (u.1 3) j p1))) hx hb hK hP hD hS 7 0 rfl rfl j (by omega) (by omega) hj2 rfl dX0_comeTo_24 (fun H locs hP hD hS => ?_)
      refine g_vret (u1 := (gS u 3 (upd (u.1 3) j p1))) hx hb hret hlk hQ hP hD hS dX0_comeTo_25 ?_ ?_
      · exact rfl
      · exact (by rw [show xCome n (u.1 3) p0 p1 = (upd (u.1 3) j p1) from by unfold xCome; rw [if_neg c_5, hj2, nI_clamp (by omega)]; rw [if_neg c_15]] <;> rfl)
theorem lkX0_reachOf_inRX2 : Cond.initialized RX2 ∈ wsX0_reachOf := List.mem_of_getElem? (i := 15) (by decide +kernel)
theorem lkX0_reachOf_stX2_setOf : Cond.static yX2_setOf ∈ wsX0_reachOf := List.mem_of_getElem? (i := 14) (by decide +kernel)
theorem lkX0_reachOf_15 : Cond.fieldLink RX0 15 "FetchHouse$History" "secondParents" "[I" ∈ wsX0_reachOf := List.mem_of_getElem? (i := 3) (by decide +kernel)
theorem lkX0_reachOf_21 : Cond.fieldLink RX0 21 "FetchHouse$History" "fewestSteps" "[I" ∈ wsX0_reachOf := List.mem_of_getElem? (i := 1) (by decide +kernel)
theorem lkX0_reachOf_9 : Cond.fieldLink RX0 9 "FetchHouse$History" "firstParents" "[I" ∈ wsX0_reachOf := List.mem_of_getElem? (i := 2) (by decide +kernel)
theorem inX0_reachOf_RX0 : ∀ w ∈ u_ws RX0 TX0 6, w ∈ wsX0_reachOf := fun w h => List.mem_cons_of_mem _ (List.mem_append_right _ h)
abbrev rmX0_reachOf : Room := { frames := 2, cells := 0, slots := 0, locals := 43 }
set_option maxHeartbeats 4000000 in
set_option maxRecDepth 100000 in
theorem ctX0_reachOf (l : Launch) (D : va_G) (cI cZ : ClassId) (q : Nat → Nat) (u : SX) (n : Nat) (hn : u.1 15 0 = nI n) (h60 : n ≤ 60) (p0 p1 : Int32) : gM l yX0_reachOf wsX0_reachOf rmX0_reachOf D [(cI, .int), (cZ, .boolean)] (XW cI cZ q) XG [.ref (q 1), .int p0, .int p1] u (some (.long (xReach n (u.1 0) (u.1 1) (u.1 3) p0 p1).1)) (gS u 3 (xReach n (u.1 0) (u.1 1) (u.1 3) p0 p1).2) := by
  refine g_start (cc := cX0_reachOf) (maxL := 8) (ret := (some .long)) (by decide) rfl (Nat.le_of_ble_eq_true rfl) ?_
  intro p e s m below meth c A ls Q hx hb hml hret hts hown hlk hE hP hK hD hA hl hQ hS
  have hown : s.vm.findClass RX0 = some m.cls := hown
  have hl : lv_has ls 8 [(0, .ref (q 1)), (1, .int p0), (2, .int p1)] := hl
  refine lv_aload_n hx hb dX0_reachOf_0 rfl (lv_at hl 0 rfl) ?_
  refine lv_iload_n hx hb dX0_reachOf_1 rfl (lv_at hl 1 rfl) ?_
  refine g_callV (As := [.int p0]) (rest := []) hx hb hml hown hts (ctX0_isCommit l D cI cZ q u n hn h60 p0) gX0_reachOf_X0_isCommit rfl rfl rfl hdX0_isCommit ⟨Nat.le_of_ble_eq_true rfl, Nat.le_of_ble_eq_true rfl⟩ XG_em hE hP hK hD hS hA 1 rfl rfl rfl hl.1 rfl (Nat.le_of_ble_eq_true rfl) dX0_reachOf_2 ⟨Nat.zero_le _, Nat.zero_le _⟩ (fun H locs hP hD hS => ?_)
  have hP : va_P D vwCl (XW cI cZ q u) H := hP
  have hD : va_D A (XW cI cZ q u) := hD
  refine W.eq (g2 := F0 m 5 ls [.int (xRange p0 (nI n))]) rfl ?_
  refine lv_if_ne (tgt := 10) hx hb dX0_reachOf_5 (by decide) (fun c_5 => ?_) (fun c_5 => ?_)
  · obtain ⟨j0, hj0l, hj0⟩ : ∃ j : Nat, j < n ∧ p0 = nI j := xRange_ne rfl (by omega) c_5
    have join : ∀ (tf : Int32) (H : Heap) (locs : List Loc) (ls : Array Slot) (hP : va_P D vwCl (XW cI cZ q u) H) (hD : va_D A (XW cI cZ q u)) (hS : va_S A s.heap H locs) (hl : lv_has ls 8 [(0, .ref (q 1)), (1, .int p0), (2, .int p1)]) (htf : tf = xFar p1), W p l e rmX0_reachOf s m ([.ref (q 1), .int p0, .int p1] : List Value).toArray below meth c H locs 0 0 Q (F0 m 20 ls [.int tf]) := by
      intro tf H locs ls hP hD hS hl htf
      refine lv_istore_n (lv' := [(3, .int tf), (0, .ref (q 1)), (1, .int p0), (2, .int p1)]) hx hb dX0_reachOf_20 rfl hl (by decide) rfl (fun ls hl => ?_)
      refine lv_aload_n hx hb dX0_reachOf_21 rfl (lv_at hl 1 rfl) ?_
      refine va_get (ci := 0) (v := .ref (q 7)) (C := RX0) (T := TX0) (N := 6) hx hb hts inX0_reachOf_RX0 hown hK hP 1 rfl rfl 3 (by decide) (hts _ lkX0_reachOf_21) (fun _ h9 => h9) rfl dX0_reachOf_22 ?_
      refine lv_iload_n hx hb dX0_reachOf_25 rfl (lv_at hl 0 rfl) ?_
      refine g_callS (As := [.ref (q 7), .int tf]) (rest := []) hx hb hml hown hts (ctX0_fill l D cI cZ q u tf) gX0_reachOf_J7_fill_53178 rfl rfl rfl hdJ7_fill_53178 ⟨Nat.le_of_ble_eq_true rfl, Nat.le_of_ble_eq_true rfl⟩ gEM_true trivial hP hK hD hS hA rfl hl.1 rfl (Nat.le_of_ble_eq_true rfl) dX0_reachOf_26 ⟨Nat.zero_le _, Nat.zero_le _⟩ (fun H locs hP hD hS => ?_)
      have hP : va_P D vwCl (XW cI cZ q (gS u 3 (xFill tf (u.1 3)))) H := hP
      have hD : va_D A (XW cI cZ q (gS u 3 (xFill tf (u.1 3)))) := hD
      refine W.eq (g2 := F0 m 29 ls []) rfl ?_
      refine lv_aload_n hx hb dX0_reachOf_29 rfl (lv_at hl 1 rfl) ?_
      refine va_get (ci := 0) (v := .ref (q 7)) (C := RX0) (T := TX0) (N := 6) hx hb hts inX0_reachOf_RX0 hown hK hP 1 rfl rfl 3 (by decide) (hts _ lkX0_reachOf_21) (fun _ h9 => h9) rfl dX0_reachOf_30 ?_
      refine lv_iload_n hx hb dX0_reachOf_33 rfl (lv_at hl 2 rfl) ?_
      refine lv_iconst (v := 0) hx hb dX0_reachOf_34 (by decide +kernel) ?_
      refine g_iast (n := 60) (f := (xFill tf (u.1 3))) (u' := (gS u 3 (upd (xFill tf (u.1 3)) j0 0))) hx hb hK hP hD hS 7 0 rfl rfl j0 (by omega) (by omega) hj0 rfl dX0_reachOf_35 (fun H locs hP hD hS => ?_)
      refine lv_lconst (v := 0) hx hb dX0_reachOf_36 (by decide +kernel) ?_
      refine lv_lstore (lv' := [(4, .long 0), (3, .int tf), (0, .ref (q 1)), (1, .int p0), (2, .int p1)]) hx hb dX0_reachOf_37 hl (by decide) rfl (fun ls hl => ?_)
      refine lv_iload_n hx hb dX0_reachOf_39 rfl (lv_at hl 3 rfl) ?_
      refine lv_istore (lv' := [(6, .int p0), (4, .long 0), (3, .int tf), (0, .ref (q 1)), (1, .int p0), (2, .int p1)]) hx hb dX0_reachOf_40 hl (by decide) rfl (fun ls hl => ?_)
      have loop : ∀ (d : Nat) (rc : Int64) (fs : Nat → Int32) (H : Heap) (locs : List Loc) (ls : Array Slot) (hP : va_P D vwCl (XW cI cZ q (gS u 3 fs)) H) (hD : va_D A (XW cI cZ q (gS u 3 fs))) (hS : va_S A s.heap H locs) (hl : lv_has ls 8 [(0, .ref (q 1)), (3, .int tf), (4, .long rc), (6, .int (nI d - 1))]) (hd : d ≤ n) (hr : itD (xReachStep n (u.1 0) (u.1 1) tf) d (rc, fs) = (xReach n (u.1 0) (u.1 1) (u.1 3) p0 p1)), W p l e rmX0_reachOf s m ([.ref (q 1), .int p0, .int p1] : List Value).toArray below meth c H locs 0 0 Q (F0 m 42 ls []) := by
        intro d
        induction d with
        | zero =>
          intro rc fs H locs ls hP hD hS hl hd hr
          refine lv_iload hx hb dX0_reachOf_42 (lv_at hl 3 rfl) ?_
          refine lv_if_lt (tgt := 108) hx hb dX0_reachOf_44 (by decide) (fun c_44 => ?_) (fun c_44 => ?_)
          · refine lv_lload hx hb dX0_reachOf_108 (lv_at hl 2 rfl) ?_
            refine g_lret (u1 := (gS u 3 fs)) hx hb hret hlk hQ hP hD hS dX0_reachOf_110 ?_ ?_
            · exact (by rw [← hr] <;> rfl)
            · exact (by rw [← hr] <;> rfl)
          · exact absurd (by decide +kernel) c_44
        | succ d ih =>
          intro rc fs H locs ls hP hD hS hl hd hr
          rw [nI_pred] at hl
          refine lv_iload hx hb dX0_reachOf_42 (lv_at hl 3 rfl) ?_
          refine lv_if_lt (tgt := 108) hx hb dX0_reachOf_44 (by decide) (fun c_44 => ?_) (fun c_44 => ?_)
          · exact absurd c_44 (nI_pos (by omega))
          · refine lv_aload_n hx hb dX0_reachOf_47 rfl (lv_at hl 0 rfl) ?_
            refine va_get (ci := 0) (v := .ref (q 7)) (C := RX0) (T := TX0) (N := 6) hx hb hts inX0_reachOf_RX0 hown hK hP 1 rfl rfl 3 (by decide) (hts _ lkX0_reachOf_21) (fun _ h9 => h9) rfl dX0_reachOf_48 ?_
            refine lv_iload hx hb dX0_reachOf_51 (lv_at hl 3 rfl) ?_
            refine g_iald (n := 60) (f := fs) hx hb hK hP 7 0 rfl rfl d (by omega) (by omega) rfl dX0_reachOf_53 ?_
            refine lv_istore (lv' := [(7, .int (fs d)), (0, .ref (q 1)), (3, .int tf), (4, .long rc), (6, .int (nI d))]) hx hb dX0_reachOf_54 hl (by decide) rfl (fun ls hl => ?_)
            refine lv_iload hx hb dX0_reachOf_56 (lv_at hl 0 rfl) ?_
            refine lv_iload_n hx hb dX0_reachOf_58 rfl (lv_at hl 2 rfl) ?_
            refine lv_icmp_ge (tgt := 102) hx hb dX0_reachOf_59 (by decide) (fun c_59 => ?_) (fun c_59 => ?_)
            · refine lv_iinc (v := ((nI d) - 1)) (lv' := [(6, .int ((nI d) - 1)), (7, .int (fs d)), (0, .ref (q 1)), (3, .int tf), (4, .long rc)]) hx hb dX0_reachOf_102 hl (k := 4) rfl (g_dec1 _) (by decide) rfl (fun ls hl => ?_)
              refine lv_goto (tgt := 42) hx hb dX0_reachOf_105 (by decide) ?_
              exact ih rc fs _ _ _ hP hD hS (lv_sub hl [2, 3, 4, 0] rfl) (by omega) (by rw [← hr]; show _ = itD _ d (xReachStep _ _ _ _ d (rc, fs)); rw [show xReachStep n (u.1 0) (u.1 1) tf d (rc, fs) = (rc, fs) from by simp only [xReachStep, c_5, c_44, c_59, ↓reduceIte, not_true_eq_false, not_false_eq_true]])
            · refine lv_lload hx hb dX0_reachOf_62 (lv_at hl 3 rfl) ?_
              refine lv_iload hx hb dX0_reachOf_64 (lv_at hl 4 rfl) ?_
              refine g_callN0 (host := "FetchHouse") (As := [.int (nI d)]) (rest := [.long rc]) hx hb hml hown hts (ctX2_setOf l D cI cZ q (nI d)) gX0_reachOf_X2_setOf_n58 rfl rfl rfl (hE.1 _ (List.mem_of_getElem? (i := 5) rfl)) (hts _ lkX0_reachOf_inRX2) (hts _ lkX0_reachOf_stX2_setOf) hdX2_setOf ⟨Nat.le_of_ble_eq_true rfl, Nat.le_of_ble_eq_true rfl⟩ gEM_true trivial hP hK hS hA rfl hl.1 rfl (Nat.le_of_ble_eq_true rfl) dX0_reachOf_66 ⟨Nat.zero_le _, Nat.zero_le _⟩ (fun H locs hP hS => ?_)
              refine W.eq (g2 := F0 m 69 ls [.long (xSet (nI d)), .long rc]) rfl ?_
              refine lv_lor hx hb dX0_reachOf_69 ?_
              refine lv_lstore (lv' := [(4, .long (rc ||| (xSet (nI d)))), (7, .int (fs d)), (0, .ref (q 1)), (3, .int tf), (6, .int (nI d))]) hx hb dX0_reachOf_70 hl (by decide) rfl (fun ls hl => ?_)
              refine lv_aload_n hx hb dX0_reachOf_72 rfl (lv_at hl 2 rfl) ?_
              refine lv_aload_n hx hb dX0_reachOf_73 rfl (lv_at hl 2 rfl) ?_
              refine va_get (ci := 0) (v := .ref (q 4)) (C := RX0) (T := TX0) (N := 6) hx hb hts inX0_reachOf_RX0 hown hK hP 1 rfl rfl 0 (by decide) (hts _ lkX0_reachOf_9) (fun _ h9 => h9) rfl dX0_reachOf_74 ?_
              refine lv_iload hx hb dX0_reachOf_77 (lv_at hl 4 rfl) ?_
              refine g_iald (n := 60) (f := (u.1 0)) hx hb hK hP 4 0 rfl rfl d (by omega) (by omega) rfl dX0_reachOf_79 ?_
              refine lv_iload hx hb dX0_reachOf_80 (lv_at hl 1 rfl) ?_
              refine lv_iconst (v := 1) hx hb dX0_reachOf_82 (by decide +kernel) ?_
              refine lv_iadd hx hb dX0_reachOf_83 ?_
              refine g_callV (As := [.int ((u.1 0) d), .int ((fs d) + 1)]) (rest := []) hx hb hml hown hts (ctX0_comeTo l D cI cZ q (gS u 3 fs) n hn h60 ((u.1 0) d) ((fs d) + 1)) gX0_reachOf_X0_comeTo rfl rfl rfl hdX0_comeTo ⟨Nat.le_of_ble_eq_true rfl, Nat.le_of_ble_eq_true rfl⟩ XG_em hE hP hK hD hS hA 1 rfl rfl rfl hl.1 rfl (Nat.le_of_ble_eq_true rfl) dX0_reachOf_84 ⟨Nat.zero_le _, Nat.zero_le _⟩ (fun H locs hP hD hS => ?_)
              have hP : va_P D vwCl (XW cI cZ q (gS u 3 (xCome n fs ((u.1 0) d) ((fs d) + 1)))) H := hP
              have hD : va_D A (XW cI cZ q (gS u 3 (xCome n fs ((u.1 0) d) ((fs d) + 1)))) := hD
              refine W.eq (g2 := F0 m 87 ls []) rfl ?_
              refine lv_aload_n hx hb dX0_reachOf_87 rfl (lv_at hl 2 rfl) ?_
              refine lv_aload_n hx hb dX0_reachOf_88 rfl (lv_at hl 2 rfl) ?_
              refine va_get (ci := 0) (v := .ref (q 5)) (C := RX0) (T := TX0) (N := 6) hx hb hts inX0_reachOf_RX0 hown hK hP 1 rfl rfl 1 (by decide) (hts _ lkX0_reachOf_15) (fun _ h9 => h9) rfl dX0_reachOf_89 ?_
              refine lv_iload hx hb dX0_reachOf_92 (lv_at hl 4 rfl) ?_
              refine g_iald (n := 60) (f := (u.1 1)) hx hb hK hP 5 0 rfl rfl d (by omega) (by omega) rfl dX0_reachOf_94 ?_
              refine lv_iload hx hb dX0_reachOf_95 (lv_at hl 1 rfl) ?_
              refine lv_iconst (v := 1) hx hb dX0_reachOf_97 (by decide +kernel) ?_
              refine lv_iadd hx hb dX0_reachOf_98 ?_
              refine g_callV (As := [.int ((u.1 1) d), .int ((fs d) + 1)]) (rest := []) hx hb hml hown hts (ctX0_comeTo l D cI cZ q (gS u 3 (xCome n fs ((u.1 0) d) ((fs d) + 1))) n hn h60 ((u.1 1) d) ((fs d) + 1)) gX0_reachOf_X0_comeTo rfl rfl rfl hdX0_comeTo ⟨Nat.le_of_ble_eq_true rfl, Nat.le_of_ble_eq_true rfl⟩ XG_em hE hP hK hD hS hA 1 rfl rfl rfl hl.1 rfl (Nat.le_of_ble_eq_true rfl) dX0_reachOf_99 ⟨Nat.zero_le _, Nat.zero_le _⟩ (fun H locs hP hD hS => ?_)
              have hP : va_P D vwCl (XW cI cZ q (gS u 3 (xCome n (xCome n fs ((u.1 0) d) ((fs d) + 1)) ((u.1 1) d) ((fs d) + 1)))) H := hP
              have hD : va_D A (XW cI cZ q (gS u 3 (xCome n (xCome n fs ((u.1 0) d) ((fs d) + 1)) ((u.1 1) d) ((fs d) + 1)))) := hD
              refine W.eq (g2 := F0 m 102 ls []) rfl ?_
              refine lv_iinc (v := ((nI d) - 1)) (lv' := [(6, .int ((nI d) - 1)), (4, .long (rc ||| (xSet (nI d)))), (7, .int (fs d)), (0, .ref (q 1)), (3, .int tf)]) hx hb dX0_reachOf_102 hl (k := 4) rfl (g_dec1 _) (by decide) rfl (fun ls hl => ?_)
              refine lv_goto (tgt := 42) hx hb dX0_reachOf_105 (by decide) ?_
              exact ih (rc ||| (xSet (nI d))) (xCome n (xCome n fs ((u.1 0) d) ((fs d) + 1)) ((u.1 1) d) ((fs d) + 1)) _ _ _ hP hD hS (lv_sub hl [3, 4, 1, 0] rfl) (by omega) (by rw [← hr]; show _ = itD _ d (xReachStep _ _ _ _ d (rc, fs)); rw [show xReachStep n (u.1 0) (u.1 1) tf d (rc, fs) = ((rc ||| (xSet (nI d))), (xCome n (xCome n fs ((u.1 0) d) ((fs d) + 1)) ((u.1 1) d) ((fs d) + 1))) from by simp only [xReachStep, c_5, c_44, c_59, ↓reduceIte, not_true_eq_false, not_false_eq_true]])
      rw [show p0 = nI (j0 + 1) - 1 from by rw [nI_pred]; exact hj0] at hl
      exact loop (j0 + 1) 0 (upd (xFill tf (u.1 3)) j0 0) _ _ _ hP hD hS (lv_sub hl [3, 2, 1, 0] rfl) (by omega) (by unfold xReach; rw [if_neg c_5, hj0, nI_clamp (by omega), ← htf])
    refine lv_iload_n hx hb dX0_reachOf_10 rfl (lv_at hl 2 rfl) ?_
    refine lv_if_ne (tgt := 19) hx hb dX0_reachOf_11 (by decide) (fun c_11 => ?_) (fun c_11 => ?_)
    · refine lv_iload_n hx hb dX0_reachOf_19 rfl (lv_at hl 2 rfl) ?_
      exact join p1 _ _ _ hP hD hS (lv_sub hl [0, 1, 2] rfl) (by simp only [xFar, c_5, c_11, ↓reduceIte, not_true_eq_false, not_false_eq_true])
    · refine lv_bipush (v := 60) hx hb dX0_reachOf_14 (by decide +kernel) ?_
      refine lv_goto (tgt := 20) hx hb dX0_reachOf_16 (by decide) ?_
      exact join 60 _ _ _ hP hD hS (lv_sub hl [0, 1, 2] rfl) (by simp only [xFar, c_5, c_11, ↓reduceIte, not_true_eq_false, not_false_eq_true])
  · refine lv_lconst (v := 0) hx hb dX0_reachOf_8 (by decide +kernel) ?_
    refine g_lret (u1 := u) hx hb hret hlk hQ hP hD hS dX0_reachOf_9 ?_ ?_
    · exact (by unfold xReach; rw [if_pos c_5])
    · exact (by rw [show (xReach n (u.1 0) (u.1 1) (u.1 3) p0 p1).2 = u.1 3 from by unfold xReach; rw [if_pos c_5]] <;> rfl)
