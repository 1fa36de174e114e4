abbrev rmX3_markFrom_1 : Room := { frames := 6, cells := 0, slots := 0, locals := 130 }
set_option maxHeartbeats 4000000 in
set_option maxRecDepth 100000 in
theorem ctX3_markFrom_1 (l : Launch) (D : va_G) (cI cZ : ClassId) (q : Nat → Nat) (u : SM) (n : Nat) (hn : u 15 0 = nI n) (h60 : n ≤ 60) (p1 : Int32) : gM l yX3_markFrom wsX3_markFrom rmX3_markFrom_1 D [(cI, .int), (cZ, .boolean)] (MW cI cZ q) (fun _ => True) [.ref (q 0), .int 1, .int p1] u none (mS u 10 (mFrom1 n (u 3) (u 0) (u 1) (u 10) p1)) := by
  refine g_start (cc := cX3_markFrom) (maxL := 3) (ret := none) (by decide) rfl (Nat.le_of_ble_eq_true rfl) ?_
  intro p e s m below meth c A ls Q hx hb hml hret hts hown hlk hE hP hK hD hA hl hQ hS
  have hown : s.vm.findClass RX3 = some m.cls := hown
  have hl : lv_has ls 3 [(0, .ref (q 0)), (1, .int 1), (2, .int p1)] := hl
  refine lv_aload_n hx hb dX3_markFrom_0 rfl (lv_at hl 0 rfl) ?_
  refine g_callV (As := []) (rest := []) hx hb hml hown hts (ctX3_clear l D cI cZ q u) gX3_markFrom_X3_clear rfl rfl rfl hdX3_clear ⟨Nat.le_of_ble_eq_true rfl, Nat.le_of_ble_eq_true rfl⟩ gEM_true trivial hP hK hD hS hA 0 rfl rfl rfl hl.1 rfl (Nat.le_of_ble_eq_true rfl) dX3_markFrom_1 ⟨Nat.zero_le _, Nat.zero_le _⟩ (fun H locs hP hD hS => ?_)
  obtain ⟨hP, hD⟩ := g_toPD hP hD (MW_ext (Y := (mS u 10 (mClr (u 10)))) (by refine ⟨?_, ?_, ?_, ?_, ?_, ?_, ?_, ?_, ?_, ?_, ?_, ?_, ?_, ?_, ?_, ?_, ?_, ?_⟩ <;> simp only [mS_at, ↓reduceIte, Nat.reduceEqDiff] <;> rfl))
  refine W.eq (g2 := F0 m 4 ls []) rfl ?_
  refine lv_aload_n hx hb dX3_markFrom_4 rfl (lv_at hl 0 rfl) ?_
  refine lv_iload_n hx hb dX3_markFrom_5 rfl (lv_at hl 1 rfl) ?_
  refine lv_iload_n hx hb dX3_markFrom_6 rfl (lv_at hl 2 rfl) ?_
  refine g_callV (As := [.int 1, .int p1]) (rest := []) hx hb hml hown hts (ctX3_mark_1 l D cI cZ q (mS u 10 (mClr (u 10))) n hn h60 p1) gX3_markFrom_X3_mark rfl rfl rfl hdX3_mark ⟨Nat.le_of_ble_eq_true rfl, Nat.le_of_ble_eq_true rfl⟩ gEM_true trivial hP hK hD hS hA 0 rfl rfl rfl hl.1 rfl (Nat.le_of_ble_eq_true rfl) dX3_markFrom_7 ⟨Nat.zero_le _, Nat.zero_le _⟩ (fun H locs hP hD hS => ?_)
  obtain ⟨hP, hD⟩ := g_toPD hP hD (MW_ext (Y := (mS (mS u 10 (mClr (u 10))) 10 (mMark n (u 3) 1 (mClr (u 10)) p1))) (by refine ⟨?_, ?_, ?_, ?_, ?_, ?_, ?_, ?_, ?_, ?_, ?_, ?_, ?_, ?_, ?_, ?_, ?_, ?_⟩ <;> simp only [mS_at, ↓reduceIte, Nat.reduceEqDiff] <;> rfl))
  refine W.eq (g2 := F0 m 10 ls []) rfl ?_
  refine lv_aload_n hx hb dX3_markFrom_10 rfl (lv_at hl 0 rfl) ?_
  refine lv_iload_n hx hb dX3_markFrom_11 rfl (lv_at hl 1 rfl) ?_
  refine g_callV (As := [.int 1]) (rest := []) hx hb hml hown hts (ctX3_markOn_1 l D cI cZ q (mS (mS u 10 (mClr (u 10))) 10 (mMark n (u 3) 1 (mClr (u 10)) p1)) n hn h60) gX3_markFrom_X3_markOn rfl rfl rfl hdX3_markOn ⟨Nat.le_of_ble_eq_true rfl, Nat.le_of_ble_eq_true rfl⟩ gEM_true trivial hP hK hD hS hA 0 rfl rfl rfl hl.1 rfl (Nat.le_of_ble_eq_true rfl) dX3_markFrom_12 ⟨Nat.zero_le _, Nat.zero_le _⟩ (fun H locs hP hD hS => ?_)
  obtain ⟨hP, hD⟩ := g_toPD hP hD (MW_ext (Y := (mS (mS (mS u 10 (mClr (u 10))) 10 (mMark n (u 3) 1 (mClr (u 10)) p1)) 10 (mOn1 n (u 3) (u 0) (u 1) (mMark n (u 3) 1 (mClr (u 10)) p1)))) (by refine ⟨?_, ?_, ?_, ?_, ?_, ?_, ?_, ?_, ?_, ?_, ?_, ?_, ?_, ?_, ?_, ?_, ?_, ?_⟩ <;> simp only [mS_at, ↓reduceIte, Nat.reduceEqDiff] <;> rfl))
  refine W.eq (g2 := F0 m 15 ls []) rfl ?_
  refine g_vret (u1 := (mS (mS (mS u 10 (mClr (u 10))) 10 (mMark n (u 3) 1 (mClr (u 10)) p1)) 10 (mOn1 n (u 3) (u 0) (u 1) (mMark n (u 3) 1 (mClr (u 10)) p1)))) hx hb hret hlk hQ hP hD hS dX3_markFrom_15 ?_ ?_
  · exact rfl
  · exact (MW_ext (by refine ⟨?_, ?_, ?_, ?_, ?_, ?_, ?_, ?_, ?_, ?_, ?_, ?_, ?_, ?_, ?_, ?_, ?_, ?_⟩ <;> simp only [mS_at, ↓reduceIte, Nat.reduceEqDiff] <;> rfl))
