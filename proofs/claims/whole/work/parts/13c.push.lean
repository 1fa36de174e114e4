theorem lkX3_push_137 : Cond.fieldLink RX3 137 "FetchHouseModel" "waiting" "I" ∈ wsX3_push := List.mem_of_getElem? (i := 2) (by decide +kernel)
theorem lkX3_push_53 : Cond.fieldLink RX3 53 "FetchHouseModel" "refusal" "I" ∈ wsX3_push := List.mem_of_getElem? (i := 1) (by decide +kernel)
theorem inX3_push_RX3 : ∀ w ∈ u_ws RX3 TX3 18, w ∈ wsX3_push := fun w h => List.mem_cons_of_mem _ (List.mem_append_right _ h)
abbrev rmX3_push_r : Room := { frames := 8, cells := 0, slots := 0, locals := 177 }
set_option maxHeartbeats 4000000 in
set_option maxRecDepth 100000 in
theorem ctX3_push_r (l : Launch) (D : va_G) (cI cZ : ClassId) (q : Nat → Nat) (u : SM) (n : Nat) (hn : u 15 0 = nI n) (h60 : n ≤ 60) (hsl : ∀ k, k < 4 * n → (u 2 k = -1 ∨ ∃ f, f < 100 ∧ u 2 k = nI f)) (w : Nat) (hw3 : w ≤ 3) (hmr : ∀ i, i < w → ∃ r, r < 4 ∧ u 7 i = nI r) (hmo : ∀ i, i < w → (u 8 i = -1 ∨ ∃ j, j < 60 ∧ u 8 i = nI j)) (hw : u 16 0 = nI w) (z : Int32) (hz : (mBars n (u 3) (u 0) (u 1) (u 5) (u 6) (u 7) (u 8) (u 9) w 0 (u 10)).1 = z) (hz0 : ¬ z = 0) : gM l yX3_push wsX3_push rmX3_push_r D [(cI, .int), (cZ, .boolean)] (MW cI cZ q) (fun _ => True) [.ref (q 0)] u (some (.int z)) (mS (mS (mS u 14 (fun _ => 0)) 16 (fun _ => 0)) 10 (mBars n (u 3) (u 0) (u 1) (u 5) (u 6) (u 7) (u 8) (u 9) w 0 (u 10)).2) := by
  refine g_start (cc := cX3_push) (maxL := 5) (ret := (some .int)) (by decide) rfl (Nat.le_of_ble_eq_true rfl) ?_
  intro p e s m below meth c A ls Q hx hb hml hret hts hown hlk hE hP hK hD hA hl hQ hS
  have hown : s.vm.findClass RX3 = some m.cls := hown
  have hl : lv_has ls 5 [(0, .ref (q 0))] := hl
  refine lv_aload_n hx hb dX3_push_0 rfl (lv_at hl 0 rfl) ?_
  refine lv_iconst (v := 0) hx hb dX3_push_1 (by decide +kernel) ?_
  refine va_put (ci := 3) (v := .int 0) (ty := .int) (C := RX3) (T := TX3) (N := 18) hx hb hts inX3_push_RX3 tyX3 tyX3_ok nmX3 hown hK hP hD hS 0 rfl rfl 0 (by decide) (hts _ lkX3_push_53) (fun _ h9 => h9) rfl (by decide +kernel) rfl rfl (Nat.le_of_ble_eq_true rfl) dX3_push_2 (fun H locs hP hD hS => ?_)
  obtain ⟨hP, hD⟩ := g_toPD hP hD (MW_put_14 (u := u) 0)
  refine lv_aload_n hx hb dX3_push_5 rfl (lv_at hl 0 rfl) ?_
  refine va_get (ci := 3) (v := .int (nI w)) (C := RX3) (T := TX3) (N := 18) hx hb hts inX3_push_RX3 hown hK hP 0 rfl rfl 9 (by decide) (hts _ lkX3_push_137) (fun _ h9 => h9) (congrArg (fun z => some (Value.int z)) hw) dX3_push_6 ?_
  refine lv_istore_n (lv' := [(1, .int (nI w)), (0, .ref (q 0))]) hx hb dX3_push_9 rfl hl (by decide) rfl (fun ls hl => ?_)
  refine lv_aload_n hx hb dX3_push_10 rfl (lv_at hl 1 rfl) ?_
  refine lv_iconst (v := 0) hx hb dX3_push_11 (by decide +kernel) ?_
  refine va_put (ci := 3) (v := .int 0) (ty := .int) (C := RX3) (T := TX3) (N := 18) hx hb hts inX3_push_RX3 tyX3 tyX3_ok nmX3 hown hK hP hD hS 0 rfl rfl 9 (by decide) (hts _ lkX3_push_137) (fun _ h9 => h9) rfl (by decide +kernel) rfl rfl (Nat.le_of_ble_eq_true rfl) dX3_push_12 (fun H locs hP hD hS => ?_)
  obtain ⟨hP, hD⟩ := g_toPD hP hD (MW_put_16 (u := (mS u 14 (fun _ => 0))) 0)
  refine lv_iconst (v := (nI 0)) hx hb dX3_push_15 (by decide +kernel) ?_
  refine lv_istore_n (lv' := [(2, .int (nI 0)), (1, .int (nI w)), (0, .ref (q 0))]) hx hb dX3_push_16 rfl hl (by decide) rfl (fun ls hl => ?_)
  have loop : ∀ (d i : Nat) (mk : Nat → Int32) (H : Heap) (locs : List Loc) (ls : Array Slot) (hP : va_P D vwCl (MW cI cZ q (mS (mS (mS u 10 mk) 14 (fun _ => 0)) 16 (fun _ => 0))) H) (hD : va_D A (MW cI cZ q (mS (mS (mS u 10 mk) 14 (fun _ => 0)) 16 (fun _ => 0)))) (hS : va_S A s.heap H locs) (hl : lv_has ls 5 [(0, .ref (q 0)), (1, .int (nI w)), (2, .int (nI i))]) (hk : i + d = w) (hr : mBars n (u 3) (u 0) (u 1) (u 5) (u 6) (u 7) (u 8) (u 9) d i mk = (mBars n (u 3) (u 0) (u 1) (u 5) (u 6) (u 7) (u 8) (u 9) w 0 (u 10))), W p l e rmX3_push_r s m ([.ref (q 0)] : List Value).toArray below meth c H locs 0 0 Q (F0 m 17 ls []) := by
    intro d
    induction d with
    | zero =>
      intro i mk H locs ls hP hD hS hl hk hr
      refine lv_iload_n hx hb dX3_push_17 rfl (lv_at hl 2 rfl) ?_
      refine lv_iload_n hx hb dX3_push_18 rfl (lv_at hl 1 rfl) ?_
      refine lv_icmp_ge (tgt := 40) hx hb dX3_push_19 (by decide) (fun c_19 => ?_) (fun c_19 => ?_)
      · have n_19 : w ≤ i := (g_leI (a := w) (b := i) rfl rfl (by omega) (by omega)).mp c_19
        exact absurd (hz.symm.trans (congrArg Prod.fst hr.symm)) hz0
      · have n_19 : ¬ w ≤ i := fun h => c_19 ((g_leI (a := w) (b := i) rfl rfl (by omega) (by omega)).mpr h)
        exfalso; omega
    | succ d ih =>
      intro i mk H locs ls hP hD hS hl hk hr
      refine lv_iload_n hx hb dX3_push_17 rfl (lv_at hl 2 rfl) ?_
      refine lv_iload_n hx hb dX3_push_18 rfl (lv_at hl 1 rfl) ?_
      refine lv_icmp_ge (tgt := 40) hx hb dX3_push_19 (by decide) (fun c_19 => ?_) (fun c_19 => ?_)
      · have n_19 : w ≤ i := (g_leI (a := w) (b := i) rfl rfl (by omega) (by omega)).mp c_19
        exfalso; omega
      · have n_19 : ¬ w ≤ i := fun h => c_19 ((g_leI (a := w) (b := i) rfl rfl (by omega) (by omega)).mpr h)
        refine lv_aload_n hx hb dX3_push_22 rfl (lv_at hl 0 rfl) ?_
        refine lv_iload_n hx hb dX3_push_23 rfl (lv_at hl 2 rfl) ?_
        refine g_callV (As := [.int (nI i)]) (rest := []) hx hb hml hown hts (ctX3_barred l D cI cZ q (mS (mS (mS u 10 mk) 14 (fun _ => 0)) 16 (fun _ => 0)) n hn h60 w hw3 hmr hmo i (by omega)) gX3_push_X3_barred rfl rfl rfl hdX3_barred ⟨Nat.le_of_ble_eq_true rfl, Nat.le_of_ble_eq_true rfl⟩ gEM_true trivial hP hK hD hS hA 0 rfl rfl rfl hl.1 rfl (Nat.le_of_ble_eq_true rfl) dX3_push_24 ⟨Nat.zero_le _, Nat.zero_le _⟩ (fun H locs hP hD hS => ?_)
        obtain ⟨hP, hD⟩ := g_toPD hP hD (MW_ext (Y := (mS (mS (mS (mS u 10 mk) 14 (fun _ => 0)) 16 (fun _ => 0)) 10 (mBar n (u 3) (u 0) (u 1) (u 5) (u 6) (u 7) (u 8) (u 9) mk i).2)) (by refine ⟨?_, ?_, ?_, ?_, ?_, ?_, ?_, ?_, ?_, ?_, ?_, ?_, ?_, ?_, ?_, ?_, ?_, ?_⟩ <;> simp only [mS_at, ↓reduceIte, Nat.reduceEqDiff] <;> rfl))
        refine W.eq (g2 := F0 m 27 ls [.int (mBar n (u 3) (u 0) (u 1) (u 5) (u 6) (u 7) (u 8) (u 9) mk i).1]) rfl ?_
        refine lv_istore_n (lv' := [(3, .int (mBar n (u 3) (u 0) (u 1) (u 5) (u 6) (u 7) (u 8) (u 9) mk i).1), (0, .ref (q 0)), (1, .int (nI w)), (2, .int (nI i))]) hx hb dX3_push_27 rfl hl (by decide) rfl (fun ls hl => ?_)
        refine lv_iload_n hx hb dX3_push_28 rfl (lv_at hl 0 rfl) ?_
        refine lv_if_eq (tgt := 34) hx hb dX3_push_29 (by decide) (fun c_29 => ?_) (fun c_29 => ?_)
        · refine lv_iinc (v := (nI (i + 1))) (lv' := [(2, .int (nI (i + 1))), (3, .int (mBar n (u 3) (u 0) (u 1) (u 5) (u 6) (u 7) (u 8) (u 9) mk i).1), (0, .ref (q 0)), (1, .int (nI w))]) hx hb dX3_push_34 hl (k := 3) rfl (nI_1 _) (by decide) rfl (fun ls hl => ?_)
          refine lv_goto (tgt := 17) hx hb dX3_push_37 (by decide) ?_
          rw [show MW cI cZ q (mS (mS (mS (mS u 10 mk) 14 (fun _ => 0)) 16 (fun _ => 0)) 10 (mBar n (u 3) (u 0) (u 1) (u 5) (u 6) (u 7) (u 8) (u 9) mk i).2) = MW cI cZ q (mS (mS (mS u 10 (mBar n (u 3) (u 0) (u 1) (u 5) (u 6) (u 7) (u 8) (u 9) mk i).2) 14 (fun _ => 0)) 16 (fun _ => 0)) from (MW_ext (by refine ⟨?_, ?_, ?_, ?_, ?_, ?_, ?_, ?_, ?_, ?_, ?_, ?_, ?_, ?_, ?_, ?_, ?_, ?_⟩ <;> simp only [mS_at, ↓reduceIte, Nat.reduceEqDiff] <;> rfl))] at hP hD
          exact ih (i + 1) (mBar n (u 3) (u 0) (u 1) (u 5) (u 6) (u 7) (u 8) (u 9) mk i).2 _ _ _ hP hD hS (lv_sub hl [2, 3, 0] rfl) (by omega) (by rw [← hr, mBars, if_pos c_29])
        · refine lv_iload_n hx hb dX3_push_32 rfl (lv_at hl 0 rfl) ?_
          refine g_iret (u1 := (mS (mS (mS (mS u 10 mk) 14 (fun _ => 0)) 16 (fun _ => 0)) 10 (mBar n (u 3) (u 0) (u 1) (u 5) (u 6) (u 7) (u 8) (u 9) mk i).2)) hx hb hret hlk hQ hP hD hS dX3_push_33 ?_ ?_
          · exact (by rw [← hz, ← hr, mBars, if_neg c_29])
          · exact (by rw [← hr, mBars, if_neg c_29] <;> exact (MW_ext (by refine ⟨?_, ?_, ?_, ?_, ?_, ?_, ?_, ?_, ?_, ?_, ?_, ?_, ?_, ?_, ?_, ?_, ?_, ?_⟩ <;> simp only [mS_at, ↓reduceIte, Nat.reduceEqDiff] <;> rfl)))
  rw [show MW cI cZ q (mS (mS u 14 (fun _ => 0)) 16 (fun _ => 0)) = MW cI cZ q (mS (mS (mS u 10 (u 10)) 14 (fun _ => 0)) 16 (fun _ => 0)) from (MW_ext (by refine ⟨?_, ?_, ?_, ?_, ?_, ?_, ?_, ?_, ?_, ?_, ?_, ?_, ?_, ?_, ?_, ?_, ?_, ?_⟩ <;> simp only [mS_at, ↓reduceIte, Nat.reduceEqDiff] <;> rfl))] at hP hD
  exact loop w 0 (u 10) _ _ _ hP hD hS (lv_sub hl [2, 1, 0] rfl) (by omega) rfl
theorem lkX3_push_19 : Cond.fieldLink RX3 19 "FetchHouseModel" "hasCommit" "[Z" ∈ wsX3_push := List.mem_of_getElem? (i := 6) (by decide +kernel)
theorem lkX3_push_26 : Cond.fieldLink RX3 26 "FetchHouseModel" "refs" "[I" ∈ wsX3_push := List.mem_of_getElem? (i := 7) (by decide +kernel)
theorem lkX3_push_32 : Cond.fieldLink RX3 32 "FetchHouseModel" "moveRefs" "[I" ∈ wsX3_push := List.mem_of_getElem? (i := 8) (by decide +kernel)
theorem lkX3_push_38 : Cond.fieldLink RX3 38 "FetchHouseModel" "moveNews" "[I" ∈ wsX3_push := List.mem_of_getElem? (i := 3) (by decide +kernel)
theorem lkX3_push_41 : Cond.fieldLink RX3 41 "FetchHouseModel" "marks" "[Z" ∈ wsX3_push := List.mem_of_getElem? (i := 5) (by decide +kernel)
theorem lkX3_push_61 : Cond.fieldLink RX3 61 "FetchHouseModel" "made" "I" ∈ wsX3_push := List.mem_of_getElem? (i := 4) (by decide +kernel)
abbrev rmX3_push : Room := { frames := 8, cells := 0, slots := 0, locals := 177 }
set_option maxHeartbeats 4000000 in
set_option maxRecDepth 100000 in
theorem ctX3_push (l : Launch) (D : va_G) (cI cZ : ClassId) (q : Nat → Nat) (u : SM) (n : Nat) (hn : u 15 0 = nI n) (h60 : n ≤ 60) (hsl : ∀ k, k < 4 * n → (u 2 k = -1 ∨ ∃ f, f < 100 ∧ u 2 k = nI f)) (w : Nat) (hw3 : w ≤ 3) (hmr : ∀ i, i < w → ∃ r, r < 4 ∧ u 7 i = nI r) (hmo : ∀ i, i < w → (u 8 i = -1 ∨ ∃ j, j < 60 ∧ u 8 i = nI j)) (hw : u 16 0 = nI w) (hz : (mBars n (u 3) (u 0) (u 1) (u 5) (u 6) (u 7) (u 8) (u 9) w 0 (u 10)).1 = 0) : gM l yX3_push wsX3_push rmX3_push D [(cI, .int), (cZ, .boolean)] (MW cI cZ q) (fun _ => True) [.ref (q 0)] u (some (.int (itU (mPushO n (u 0) (u 1) (u 2) (u 7) (u 9)) w 0 (0, (mBars n (u 3) (u 0) (u 1) (u 5) (u 6) (u 7) (u 8) (u 9) w 0 (u 10)).2, u 3, u 4, u 5)).1)) (mS (mS (mS (mS (mS (mS u 14 (fun _ => 0)) 16 (fun _ => 0)) 10 (itU (mPushO n (u 0) (u 1) (u 2) (u 7) (u 9)) w 0 (0, (mBars n (u 3) (u 0) (u 1) (u 5) (u 6) (u 7) (u 8) (u 9) w 0 (u 10)).2, u 3, u 4, u 5)).2.1) 3 (itU (mPushO n (u 0) (u 1) (u 2) (u 7) (u 9)) w 0 (0, (mBars n (u 3) (u 0) (u 1) (u 5) (u 6) (u 7) (u 8) (u 9) w 0 (u 10)).2, u 3, u 4, u 5)).2.2.1) 4 (itU (mPushO n (u 0) (u 1) (u 2) (u 7) (u 9)) w 0 (0, (mBars n (u 3) (u 0) (u 1) (u 5) (u 6) (u 7) (u 8) (u 9) w 0 (u 10)).2, u 3, u 4, u 5)).2.2.2.1) 5 (itU (mPushO n (u 0) (u 1) (u 2) (u 7) (u 9)) w 0 (0, (mBars n (u 3) (u 0) (u 1) (u 5) (u 6) (u 7) (u 8) (u 9) w 0 (u 10)).2, u 3, u 4, u 5)).2.2.2.2) := by
  refine g_start (cc := cX3_push) (maxL := 5) (ret := (some .int)) (by decide) rfl (Nat.le_of_ble_eq_true rfl) ?_
  intro p e s m below meth c A ls Q hx hb hml hret hts hown hlk hE hP hK hD hA hl hQ hS
  have hown : s.vm.findClass RX3 = some m.cls := hown
  have hl : lv_has ls 5 [(0, .ref (q 0))] := hl
  refine lv_aload_n hx hb dX3_push_0 rfl (lv_at hl 0 rfl) ?_
  refine lv_iconst (v := 0) hx hb dX3_push_1 (by decide +kernel) ?_
  refine va_put (ci := 3) (v := .int 0) (ty := .int) (C := RX3) (T := TX3) (N := 18) hx hb hts inX3_push_RX3 tyX3 tyX3_ok nmX3 hown hK hP hD hS 0 rfl rfl 0 (by decide) (hts _ lkX3_push_53) (fun _ h9 => h9) rfl (by decide +kernel) rfl rfl (Nat.le_of_ble_eq_true rfl) dX3_push_2 (fun H locs hP hD hS => ?_)
  obtain ⟨hP, hD⟩ := g_toPD hP hD (MW_put_14 (u := u) 0)
  refine lv_aload_n hx hb dX3_push_5 rfl (lv_at hl 0 rfl) ?_
  refine va_get (ci := 3) (v := .int (nI w)) (C := RX3) (T := TX3) (N := 18) hx hb hts inX3_push_RX3 hown hK hP 0 rfl rfl 9 (by decide) (hts _ lkX3_push_137) (fun _ h9 => h9) (congrArg (fun z => some (Value.int z)) hw) dX3_push_6 ?_
  refine lv_istore_n (lv' := [(1, .int (nI w)), (0, .ref (q 0))]) hx hb dX3_push_9 rfl hl (by decide) rfl (fun ls hl => ?_)
  refine lv_aload_n hx hb dX3_push_10 rfl (lv_at hl 1 rfl) ?_
  refine lv_iconst (v := 0) hx hb dX3_push_11 (by decide +kernel) ?_
  refine va_put (ci := 3) (v := .int 0) (ty := .int) (C := RX3) (T := TX3) (N := 18) hx hb hts inX3_push_RX3 tyX3 tyX3_ok nmX3 hown hK hP hD hS 0 rfl rfl 9 (by decide) (hts _ lkX3_push_137) (fun _ h9 => h9) rfl (by decide +kernel) rfl rfl (Nat.le_of_ble_eq_true rfl) dX3_push_12 (fun H locs hP hD hS => ?_)
  obtain ⟨hP, hD⟩ := g_toPD hP hD (MW_put_16 (u := (mS u 14 (fun _ => 0))) 0)
  refine lv_iconst (v := (nI 0)) hx hb dX3_push_15 (by decide +kernel) ?_
  refine lv_istore_n (lv' := [(2, .int (nI 0)), (1, .int (nI w)), (0, .ref (q 0))]) hx hb dX3_push_16 rfl hl (by decide) rfl (fun ls hl => ?_)
  have loop : ∀ (d i : Nat) (mk : Nat → Int32) (H : Heap) (locs : List Loc) (ls : Array Slot) (hP : va_P D vwCl (MW cI cZ q (mS (mS (mS u 10 mk) 14 (fun _ => 0)) 16 (fun _ => 0))) H) (hD : va_D A (MW cI cZ q (mS (mS (mS u 10 mk) 14 (fun _ => 0)) 16 (fun _ => 0)))) (hS : va_S A s.heap H locs) (hl : lv_has ls 5 [(0, .ref (q 0)), (1, .int (nI w)), (2, .int (nI i))]) (hk : i + d = w) (hr : mBars n (u 3) (u 0) (u 1) (u 5) (u 6) (u 7) (u 8) (u 9) d i mk = (mBars n (u 3) (u 0) (u 1) (u 5) (u 6) (u 7) (u 8) (u 9) w 0 (u 10))), W p l e rmX3_push s m ([.ref (q 0)] : List Value).toArray below meth c H locs 0 0 Q (F0 m 17 ls []) := by
    intro d
    induction d with
    | zero =>
      intro i mk H locs ls hP hD hS hl hk hr
      refine lv_iload_n hx hb dX3_push_17 rfl (lv_at hl 2 rfl) ?_
      refine lv_iload_n hx hb dX3_push_18 rfl (lv_at hl 1 rfl) ?_
      refine lv_icmp_ge (tgt := 40) hx hb dX3_push_19 (by decide) (fun c_19 => ?_) (fun c_19 => ?_)
      · have n_19 : w ≤ i := (g_leI (a := w) (b := i) rfl rfl (by omega) (by omega)).mp c_19
        refine lv_iconst (v := 0) hx hb dX3_push_40 (by decide +kernel) ?_
        refine lv_istore_n (lv' := [(2, .int 0), (0, .ref (q 0)), (1, .int (nI w))]) hx hb dX3_push_41 rfl hl (by decide) rfl (fun ls hl => ?_)
        refine lv_iconst (v := (nI 0)) hx hb dX3_push_42 (by decide +kernel) ?_
        refine lv_istore_n (lv' := [(3, .int (nI 0)), (2, .int 0), (0, .ref (q 0)), (1, .int (nI w))]) hx hb dX3_push_43 rfl hl (by decide) rfl (fun ls hl => ?_)
        have lo : ∀ (d3 i3 : Nat) (cn : Int32) (mk3 hc3 hf3 rf3 : Nat → Int32) (H : Heap) (locs : List Loc) (ls : Array Slot) (hP : va_P D vwCl (MW cI cZ q (mS (mS (mS (mS (mS (mS u 3 hc3) 4 hf3) 5 rf3) 10 mk3) 14 (fun _ => 0)) 16 (fun _ => 0))) H) (hD : va_D A (MW cI cZ q (mS (mS (mS (mS (mS (mS u 3 hc3) 4 hf3) 5 rf3) 10 mk3) 14 (fun _ => 0)) 16 (fun _ => 0)))) (hS : va_S A s.heap H locs) (hl : lv_has ls 5 [(0, .ref (q 0)), (1, .int (nI w)), (2, .int cn), (3, .int (nI i3))]) (hk3 : i3 + d3 = w) (hr3 : itU (mPushO n (u 0) (u 1) (u 2) (u 7) (u 9)) d3 i3 (cn, mk3, hc3, hf3, rf3) = (itU (mPushO n (u 0) (u 1) (u 2) (u 7) (u 9)) w 0 (0, (mBars n (u 3) (u 0) (u 1) (u 5) (u 6) (u 7) (u 8) (u 9) w 0 (u 10)).2, u 3, u 4, u 5))), W p l e rmX3_push s m ([.ref (q 0)] : List Value).toArray below meth c H locs 0 0 Q (F0 m 44 ls []) := by
          intro d3
          induction d3 with
          | zero =>
            intro i3 cn mk3 hc3 hf3 rf3 H locs ls hP hD hS hl hk3 hr3
            refine lv_iload_n hx hb dX3_push_44 rfl (lv_at hl 3 rfl) ?_
            refine lv_iload_n hx hb dX3_push_45 rfl (lv_at hl 1 rfl) ?_
            refine lv_icmp_ge (tgt := 146) hx hb dX3_push_46 (by decide) (fun c_46 => ?_) (fun c_46 => ?_)
            · have n_46 : w ≤ i3 := (g_leI (a := w) (b := i3) rfl rfl (by omega) (by omega)).mp c_46
              refine lv_iload_n hx hb dX3_push_146 rfl (lv_at hl 2 rfl) ?_
              refine g_iret (u1 := (mS (mS (mS (mS (mS (mS u 3 hc3) 4 hf3) 5 rf3) 10 mk3) 14 (fun _ => 0)) 16 (fun _ => 0))) hx hb hret hlk hQ hP hD hS dX3_push_147 ?_ ?_
              · exact (by rw [← hr3]; rfl)
              · exact (by rw [← hr3] <;> exact (MW_ext (by refine ⟨?_, ?_, ?_, ?_, ?_, ?_, ?_, ?_, ?_, ?_, ?_, ?_, ?_, ?_, ?_, ?_, ?_, ?_⟩ <;> simp only [mS_at, ↓reduceIte, Nat.reduceEqDiff] <;> rfl)))
            · have n_46 : ¬ w ≤ i3 := fun h => c_46 ((g_leI (a := w) (b := i3) rfl rfl (by omega) (by omega)).mpr h)
              exfalso; omega
          | succ d3 ih =>
            intro i3 cn mk3 hc3 hf3 rf3 H locs ls hP hD hS hl hk3 hr3
            refine lv_iload_n hx hb dX3_push_44 rfl (lv_at hl 3 rfl) ?_
            refine lv_iload_n hx hb dX3_push_45 rfl (lv_at hl 1 rfl) ?_
            refine lv_icmp_ge (tgt := 146) hx hb dX3_push_46 (by decide) (fun c_46 => ?_) (fun c_46 => ?_)
            · have n_46 : w ≤ i3 := (g_leI (a := w) (b := i3) rfl rfl (by omega) (by omega)).mp c_46
              exfalso; omega
            · have n_46 : ¬ w ≤ i3 := fun h => c_46 ((g_leI (a := w) (b := i3) rfl rfl (by omega) (by omega)).mpr h)
              refine lv_aload_n hx hb dX3_push_49 rfl (lv_at hl 0 rfl) ?_
              refine lv_iconst (v := 1) hx hb dX3_push_50 (by decide +kernel) ?_
              refine lv_aload_n hx hb dX3_push_51 rfl (lv_at hl 0 rfl) ?_
              refine va_get (ci := 3) (v := .ref (q 10)) (C := RX3) (T := TX3) (N := 18) hx hb hts inX3_push_RX3 hown hK hP 0 rfl rfl 12 (by decide) (hts _ lkX3_push_38) (fun _ h9 => h9) rfl dX3_push_52 ?_
              refine lv_iload_n hx hb dX3_push_55 rfl (lv_at hl 3 rfl) ?_
              refine g_iald (n := 3) (f := (u 9)) hx hb hK hP 10 0 (by rw [MW_get_9, show (mS (mS (mS (mS (mS (mS u 3 hc3) 4 hf3) 5 rf3) 10 mk3) 14 (fun _ => 0)) 16 (fun _ => 0)) 9 = (u 9) from by simp only [mS_at, ↓reduceIte, Nat.reduceEqDiff]]) rfl i3 (by omega) (by omega) rfl dX3_push_56 ?_
              refine g_callV (As := [.int 1, .int ((u 9) i3)]) (rest := []) hx hb hml hown hts (ctX3_markFrom_1 l D cI cZ q (mS (mS (mS (mS (mS (mS u 3 hc3) 4 hf3) 5 rf3) 10 mk3) 14 (fun _ => 0)) 16 (fun _ => 0)) n hn h60 ((u 9) i3)) gX3_push_X3_markFrom rfl rfl rfl hdX3_markFrom ⟨Nat.le_of_ble_eq_true rfl, Nat.le_of_ble_eq_true rfl⟩ gEM_true trivial hP hK hD hS hA 0 rfl rfl rfl hl.1 rfl (Nat.le_of_ble_eq_true rfl) dX3_push_57 ⟨Nat.zero_le _, Nat.zero_le _⟩ (fun H locs hP hD hS => ?_)
              obtain ⟨hP, hD⟩ := g_toPD hP hD (MW_ext (Y := (mS (mS (mS (mS (mS (mS (mS u 3 hc3) 4 hf3) 5 rf3) 10 mk3) 14 (fun _ => 0)) 16 (fun _ => 0)) 10 (mFrom1 n hc3 (u 0) (u 1) mk3 ((u 9) i3)))) (by refine ⟨?_, ?_, ?_, ?_, ?_, ?_, ?_, ?_, ?_, ?_, ?_, ?_, ?_, ?_, ?_, ?_, ?_, ?_⟩ <;> simp only [mS_at, ↓reduceIte, Nat.reduceEqDiff] <;> rfl))
              refine W.eq (g2 := F0 m 60 ls []) rfl ?_
              refine lv_iconst (v := (nI 0)) hx hb dX3_push_60 (by decide +kernel) ?_
              refine lv_istore (lv' := [(4, .int (nI 0)), (0, .ref (q 0)), (1, .int (nI w)), (2, .int cn), (3, .int (nI i3))]) hx hb dX3_push_61 hl (by decide) rfl (fun ls hl => ?_)
              have li : ∀ (d4 k4 : Nat) (cm : Int32) (hc4 hf4 : Nat → Int32) (H : Heap) (locs : List Loc) (ls : Array Slot) (hP : va_P D vwCl (MW cI cZ q (mS (mS (mS (mS (mS (mS u 3 hc4) 4 hf4) 5 rf3) 10 (mFrom1 n hc3 (u 0) (u 1) mk3 ((u 9) i3))) 14 (fun _ => 0)) 16 (fun _ => 0))) H) (hD : va_D A (MW cI cZ q (mS (mS (mS (mS (mS (mS u 3 hc4) 4 hf4) 5 rf3) 10 (mFrom1 n hc3 (u 0) (u 1) mk3 ((u 9) i3))) 14 (fun _ => 0)) 16 (fun _ => 0)))) (hS : va_S A s.heap H locs) (hl : lv_has ls 5 [(0, .ref (q 0)), (1, .int (nI w)), (2, .int cm), (3, .int (nI i3)), (4, .int (nI k4))]) (hk4 : k4 + d4 = n) (hr4 : itU (mPushI n (mFrom1 n hc3 (u 0) (u 1) mk3 (u 9 i3)) (u 2)) d4 k4 (cm, hc4, hf4) = (itU (mPushI n (mFrom1 n hc3 (u 0) (u 1) mk3 (u 9 i3)) (u 2)) n 0 (cn, hc3, hf3))), W p l e rmX3_push s m ([.ref (q 0)] : List Value).toArray below meth c H locs 0 0 Q (F0 m 63 ls []) := by
                intro d4
                induction d4 with
                | zero =>
                  intro k4 cm hc4 hf4 H locs ls hP hD hS hl hk4 hr4
                  refine lv_iload hx hb dX3_push_63 (lv_at hl 4 rfl) ?_
                  refine lv_aload_n hx hb dX3_push_65 rfl (lv_at hl 0 rfl) ?_
                  refine va_get (ci := 3) (v := .int (nI n)) (C := RX3) (T := TX3) (N := 18) hx hb hts inX3_push_RX3 hown hK hP 0 rfl rfl 1 (by decide) (hts _ lkX3_push_61) (fun _ h9 => h9) (congrArg (fun z => some (Value.int z)) hn) dX3_push_66 ?_
                  refine lv_icmp_ge (tgt := 123) hx hb dX3_push_69 (by decide) (fun c_69 => ?_) (fun c_69 => ?_)
                  · have n_69 : n ≤ k4 := (g_leI (a := n) (b := k4) rfl rfl (by omega) (by omega)).mp c_69
                    obtain ⟨r, hrb, hrr⟩ := hmr i3 (by omega)
                    have hrc : (u 7 i3).toNatClampNeg = r := by rw [hrr, nI_clamp (by omega)]
                    have hrl : (u 7 i3).toNatClampNeg < 4 := by rw [hrc]; exact hrb
                    have hre : u 7 i3 = nI (u 7 i3).toNatClampNeg := by rw [hrc]; exact hrr
                    refine lv_aload_n hx hb dX3_push_123 rfl (lv_at hl 0 rfl) ?_
                    refine va_get (ci := 3) (v := .ref (q 6)) (C := RX3) (T := TX3) (N := 18) hx hb hts inX3_push_RX3 hown hK hP 0 rfl rfl 7 (by decide) (hts _ lkX3_push_26) (fun _ h9 => h9) rfl dX3_push_124 ?_
                    refine lv_aload_n hx hb dX3_push_127 rfl (lv_at hl 0 rfl) ?_
                    refine va_get (ci := 3) (v := .ref (q 8)) (C := RX3) (T := TX3) (N := 18) hx hb hts inX3_push_RX3 hown hK hP 0 rfl rfl 10 (by decide) (hts _ lkX3_push_32) (fun _ h9 => h9) rfl dX3_push_128 ?_
                    refine lv_iload_n hx hb dX3_push_131 rfl (lv_at hl 3 rfl) ?_
                    refine g_iald (n := 3) (f := (u 7)) hx hb hK hP 8 0 (by rw [MW_get_7, show (mS (mS (mS (mS (mS (mS u 3 hc4) 4 hf4) 5 rf3) 10 (mFrom1 n hc3 (u 0) (u 1) mk3 ((u 9) i3))) 14 (fun _ => 0)) 16 (fun _ => 0)) 7 = (u 7) from by simp only [mS_at, ↓reduceIte, Nat.reduceEqDiff]]) rfl i3 (by omega) (by omega) rfl dX3_push_132 ?_
                    refine lv_aload_n hx hb dX3_push_133 rfl (lv_at hl 0 rfl) ?_
                    refine va_get (ci := 3) (v := .ref (q 10)) (C := RX3) (T := TX3) (N := 18) hx hb hts inX3_push_RX3 hown hK hP 0 rfl rfl 12 (by decide) (hts _ lkX3_push_38) (fun _ h9 => h9) rfl dX3_push_134 ?_
                    refine lv_iload_n hx hb dX3_push_137 rfl (lv_at hl 3 rfl) ?_
                    refine g_iald (n := 3) (f := (u 9)) hx hb hK hP 10 0 (by rw [MW_get_9, show (mS (mS (mS (mS (mS (mS u 3 hc4) 4 hf4) 5 rf3) 10 (mFrom1 n hc3 (u 0) (u 1) mk3 ((u 9) i3))) 14 (fun _ => 0)) 16 (fun _ => 0)) 9 = (u 9) from by simp only [mS_at, ↓reduceIte, Nat.reduceEqDiff]]) rfl i3 (by omega) (by omega) rfl dX3_push_138 ?_
                    refine g_iast (n := 8) (f := rf3) (u' := (mS (mS (mS (mS (mS (mS (mS u 3 hc4) 4 hf4) 5 rf3) 10 (mFrom1 n hc3 (u 0) (u 1) mk3 ((u 9) i3))) 14 (fun _ => 0)) 16 (fun _ => 0)) 5 (upd rf3 (u 7 i3).toNatClampNeg ((u 9) i3)))) hx hb hK hP hD hS 6 0 (by rw [MW_get_5, show (mS (mS (mS (mS (mS (mS u 3 hc4) 4 hf4) 5 rf3) 10 (mFrom1 n hc3 (u 0) (u 1) mk3 ((u 9) i3))) 14 (fun _ => 0)) 16 (fun _ => 0)) 5 = rf3 from by simp only [mS_at, ↓reduceIte, Nat.reduceEqDiff]]) rfl (u 7 i3).toNatClampNeg (by omega) (by omega) hre (MW_set_5 _ _) dX3_push_139 (fun H locs hP hD hS => ?_)
                    refine lv_iinc (v := (nI (i3 + 1))) (lv' := [(3, .int (nI (i3 + 1))), (0, .ref (q 0)), (1, .int (nI w)), (2, .int cm), (4, .int (nI k4))]) hx hb dX3_push_140 hl (k := 3) rfl (nI_1 _) (by decide) rfl (fun ls hl => ?_)
                    refine lv_goto (tgt := 44) hx hb dX3_push_143 (by decide) ?_
                    rw [show MW cI cZ q (mS (mS (mS (mS (mS (mS (mS u 3 hc4) 4 hf4) 5 rf3) 10 (mFrom1 n hc3 (u 0) (u 1) mk3 ((u 9) i3))) 14 (fun _ => 0)) 16 (fun _ => 0)) 5 (upd rf3 (u 7 i3).toNatClampNeg ((u 9) i3))) = MW cI cZ q (mS (mS (mS (mS (mS (mS u 3 hc4) 4 hf4) 5 (upd rf3 (u 7 i3).toNatClampNeg ((u 9) i3))) 10 (mFrom1 n hc3 (u 0) (u 1) mk3 ((u 9) i3))) 14 (fun _ => 0)) 16 (fun _ => 0)) from (MW_ext (by refine ⟨?_, ?_, ?_, ?_, ?_, ?_, ?_, ?_, ?_, ?_, ?_, ?_, ?_, ?_, ?_, ?_, ?_, ?_⟩ <;> simp only [mS_at, ↓reduceIte, Nat.reduceEqDiff] <;> rfl))] at hP hD
                    exact ih (i3 + 1) cm (mFrom1 n hc3 (u 0) (u 1) mk3 ((u 9) i3)) hc4 hf4 (upd rf3 (u 7 i3).toNatClampNeg ((u 9) i3)) _ _ _ hP hD hS (lv_sub hl [1, 2, 3, 0] rfl) (by omega) (by rw [← hr3]; show _ = itU _ d3 (i3 + 1) (mPushO n (u 0) (u 1) (u 2) (u 7) (u 9) i3 (cn, mk3, hc3, hf3, rf3)); rw [show mPushO n (u 0) (u 1) (u 2) (u 7) (u 9) i3 (cn, mk3, hc3, hf3, rf3) = (cm, (mFrom1 n hc3 (u 0) (u 1) mk3 (u 9 i3)), hc4, hf4, (upd rf3 (u 7 i3).toNatClampNeg ((u 9) i3))) from (congrArg (fun I : Int32 × ((Nat → Int32) × (Nat → Int32)) => (I.1, (mFrom1 n hc3 (u 0) (u 1) mk3 (u 9 i3)), I.2.1, I.2.2, (upd rf3 (u 7 i3).toNatClampNeg ((u 9) i3)))) hr4).symm])
                  · have n_69 : ¬ n ≤ k4 := fun h => c_69 ((g_leI (a := n) (b := k4) rfl rfl (by omega) (by omega)).mpr h)
                    exfalso; omega
                | succ d4 ih =>
                  intro k4 cm hc4 hf4 H locs ls hP hD hS hl hk4 hr4
                  refine lv_iload hx hb dX3_push_63 (lv_at hl 4 rfl) ?_
                  refine lv_aload_n hx hb dX3_push_65 rfl (lv_at hl 0 rfl) ?_
                  refine va_get (ci := 3) (v := .int (nI n)) (C := RX3) (T := TX3) (N := 18) hx hb hts inX3_push_RX3 hown hK hP 0 rfl rfl 1 (by decide) (hts _ lkX3_push_61) (fun _ h9 => h9) (congrArg (fun z => some (Value.int z)) hn) dX3_push_66 ?_
                  refine lv_icmp_ge (tgt := 123) hx hb dX3_push_69 (by decide) (fun c_69 => ?_) (fun c_69 => ?_)
                  · have n_69 : n ≤ k4 := (g_leI (a := n) (b := k4) rfl rfl (by omega) (by omega)).mp c_69
                    exfalso; omega
                  · have n_69 : ¬ n ≤ k4 := fun h => c_69 ((g_leI (a := n) (b := k4) rfl rfl (by omega) (by omega)).mpr h)
                    refine lv_aload_n hx hb dX3_push_72 rfl (lv_at hl 0 rfl) ?_
                    refine va_get (ci := 3) (v := .ref (q 11)) (C := RX3) (T := TX3) (N := 18) hx hb hts inX3_push_RX3 hown hK hP 0 rfl rfl 14 (by decide) (hts _ lkX3_push_41) (fun _ h9 => h9) rfl dX3_push_73 ?_
                    refine lv_iload hx hb dX3_push_76 (lv_at hl 4 rfl) ?_
                    refine g_zald (n := 60) (f := (mFrom1 n hc3 (u 0) (u 1) mk3 ((u 9) i3))) hx hb hK hP 11 1 (by rw [MW_get_10, show (mS (mS (mS (mS (mS (mS u 3 hc4) 4 hf4) 5 rf3) 10 (mFrom1 n hc3 (u 0) (u 1) mk3 ((u 9) i3))) 14 (fun _ => 0)) 16 (fun _ => 0)) 10 = (mFrom1 n hc3 (u 0) (u 1) mk3 ((u 9) i3)) from by simp only [mS_at, ↓reduceIte, Nat.reduceEqDiff]]) rfl k4 (by omega) (by omega) rfl dX3_push_78 ?_
                    refine lv_if_eq (tgt := 117) hx hb dX3_push_79 (by decide) (fun c_79 => ?_) (fun c_79 => ?_)
                    · refine lv_iinc (v := (nI (k4 + 1))) (lv' := [(4, .int (nI (k4 + 1))), (0, .ref (q 0)), (1, .int (nI w)), (2, .int cm), (3, .int (nI i3))]) hx hb dX3_push_117 hl (k := 4) rfl (nI_1 _) (by decide) rfl (fun ls hl => ?_)
                      refine lv_goto (tgt := 63) hx hb dX3_push_120 (by decide) ?_
                      exact ih (k4 + 1) cm hc4 hf4 _ _ _ hP hD hS (lv_sub hl [1, 2, 3, 4, 0] rfl) (by omega) (by rw [← hr4]; show _ = itU _ d4 (k4 + 1) (mPushI n (mFrom1 n hc3 (u 0) (u 1) mk3 (u 9 i3)) (u 2) k4 (cm, hc4, hf4)); rw [show mPushI n (mFrom1 n hc3 (u 0) (u 1) mk3 (u 9 i3)) (u 2) k4 (cm, hc4, hf4) = (cm, hc4, hf4) from by unfold mPushI; rw [if_pos c_79]])
                    · refine lv_iload_n hx hb dX3_push_82 rfl (lv_at hl 2 rfl) ?_
                      refine lv_aload_n hx hb dX3_push_83 rfl (lv_at hl 0 rfl) ?_
                      refine lv_iconst (v := 0) hx hb dX3_push_84 (by decide +kernel) ?_
                      refine lv_iload hx hb dX3_push_85 (lv_at hl 4 rfl) ?_
                      refine g_callV (As := [.int 0, .int (nI k4)]) (rest := [.int cm]) hx hb hml hown hts (ctX3_isIn_0 l D cI cZ q (mS (mS (mS (mS (mS (mS u 3 hc4) 4 hf4) 5 rf3) 10 (mFrom1 n hc3 (u 0) (u 1) mk3 ((u 9) i3))) 14 (fun _ => 0)) 16 (fun _ => 0)) n hn h60 (nI k4)) gX3_push_X3_isIn rfl rfl rfl hdX3_isIn ⟨Nat.le_of_ble_eq_true rfl, Nat.le_of_ble_eq_true rfl⟩ gEM_true trivial hP hK hD hS hA 0 rfl rfl rfl hl.1 rfl (Nat.le_of_ble_eq_true rfl) dX3_push_87 ⟨Nat.zero_le _, Nat.zero_le _⟩ (fun H locs hP hD hS => ?_)
                      refine W.eq (g2 := F0 m 90 ls [.int (mHas n hc4 0 (nI k4)), .int cm]) rfl ?_
                      refine lv_if_eq (tgt := 97) hx hb dX3_push_90 (by decide) (fun c_90 => ?_) (fun c_90 => ?_)
                      · refine lv_iconst (v := 1) hx hb dX3_push_97 (by decide +kernel) ?_
                        refine lv_iadd hx hb dX3_push_98 ?_
                        refine lv_istore_n (lv' := [(2, .int (cm + 1)), (0, .ref (q 0)), (1, .int (nI w)), (3, .int (nI i3)), (4, .int (nI k4))]) hx hb dX3_push_99 rfl hl (by decide) rfl (fun ls hl => ?_)
                        refine lv_aload_n hx hb dX3_push_100 rfl (lv_at hl 1 rfl) ?_
                        refine va_get (ci := 3) (v := .ref (q 4)) (C := RX3) (T := TX3) (N := 18) hx hb hts inX3_push_RX3 hown hK hP 0 rfl rfl 5 (by decide) (hts _ lkX3_push_19) (fun _ h9 => h9) rfl dX3_push_101 ?_
                        refine lv_iload hx hb dX3_push_104 (lv_at hl 4 rfl) ?_
                        refine lv_iconst (v := 1) hx hb dX3_push_106 (by decide +kernel) ?_
                        refine g_zast (n := 120) (f := hc4) (u' := (mS (mS (mS (mS (mS (mS (mS u 3 hc4) 4 hf4) 5 rf3) 10 (mFrom1 n hc3 (u 0) (u 1) mk3 ((u 9) i3))) 14 (fun _ => 0)) 16 (fun _ => 0)) 3 (upd hc4 k4 1))) hx hb hK hP hD hS 4 1 (by rw [MW_get_3, show (mS (mS (mS (mS (mS (mS u 3 hc4) 4 hf4) 5 rf3) 10 (mFrom1 n hc3 (u 0) (u 1) mk3 ((u 9) i3))) 14 (fun _ => 0)) 16 (fun _ => 0)) 3 = hc4 from by simp only [mS_at, ↓reduceIte, Nat.reduceEqDiff]]) rfl k4 (by omega) (by omega) rfl rfl (MW_set_3 _ _) dX3_push_107 (fun H locs hP hD hS => ?_)
                        refine lv_aload_n hx hb dX3_push_108 rfl (lv_at hl 1 rfl) ?_
                        refine lv_iconst (v := 1) hx hb dX3_push_109 (by decide +kernel) ?_
                        refine lv_iconst (v := 0) hx hb dX3_push_110 (by decide +kernel) ?_
                        refine lv_iload hx hb dX3_push_111 (lv_at hl 4 rfl) ?_
                        refine lv_iconst (v := 1) hx hb dX3_push_113 (by decide +kernel) ?_
                        refine g_callV (As := [.int 1, .int 0, .int (nI k4), .int 1]) (rest := []) hx hb hml hown hts (ctX3_bring_1 l D cI cZ q (mS (mS (mS (mS (mS (mS (mS u 3 hc4) 4 hf4) 5 rf3) 10 (mFrom1 n hc3 (u 0) (u 1) mk3 ((u 9) i3))) 14 (fun _ => 0)) 16 (fun _ => 0)) 3 (upd hc4 k4 1)) n hn h60 hsl k4 (by omega) 1) gX3_push_X3_bring rfl rfl rfl hdX3_bring ⟨Nat.le_of_ble_eq_true rfl, Nat.le_of_ble_eq_true rfl⟩ gEM_true trivial hP hK hD hS hA 0 rfl rfl rfl hl.1 rfl (Nat.le_of_ble_eq_true rfl) dX3_push_114 ⟨Nat.zero_le _, Nat.zero_le _⟩ (fun H locs hP hD hS => ?_)
                        obtain ⟨hP, hD⟩ := g_toPD hP hD (MW_ext (Y := (mS (mS (mS (mS (mS (mS (mS (mS u 3 hc4) 4 hf4) 5 rf3) 10 (mFrom1 n hc3 (u 0) (u 1) mk3 ((u 9) i3))) 14 (fun _ => 0)) 16 (fun _ => 0)) 3 (upd hc4 k4 1)) 4 (mBring (u 2) 1 0 k4 1 hf4))) (by refine ⟨?_, ?_, ?_, ?_, ?_, ?_, ?_, ?_, ?_, ?_, ?_, ?_, ?_, ?_, ?_, ?_, ?_, ?_⟩ <;> simp only [mS_at, ↓reduceIte, Nat.reduceEqDiff] <;> rfl))
                        refine W.eq (g2 := F0 m 117 ls []) rfl ?_
                        refine lv_iinc (v := (nI (k4 + 1))) (lv' := [(4, .int (nI (k4 + 1))), (2, .int (cm + 1)), (0, .ref (q 0)), (1, .int (nI w)), (3, .int (nI i3))]) hx hb dX3_push_117 hl (k := 4) rfl (nI_1 _) (by decide) rfl (fun ls hl => ?_)
                        refine lv_goto (tgt := 63) hx hb dX3_push_120 (by decide) ?_
                        rw [show MW cI cZ q (mS (mS (mS (mS (mS (mS (mS (mS u 3 hc4) 4 hf4) 5 rf3) 10 (mFrom1 n hc3 (u 0) (u 1) mk3 ((u 9) i3))) 14 (fun _ => 0)) 16 (fun _ => 0)) 3 (upd hc4 k4 1)) 4 (mBring (u 2) 1 0 k4 1 hf4)) = MW cI cZ q (mS (mS (mS (mS (mS (mS u 3 (upd hc4 k4 1)) 4 (mBring (u 2) 1 0 k4 1 hf4)) 5 rf3) 10 (mFrom1 n hc3 (u 0) (u 1) mk3 ((u 9) i3))) 14 (fun _ => 0)) 16 (fun _ => 0)) from (MW_ext (by refine ⟨?_, ?_, ?_, ?_, ?_, ?_, ?_, ?_, ?_, ?_, ?_, ?_, ?_, ?_, ?_, ?_, ?_, ?_⟩ <;> simp only [mS_at, ↓reduceIte, Nat.reduceEqDiff] <;> rfl))] at hP hD
                        exact ih (k4 + 1) (cm + 1) (upd hc4 k4 1) (mBring (u 2) 1 0 k4 1 hf4) _ _ _ hP hD hS (lv_sub hl [2, 3, 1, 4, 0] rfl) (by omega) (by rw [← hr4]; show _ = itU _ d4 (k4 + 1) (mPushI n (mFrom1 n hc3 (u 0) (u 1) mk3 (u 9 i3)) (u 2) k4 (cm, hc4, hf4)); rw [show mPushI n (mFrom1 n hc3 (u 0) (u 1) mk3 (u 9 i3)) (u 2) k4 (cm, hc4, hf4) = ((cm + 1), (upd hc4 k4 1), (mBring (u 2) 1 0 k4 1 hf4)) from by unfold mPushI; rw [if_neg c_79, if_pos c_90]])
                      · refine lv_iconst (v := 0) hx hb dX3_push_93 (by decide +kernel) ?_
                        refine lv_goto (tgt := 98) hx hb dX3_push_94 (by decide) ?_
                        refine lv_iadd hx hb dX3_push_98 ?_
                        refine lv_istore_n (lv' := [(2, .int (cm + 0)), (0, .ref (q 0)), (1, .int (nI w)), (3, .int (nI i3)), (4, .int (nI k4))]) hx hb dX3_push_99 rfl hl (by decide) rfl (fun ls hl => ?_)
                        refine lv_aload_n hx hb dX3_push_100 rfl (lv_at hl 1 rfl) ?_
                        refine va_get (ci := 3) (v := .ref (q 4)) (C := RX3) (T := TX3) (N := 18) hx hb hts inX3_push_RX3 hown hK hP 0 rfl rfl 5 (by decide) (hts _ lkX3_push_19) (fun _ h9 => h9) rfl dX3_push_101 ?_
                        refine lv_iload hx hb dX3_push_104 (lv_at hl 4 rfl) ?_
                        refine lv_iconst (v := 1) hx hb dX3_push_106 (by decide +kernel) ?_
                        refine g_zast (n := 120) (f := hc4) (u' := (mS (mS (mS (mS (mS (mS (mS u 3 hc4) 4 hf4) 5 rf3) 10 (mFrom1 n hc3 (u 0) (u 1) mk3 ((u 9) i3))) 14 (fun _ => 0)) 16 (fun _ => 0)) 3 (upd hc4 k4 1))) hx hb hK hP hD hS 4 1 (by rw [MW_get_3, show (mS (mS (mS (mS (mS (mS u 3 hc4) 4 hf4) 5 rf3) 10 (mFrom1 n hc3 (u 0) (u 1) mk3 ((u 9) i3))) 14 (fun _ => 0)) 16 (fun _ => 0)) 3 = hc4 from by simp only [mS_at, ↓reduceIte, Nat.reduceEqDiff]]) rfl k4 (by omega) (by omega) rfl rfl (MW_set_3 _ _) dX3_push_107 (fun H locs hP hD hS => ?_)
                        refine lv_aload_n hx hb dX3_push_108 rfl (lv_at hl 1 rfl) ?_
                        refine lv_iconst (v := 1) hx hb dX3_push_109 (by decide +kernel) ?_
                        refine lv_iconst (v := 0) hx hb dX3_push_110 (by decide +kernel) ?_
                        refine lv_iload hx hb dX3_push_111 (lv_at hl 4 rfl) ?_
                        refine lv_iconst (v := 1) hx hb dX3_push_113 (by decide +kernel) ?_
                        refine g_callV (As := [.int 1, .int 0, .int (nI k4), .int 1]) (rest := []) hx hb hml hown hts (ctX3_bring_1 l D cI cZ q (mS (mS (mS (mS (mS (mS (mS u 3 hc4) 4 hf4) 5 rf3) 10 (mFrom1 n hc3 (u 0) (u 1) mk3 ((u 9) i3))) 14 (fun _ => 0)) 16 (fun _ => 0)) 3 (upd hc4 k4 1)) n hn h60 hsl k4 (by omega) 1) gX3_push_X3_bring rfl rfl rfl hdX3_bring ⟨Nat.le_of_ble_eq_true rfl, Nat.le_of_ble_eq_true rfl⟩ gEM_true trivial hP hK hD hS hA 0 rfl rfl rfl hl.1 rfl (Nat.le_of_ble_eq_true rfl) dX3_push_114 ⟨Nat.zero_le _, Nat.zero_le _⟩ (fun H locs hP hD hS => ?_)
                        obtain ⟨hP, hD⟩ := g_toPD hP hD (MW_ext (Y := (mS (mS (mS (mS (mS (mS (mS (mS u 3 hc4) 4 hf4) 5 rf3) 10 (mFrom1 n hc3 (u 0) (u 1) mk3 ((u 9) i3))) 14 (fun _ => 0)) 16 (fun _ => 0)) 3 (upd hc4 k4 1)) 4 (mBring (u 2) 1 0 k4 1 hf4))) (by refine ⟨?_, ?_, ?_, ?_, ?_, ?_, ?_, ?_, ?_, ?_, ?_, ?_, ?_, ?_, ?_, ?_, ?_, ?_⟩ <;> simp only [mS_at, ↓reduceIte, Nat.reduceEqDiff] <;> rfl))
                        refine W.eq (g2 := F0 m 117 ls []) rfl ?_
                        refine lv_iinc (v := (nI (k4 + 1))) (lv' := [(4, .int (nI (k4 + 1))), (2, .int (cm + 0)), (0, .ref (q 0)), (1, .int (nI w)), (3, .int (nI i3))]) hx hb dX3_push_117 hl (k := 4) rfl (nI_1 _) (by decide) rfl (fun ls hl => ?_)
                        refine lv_goto (tgt := 63) hx hb dX3_push_120 (by decide) ?_
                        rw [show MW cI cZ q (mS (mS (mS (mS (mS (mS (mS (mS u 3 hc4) 4 hf4) 5 rf3) 10 (mFrom1 n hc3 (u 0) (u 1) mk3 ((u 9) i3))) 14 (fun _ => 0)) 16 (fun _ => 0)) 3 (upd hc4 k4 1)) 4 (mBring (u 2) 1 0 k4 1 hf4)) = MW cI cZ q (mS (mS (mS (mS (mS (mS u 3 (upd hc4 k4 1)) 4 (mBring (u 2) 1 0 k4 1 hf4)) 5 rf3) 10 (mFrom1 n hc3 (u 0) (u 1) mk3 ((u 9) i3))) 14 (fun _ => 0)) 16 (fun _ => 0)) from (MW_ext (by refine ⟨?_, ?_, ?_, ?_, ?_, ?_, ?_, ?_, ?_, ?_, ?_, ?_, ?_, ?_, ?_, ?_, ?_, ?_⟩ <;> simp only [mS_at, ↓reduceIte, Nat.reduceEqDiff] <;> rfl))] at hP hD
                        exact ih (k4 + 1) (cm + 0) (upd hc4 k4 1) (mBring (u 2) 1 0 k4 1 hf4) _ _ _ hP hD hS (lv_sub hl [2, 3, 1, 4, 0] rfl) (by omega) (by rw [← hr4]; show _ = itU _ d4 (k4 + 1) (mPushI n (mFrom1 n hc3 (u 0) (u 1) mk3 (u 9 i3)) (u 2) k4 (cm, hc4, hf4)); rw [show mPushI n (mFrom1 n hc3 (u 0) (u 1) mk3 (u 9 i3)) (u 2) k4 (cm, hc4, hf4) = ((cm + 0), (upd hc4 k4 1), (mBring (u 2) 1 0 k4 1 hf4)) from by unfold mPushI; rw [if_neg c_79, if_neg c_90]])
              rw [show MW cI cZ q (mS (mS (mS (mS (mS (mS (mS u 3 hc3) 4 hf3) 5 rf3) 10 mk3) 14 (fun _ => 0)) 16 (fun _ => 0)) 10 (mFrom1 n hc3 (u 0) (u 1) mk3 ((u 9) i3))) = MW cI cZ q (mS (mS (mS (mS (mS (mS u 3 hc3) 4 hf3) 5 rf3) 10 (mFrom1 n hc3 (u 0) (u 1) mk3 ((u 9) i3))) 14 (fun _ => 0)) 16 (fun _ => 0)) from (MW_ext (by refine ⟨?_, ?_, ?_, ?_, ?_, ?_, ?_, ?_, ?_, ?_, ?_, ?_, ?_, ?_, ?_, ?_, ?_, ?_⟩ <;> simp only [mS_at, ↓reduceIte, Nat.reduceEqDiff] <;> rfl))] at hP hD
              exact li n 0 cn hc3 hf3 _ _ _ hP hD hS (lv_sub hl [1, 2, 3, 4, 0] rfl) (by omega) rfl
        rw [show MW cI cZ q (mS (mS (mS u 10 mk) 14 (fun _ => 0)) 16 (fun _ => 0)) = MW cI cZ q (mS (mS (mS (mS (mS (mS u 3 (u 3)) 4 (u 4)) 5 (u 5)) 10 mk) 14 (fun _ => 0)) 16 (fun _ => 0)) from (MW_ext (by refine ⟨?_, ?_, ?_, ?_, ?_, ?_, ?_, ?_, ?_, ?_, ?_, ?_, ?_, ?_, ?_, ?_, ?_, ?_⟩ <;> simp only [mS_at, ↓reduceIte, Nat.reduceEqDiff] <;> rfl))] at hP hD
        exact lo w 0 0 mk (u 3) (u 4) (u 5) _ _ _ hP hD hS (lv_sub hl [2, 3, 1, 0] rfl) (by omega) (by rw [show mk = (mBars n (u 3) (u 0) (u 1) (u 5) (u 6) (u 7) (u 8) (u 9) w 0 (u 10)).2 from congrArg Prod.snd hr])
      · have n_19 : ¬ w ≤ i := fun h => c_19 ((g_leI (a := w) (b := i) rfl rfl (by omega) (by omega)).mpr h)
        exfalso; omega
    | succ d ih =>
      intro i mk H locs ls hP hD hS hl hk hr
      refine lv_iload_n hx hb dX3_push_17 rfl (lv_at hl 2 rfl) ?_
      refine lv_iload_n hx hb dX3_push_18 rfl (lv_at hl 1 rfl) ?_
      refine lv_icmp_ge (tgt := 40) hx hb dX3_push_19 (by decide) (fun c_19 => ?_) (fun c_19 => ?_)
      · have n_19 : w ≤ i := (g_leI (a := w) (b := i) rfl rfl (by omega) (by omega)).mp c_19
        exfalso; omega
      · have n_19 : ¬ w ≤ i := fun h => c_19 ((g_leI (a := w) (b := i) rfl rfl (by omega) (by omega)).mpr h)
        refine lv_aload_n hx hb dX3_push_22 rfl (lv_at hl 0 rfl) ?_
        refine lv_iload_n hx hb dX3_push_23 rfl (lv_at hl 2 rfl) ?_
        refine g_callV (As := [.int (nI i)]) (rest := []) hx hb hml hown hts (ctX3_barred l D cI cZ q (mS (mS (mS u 10 mk) 14 (fun _ => 0)) 16 (fun _ => 0)) n hn h60 w hw3 hmr hmo i (by omega)) gX3_push_X3_barred rfl rfl rfl hdX3_barred ⟨Nat.le_of_ble_eq_true rfl, Nat.le_of_ble_eq_true rfl⟩ gEM_true trivial hP hK hD hS hA 0 rfl rfl rfl hl.1 rfl (Nat.le_of_ble_eq_true rfl) dX3_push_24 ⟨Nat.zero_le _, Nat.zero_le _⟩ (fun H locs hP hD hS => ?_)
        obtain ⟨hP, hD⟩ := g_toPD hP hD (MW_ext (Y := (mS (mS (mS (mS u 10 mk) 14 (fun _ => 0)) 16 (fun _ => 0)) 10 (mBar n (u 3) (u 0) (u 1) (u 5) (u 6) (u 7) (u 8) (u 9) mk i).2)) (by refine ⟨?_, ?_, ?_, ?_, ?_, ?_, ?_, ?_, ?_, ?_, ?_, ?_, ?_, ?_, ?_, ?_, ?_, ?_⟩ <;> simp only [mS_at, ↓reduceIte, Nat.reduceEqDiff] <;> rfl))
        refine W.eq (g2 := F0 m 27 ls [.int (mBar n (u 3) (u 0) (u 1) (u 5) (u 6) (u 7) (u 8) (u 9) mk i).1]) rfl ?_
        refine lv_istore_n (lv' := [(3, .int (mBar n (u 3) (u 0) (u 1) (u 5) (u 6) (u 7) (u 8) (u 9) mk i).1), (0, .ref (q 0)), (1, .int (nI w)), (2, .int (nI i))]) hx hb dX3_push_27 rfl hl (by decide) rfl (fun ls hl => ?_)
        refine lv_iload_n hx hb dX3_push_28 rfl (lv_at hl 0 rfl) ?_
        refine lv_if_eq (tgt := 34) hx hb dX3_push_29 (by decide) (fun c_29 => ?_) (fun c_29 => ?_)
        · refine lv_iinc (v := (nI (i + 1))) (lv' := [(2, .int (nI (i + 1))), (3, .int (mBar n (u 3) (u 0) (u 1) (u 5) (u 6) (u 7) (u 8) (u 9) mk i).1), (0, .ref (q 0)), (1, .int (nI w))]) hx hb dX3_push_34 hl (k := 3) rfl (nI_1 _) (by decide) rfl (fun ls hl => ?_)
          refine lv_goto (tgt := 17) hx hb dX3_push_37 (by decide) ?_
          rw [show MW cI cZ q (mS (mS (mS (mS u 10 mk) 14 (fun _ => 0)) 16 (fun _ => 0)) 10 (mBar n (u 3) (u 0) (u 1) (u 5) (u 6) (u 7) (u 8) (u 9) mk i).2) = MW cI cZ q (mS (mS (mS u 10 (mBar n (u 3) (u 0) (u 1) (u 5) (u 6) (u 7) (u 8) (u 9) mk i).2) 14 (fun _ => 0)) 16 (fun _ => 0)) from (MW_ext (by refine ⟨?_, ?_, ?_, ?_, ?_, ?_, ?_, ?_, ?_, ?_, ?_, ?_, ?_, ?_, ?_, ?_, ?_, ?_⟩ <;> simp only [mS_at, ↓reduceIte, Nat.reduceEqDiff] <;> rfl))] at hP hD
          exact ih (i + 1) (mBar n (u 3) (u 0) (u 1) (u 5) (u 6) (u 7) (u 8) (u 9) mk i).2 _ _ _ hP hD hS (lv_sub hl [2, 3, 0] rfl) (by omega) (by rw [← hr, mBars, if_pos c_29])
        · have e1 : (mBar n (u 3) (u 0) (u 1) (u 5) (u 6) (u 7) (u 8) (u 9) mk i) = (mBars n (u 3) (u 0) (u 1) (u 5) (u 6) (u 7) (u 8) (u 9) w 0 (u 10)) := by rw [← hr, mBars, if_neg c_29]
          exact absurd ((congrArg Prod.fst e1).trans hz) c_29
  rw [show MW cI cZ q (mS (mS u 14 (fun _ => 0)) 16 (fun _ => 0)) = MW cI cZ q (mS (mS (mS u 10 (u 10)) 14 (fun _ => 0)) 16 (fun _ => 0)) from (MW_ext (by refine ⟨?_, ?_, ?_, ?_, ?_, ?_, ?_, ?_, ?_, ?_, ?_, ?_, ?_, ?_, ?_, ?_, ?_, ?_⟩ <;> simp only [mS_at, ↓reduceIte, Nat.reduceEqDiff] <;> rfl))] at hP hD
  exact loop w 0 (u 10) _ _ _ hP hD hS (lv_sub hl [2, 1, 0] rfl) (by omega) rfl
