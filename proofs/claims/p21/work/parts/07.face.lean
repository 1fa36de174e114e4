theorem lkX2_make_10 : Cond.fieldLink RX2 10 "FetchHouse" "history" "LFetchHouse$History;" ∈ wsX2_make := List.mem_of_getElem? (i := 5) (by decide +kernel)
theorem inX2_make_RX2 : ∀ w ∈ u_ws RX2 TX2 9, w ∈ wsX2_make := fun w h => List.mem_cons_of_mem _ (List.mem_append_left _ (List.mem_append_left _ (List.mem_append_left _ (List.mem_append_left _ (List.mem_append_left _ (List.mem_append_right _ h))))))
theorem inX2_make_RX1 : ∀ w ∈ u_ws RX1 TX1 3, w ∈ wsX2_make := fun w h => List.mem_cons_of_mem _ (List.mem_append_left _ (List.mem_append_left _ (List.mem_append_left _ (List.mem_append_left _ (List.mem_append_right _ h)))))
theorem inX2_make_RX0 : ∀ w ∈ u_ws RX0 TX0 6, w ∈ wsX2_make := fun w h => List.mem_cons_of_mem _ (List.mem_append_left _ (List.mem_append_left _ (List.mem_append_left _ (List.mem_append_right _ h))))
abbrev rmX2_make_0 : Room := { frames := 3, cells := 0, slots := 0, locals := 69 }
set_option maxHeartbeats 4000000 in
set_option maxRecDepth 100000 in
theorem ctX2_make_0 (l : Launch) (D : va_G) (cI cZ : ClassId) (q : Nat → Nat) (u : SX) (n : Nat) (hn : u.1 15 0 = nI n) (h60 : n ≤ 60) (h59 : n < 60) (p0 p1 p2 p3 p4 : Int32) (hs : p0 = 0) (h1 : ¬ xRange p3 4 = 0) (h2 : p1 = -1 ∨ ¬ xCon (u.2 0) p1 = 0) (h3 : p2 = -1 ∨ ¬ xCon (u.2 0) p2 = 0) (h4 : p4 = -1 ∨ ¬ xRange p4 100 = 0) (h5 : p2 = -1 ∨ (¬ p1 = -1 ∧ ¬ p1 = p2)) : gM l yX2_make wsX2_make rmX2_make_0 D [(cI, .int), (cZ, .boolean)] (XW cI cZ q) XG [.ref (q 0), .int p0, .int p1, .int p2, .int p3, .int p4] u (some (.int (nI n))) (gL (gS (gS (gS (gS (gS u 0 (upd (u.1 0) n p1)) 1 (upd (u.1 1) n p2)) 2 (xSlots n p1 p3 p4 (u.1 2))) 5 (xAddF (u.1 5) p4)) 15 (fun _ => (nI n + 1))) 0 ((u.2 0) ||| (xSet (nI n)))) := by
  refine g_start (cc := cX2_make) (maxL := 8) (ret := (some .int)) (by decide) rfl (Nat.le_of_ble_eq_true rfl) ?_
  intro p e s m below meth c A ls Q hx hb hml hret hts hown hlk hE hP hK hD hA hl hQ hS
  have hown : s.vm.findClass RX2 = some m.cls := hown
  have hl : lv_has ls 8 [(0, .ref (q 0)), (1, .int p0), (2, .int p1), (3, .int p2), (4, .int p3), (5, .int p4)] := hl
  refine lv_aload_n hx hb dX2_make_0 rfl (lv_at hl 0 rfl) ?_
  refine lv_iload_n hx hb dX2_make_1 rfl (lv_at hl 1 rfl) ?_
  refine g_callV (As := [.int p0]) (rest := []) hx hb hml hown hts (ctX2_storeOf_0 l D cI cZ q u p0 hs) gX2_make_X2_storeOf rfl rfl rfl hdX2_storeOf ⟨Nat.le_of_ble_eq_true rfl, Nat.le_of_ble_eq_true rfl⟩ XG_em hE hP hK hD hS hA 0 rfl rfl rfl hl.1 rfl (Nat.le_of_ble_eq_true rfl) dX2_make_2 ⟨Nat.zero_le _, Nat.zero_le _⟩ (fun H locs hP hD hS => ?_)
  have hP : va_P D vwCl (XW cI cZ q u) H := hP
  have hD : va_D A (XW cI cZ q u) := hD
  refine W.eq (g2 := F0 m 5 ls [.ref (q 2)]) rfl ?_
  refine lv_astore (lv' := [(6, .ref (q 2)), (0, .ref (q 0)), (1, .int p0), (2, .int p1), (3, .int p2), (4, .int p3), (5, .int p4)]) hx hb dX2_make_5 hl (by decide) rfl (fun ls hl => ?_)
  refine lv_iload hx hb dX2_make_7 (lv_at hl 5 rfl) ?_
  refine g_callS0 (As := [.int p3]) (rest := []) hx hb hml hown hts (ctX2_checkSlot l D cI cZ q p3 h1) gX2_make_X2_checkSlot rfl rfl rfl hdX2_checkSlot ⟨Nat.le_of_ble_eq_true rfl, Nat.le_of_ble_eq_true rfl⟩ gEM_true trivial hP hK hS hA rfl hl.1 rfl (Nat.le_of_ble_eq_true rfl) dX2_make_9 ⟨Nat.zero_le _, Nat.zero_le _⟩ (fun H locs hP hS => ?_)
  refine W.eq (g2 := F0 m 12 ls []) rfl ?_
  refine lv_aload hx hb dX2_make_12 (lv_at hl 0 rfl) ?_
  refine lv_iload_n hx hb dX2_make_14 rfl (lv_at hl 3 rfl) ?_
  refine g_callS (As := [.ref (q 2), .int p1]) (rest := []) hx hb hml hown hts (ctX2_checkHeldOrNone_0 l D cI cZ q u p1 h2) gX2_make_X2_checkHeldOrNone rfl rfl rfl hdX2_checkHeldOrNone ⟨Nat.le_of_ble_eq_true rfl, Nat.le_of_ble_eq_true rfl⟩ XG_em hE hP hK hD hS hA rfl hl.1 rfl (Nat.le_of_ble_eq_true rfl) dX2_make_15 ⟨Nat.zero_le _, Nat.zero_le _⟩ (fun H locs hP hD hS => ?_)
  have hP : va_P D vwCl (XW cI cZ q u) H := hP
  have hD : va_D A (XW cI cZ q u) := hD
  refine W.eq (g2 := F0 m 18 ls []) rfl ?_
  refine lv_aload hx hb dX2_make_18 (lv_at hl 0 rfl) ?_
  refine lv_iload_n hx hb dX2_make_20 rfl (lv_at hl 4 rfl) ?_
  refine g_callS (As := [.ref (q 2), .int p2]) (rest := []) hx hb hml hown hts (ctX2_checkHeldOrNone_0 l D cI cZ q u p2 h3) gX2_make_X2_checkHeldOrNone rfl rfl rfl hdX2_checkHeldOrNone ⟨Nat.le_of_ble_eq_true rfl, Nat.le_of_ble_eq_true rfl⟩ XG_em hE hP hK hD hS hA rfl hl.1 rfl (Nat.le_of_ble_eq_true rfl) dX2_make_21 ⟨Nat.zero_le _, Nat.zero_le _⟩ (fun H locs hP hD hS => ?_)
  have hP : va_P D vwCl (XW cI cZ q u) H := hP
  have hD : va_D A (XW cI cZ q u) := hD
  refine W.eq (g2 := F0 m 24 ls []) rfl ?_
  refine lv_iload hx hb dX2_make_24 (lv_at hl 6 rfl) ?_
  refine lv_iconst (v := (-1)) hx hb dX2_make_26 (by decide +kernel) ?_
  refine lv_icmp_eq (tgt := 35) hx hb dX2_make_27 (by decide) (fun c_27 => ?_) (fun c_27 => ?_)
  · refine lv_iload_n hx hb dX2_make_35 rfl (lv_at hl 4 rfl) ?_
    refine lv_iconst (v := (-1)) hx hb dX2_make_36 (by decide +kernel) ?_
    refine lv_icmp_eq (tgt := 60) hx hb dX2_make_37 (by decide) (fun c_37 => ?_) (fun c_37 => ?_)
    · refine lv_aload_n hx hb dX2_make_60 rfl (lv_at hl 1 rfl) ?_
      refine va_get (ci := 2) (v := .ref (q 1)) (C := RX2) (T := TX2) (N := 9) hx hb hts inX2_make_RX2 hown hK hP 0 rfl rfl 0 (by decide) (hts _ lkX2_make_10) (fun _ h9 => h9) rfl dX2_make_61 ?_
      refine g_callV (As := []) (rest := []) hx hb hml hown hts (ctX0_isFull l D cI cZ q u n hn h60) gX2_make_X0_isFull rfl rfl rfl hdX0_isFull ⟨Nat.le_of_ble_eq_true rfl, Nat.le_of_ble_eq_true rfl⟩ XG_em hE hP hK hD hS hA 1 rfl rfl rfl hl.1 rfl (Nat.le_of_ble_eq_true rfl) dX2_make_64 ⟨Nat.zero_le _, Nat.zero_le _⟩ (fun H locs hP hD hS => ?_)
      have hP : va_P D vwCl (XW cI cZ q u) H := hP
      have hD : va_D A (XW cI cZ q u) := hD
      refine W.eq (g2 := F0 m 67 ls [.int (if n < 60 then 0 else 1)]) rfl ?_
      refine lv_if_eq (tgt := 80) hx hb dX2_make_67 (by decide) (fun c_67 => ?_) (fun c_67 => ?_)
      · refine lv_aload_n hx hb dX2_make_80 rfl (lv_at hl 1 rfl) ?_
        refine va_get (ci := 2) (v := .ref (q 1)) (C := RX2) (T := TX2) (N := 9) hx hb hts inX2_make_RX2 hown hK hP 0 rfl rfl 0 (by decide) (hts _ lkX2_make_10) (fun _ h9 => h9) rfl dX2_make_81 ?_
        refine lv_iload_n hx hb dX2_make_84 rfl (lv_at hl 3 rfl) ?_
        refine lv_iload_n hx hb dX2_make_85 rfl (lv_at hl 4 rfl) ?_
        refine lv_iload hx hb dX2_make_86 (lv_at hl 5 rfl) ?_
        refine lv_iload hx hb dX2_make_88 (lv_at hl 6 rfl) ?_
        refine g_callV (As := [.int p1, .int p2, .int p3, .int p4]) (rest := []) hx hb hml hown hts (ctX0_append l D cI cZ q u n hn h60 h59 p1 p2 p3 p4) gX2_make_X0_append rfl rfl rfl hdX0_append ⟨Nat.le_of_ble_eq_true rfl, Nat.le_of_ble_eq_true rfl⟩ XG_em hE hP hK hD hS hA 1 rfl rfl rfl hl.1 rfl (Nat.le_of_ble_eq_true rfl) dX2_make_90 ⟨Nat.zero_le _, Nat.zero_le _⟩ (fun H locs hP hD hS => ?_)
        have hP : va_P D vwCl (XW cI cZ q (gS (gS (gS (gS u 0 (upd (u.1 0) n p1)) 1 (upd (u.1 1) n p2)) 2 (xSlots n p1 p3 p4 (u.1 2))) 15 (fun _ => (nI n + 1)))) H := hP
        have hD : va_D A (XW cI cZ q (gS (gS (gS (gS u 0 (upd (u.1 0) n p1)) 1 (upd (u.1 1) n p2)) 2 (xSlots n p1 p3 p4 (u.1 2))) 15 (fun _ => (nI n + 1)))) := hD
        refine W.eq (g2 := F0 m 93 ls [.int (nI n)]) rfl ?_
        refine lv_istore (lv' := [(7, .int (nI n)), (6, .ref (q 2)), (0, .ref (q 0)), (1, .int p0), (2, .int p1), (3, .int p2), (4, .int p3), (5, .int p4)]) hx hb dX2_make_93 hl (by decide) rfl (fun ls hl => ?_)
        refine lv_aload hx hb dX2_make_95 (lv_at hl 1 rfl) ?_
        refine lv_dup hx hb dX2_make_97 rfl ?_
        refine va_getN (host := "FetchHouse") (ci := 1) (v := .long (u.2 0)) (C := RX1) (T := TX1) (N := 3) hx hb hts inX2_make_RX1 hown hK hP 2 rfl rfl 0 (by decide) (va_Nw.use rfl (hE.1 _ (List.mem_of_getElem? (i := 0) rfl))) (fun _ h9 => h9) rfl dX2_make_98 ?_
        refine lv_iload hx hb dX2_make_101 (lv_at hl 0 rfl) ?_
        refine g_callS0 (As := [.int (nI n)]) (rest := [.long (u.2 0), .ref (q 2)]) hx hb hml hown hts (ctX2_setOf l D cI cZ q (nI n)) gX2_make_X2_setOf rfl rfl rfl hdX2_setOf ⟨Nat.le_of_ble_eq_true rfl, Nat.le_of_ble_eq_true rfl⟩ gEM_true trivial hP hK hS hA rfl hl.1 rfl (Nat.le_of_ble_eq_true rfl) dX2_make_103 ⟨Nat.zero_le _, Nat.zero_le _⟩ (fun H locs hP hS => ?_)
        refine W.eq (g2 := F0 m 106 ls [.long (xSet (nI n)), .long (u.2 0), .ref (q 2)]) rfl ?_
        refine lv_lor hx hb dX2_make_106 ?_
        refine va_putN (host := "FetchHouse") (ci := 1) (v := .long ((u.2 0) ||| (xSet (nI n)))) (ty := .long) (C := RX1) (T := TX1) (N := 3) hx hb hts inX2_make_RX1 tyX1 tyX1_ok nmX1 hown hK hP hD hS 2 rfl rfl 0 (by decide) (va_Nw.use rfl (hE.1 _ (List.mem_of_getElem? (i := 0) rfl))) (fun _ h9 => h9) rfl (by decide +kernel) rfl rfl (Nat.le_of_ble_eq_true rfl) dX2_make_107 (fun H locs hP hD hS => ?_)
        have hP : va_P D vwCl (XW cI cZ q (gL (gS (gS (gS (gS u 0 (upd (u.1 0) n p1)) 1 (upd (u.1 1) n p2)) 2 (xSlots n p1 p3 p4 (u.1 2))) 15 (fun _ => (nI n + 1))) 0 ((u.2 0) ||| (xSet (nI n))))) H := hP
        have hD : va_D A (XW cI cZ q (gL (gS (gS (gS (gS u 0 (upd (u.1 0) n p1)) 1 (upd (u.1 1) n p2)) 2 (xSlots n p1 p3 p4 (u.1 2))) 15 (fun _ => (nI n + 1))) 0 ((u.2 0) ||| (xSet (nI n))))) := hD
        refine lv_aload hx hb dX2_make_110 (lv_at hl 1 rfl) ?_
        refine lv_iload hx hb dX2_make_112 (lv_at hl 7 rfl) ?_
        refine g_callV (As := [.int p4]) (rest := []) hx hb hml hown hts (ctX1_addFile_0 l D cI cZ q (gL (gS (gS (gS (gS u 0 (upd (u.1 0) n p1)) 1 (upd (u.1 1) n p2)) 2 (xSlots n p1 p3 p4 (u.1 2))) 15 (fun _ => (nI n + 1))) 0 ((u.2 0) ||| (xSet (nI n)))) p4) gX2_make_X1_addFile rfl rfl rfl hdX1_addFile ⟨Nat.le_of_ble_eq_true rfl, Nat.le_of_ble_eq_true rfl⟩ XG_em hE hP hK hD hS hA 2 rfl rfl rfl hl.1 rfl (Nat.le_of_ble_eq_true rfl) dX2_make_114 ⟨Nat.zero_le _, Nat.zero_le _⟩ (fun H locs hP hD hS => ?_)
        have hP : va_P D vwCl (XW cI cZ q (gL (gS (gS (gS (gS (gS u 0 (upd (u.1 0) n p1)) 1 (upd (u.1 1) n p2)) 2 (xSlots n p1 p3 p4 (u.1 2))) 5 (xAddF (u.1 5) p4)) 15 (fun _ => (nI n + 1))) 0 ((u.2 0) ||| (xSet (nI n))))) H := hP
        have hD : va_D A (XW cI cZ q (gL (gS (gS (gS (gS (gS u 0 (upd (u.1 0) n p1)) 1 (upd (u.1 1) n p2)) 2 (xSlots n p1 p3 p4 (u.1 2))) 5 (xAddF (u.1 5) p4)) 15 (fun _ => (nI n + 1))) 0 ((u.2 0) ||| (xSet (nI n))))) := hD
        refine W.eq (g2 := F0 m 117 ls []) rfl ?_
        refine lv_iload hx hb dX2_make_117 (lv_at hl 0 rfl) ?_
        refine g_iret (u1 := (gL (gS (gS (gS (gS (gS u 0 (upd (u.1 0) n p1)) 1 (upd (u.1 1) n p2)) 2 (xSlots n p1 p3 p4 (u.1 2))) 5 (xAddF (u.1 5) p4)) 15 (fun _ => (nI n + 1))) 0 ((u.2 0) ||| (xSet (nI n))))) hx hb hret hlk hQ hP hD hS dX2_make_119 ?_ ?_
        · exact rfl
        · exact rfl
      · exact absurd (if_pos h59) c_67
    · refine lv_iload_n hx hb dX2_make_40 rfl (lv_at hl 3 rfl) ?_
      refine lv_iconst (v := (-1)) hx hb dX2_make_41 (by decide +kernel) ?_
      refine lv_icmp_eq (tgt := 50) hx hb dX2_make_42 (by decide) (fun c_42 => ?_) (fun c_42 => ?_)
      · exact absurd c_42 (h5.resolve_left c_37).1
      · refine lv_iload_n hx hb dX2_make_45 rfl (lv_at hl 3 rfl) ?_
        refine lv_iload_n hx hb dX2_make_46 rfl (lv_at hl 4 rfl) ?_
        refine lv_icmp_ne (tgt := 60) hx hb dX2_make_47 (by decide) (fun c_47 => ?_) (fun c_47 => ?_)
        · refine lv_aload_n hx hb dX2_make_60 rfl (lv_at hl 1 rfl) ?_
          refine va_get (ci := 2) (v := .ref (q 1)) (C := RX2) (T := TX2) (N := 9) hx hb hts inX2_make_RX2 hown hK hP 0 rfl rfl 0 (by decide) (hts _ lkX2_make_10) (fun _ h9 => h9) rfl dX2_make_61 ?_
          refine g_callV (As := []) (rest := []) hx hb hml hown hts (ctX0_isFull l D cI cZ q u n hn h60) gX2_make_X0_isFull rfl rfl rfl hdX0_isFull ⟨Nat.le_of_ble_eq_true rfl, Nat.le_of_ble_eq_true rfl⟩ XG_em hE hP hK hD hS hA 1 rfl rfl rfl hl.1 rfl (Nat.le_of_ble_eq_true rfl) dX2_make_64 ⟨Nat.zero_le _, Nat.zero_le _⟩ (fun H locs hP hD hS => ?_)
          have hP : va_P D vwCl (XW cI cZ q u) H := hP
          have hD : va_D A (XW cI cZ q u) := hD
          refine W.eq (g2 := F0 m 67 ls [.int (if n < 60 then 0 else 1)]) rfl ?_
          refine lv_if_eq (tgt := 80) hx hb dX2_make_67 (by decide) (fun c_67 => ?_) (fun c_67 => ?_)
          · refine lv_aload_n hx hb dX2_make_80 rfl (lv_at hl 1 rfl) ?_
            refine va_get (ci := 2) (v := .ref (q 1)) (C := RX2) (T := TX2) (N := 9) hx hb hts inX2_make_RX2 hown hK hP 0 rfl rfl 0 (by decide) (hts _ lkX2_make_10) (fun _ h9 => h9) rfl dX2_make_81 ?_
            refine lv_iload_n hx hb dX2_make_84 rfl (lv_at hl 3 rfl) ?_
            refine lv_iload_n hx hb dX2_make_85 rfl (lv_at hl 4 rfl) ?_
            refine lv_iload hx hb dX2_make_86 (lv_at hl 5 rfl) ?_
            refine lv_iload hx hb dX2_make_88 (lv_at hl 6 rfl) ?_
            refine g_callV (As := [.int p1, .int p2, .int p3, .int p4]) (rest := []) hx hb hml hown hts (ctX0_append l D cI cZ q u n hn h60 h59 p1 p2 p3 p4) gX2_make_X0_append rfl rfl rfl hdX0_append ⟨Nat.le_of_ble_eq_true rfl, Nat.le_of_ble_eq_true rfl⟩ XG_em hE hP hK hD hS hA 1 rfl rfl rfl hl.1 rfl (Nat.le_of_ble_eq_true rfl) dX2_make_90 ⟨Nat.zero_le _, Nat.zero_le _⟩ (fun H locs hP hD hS => ?_)
            have hP : va_P D vwCl (XW cI cZ q (gS (gS (gS (gS u 0 (upd (u.1 0) n p1)) 1 (upd (u.1 1) n p2)) 2 (xSlots n p1 p3 p4 (u.1 2))) 15 (fun _ => (nI n + 1)))) H := hP
            have hD : va_D A (XW cI cZ q (gS (gS (gS (gS u 0 (upd (u.1 0) n p1)) 1 (upd (u.1 1) n p2)) 2 (xSlots n p1 p3 p4 (u.1 2))) 15 (fun _ => (nI n + 1)))) := hD
            refine W.eq (g2 := F0 m 93 ls [.int (nI n)]) rfl ?_
            refine lv_istore (lv' := [(7, .int (nI n)), (6, .ref (q 2)), (0, .ref (q 0)), (1, .int p0), (2, .int p1), (3, .int p2), (4, .int p3), (5, .int p4)]) hx hb dX2_make_93 hl (by decide) rfl (fun ls hl => ?_)
            refine lv_aload hx hb dX2_make_95 (lv_at hl 1 rfl) ?_
            refine lv_dup hx hb dX2_make_97 rfl ?_
            refine va_getN (host := "FetchHouse") (ci := 1) (v := .long (u.2 0)) (C := RX1) (T := TX1) (N := 3) hx hb hts inX2_make_RX1 hown hK hP 2 rfl rfl 0 (by decide) (va_Nw.use rfl (hE.1 _ (List.mem_of_getElem? (i := 0) rfl))) (fun _ h9 => h9) rfl dX2_make_98 ?_
            refine lv_iload hx hb dX2_make_101 (lv_at hl 0 rfl) ?_
            refine g_callS0 (As := [.int (nI n)]) (rest := [.long (u.2 0), .ref (q 2)]) hx hb hml hown hts (ctX2_setOf l D cI cZ q (nI n)) gX2_make_X2_setOf rfl rfl rfl hdX2_setOf ⟨Nat.le_of_ble_eq_true rfl, Nat.le_of_ble_eq_true rfl⟩ gEM_true trivial hP hK hS hA rfl hl.1 rfl (Nat.le_of_ble_eq_true rfl) dX2_make_103 ⟨Nat.zero_le _, Nat.zero_le _⟩ (fun H locs hP hS => ?_)
            refine W.eq (g2 := F0 m 106 ls [.long (xSet (nI n)), .long (u.2 0), .ref (q 2)]) rfl ?_
            refine lv_lor hx hb dX2_make_106 ?_
            refine va_putN (host := "FetchHouse") (ci := 1) (v := .long ((u.2 0) ||| (xSet (nI n)))) (ty := .long) (C := RX1) (T := TX1) (N := 3) hx hb hts inX2_make_RX1 tyX1 tyX1_ok nmX1 hown hK hP hD hS 2 rfl rfl 0 (by decide) (va_Nw.use rfl (hE.1 _ (List.mem_of_getElem? (i := 0) rfl))) (fun _ h9 => h9) rfl (by decide +kernel) rfl rfl (Nat.le_of_ble_eq_true rfl) dX2_make_107 (fun H locs hP hD hS => ?_)
            have hP : va_P D vwCl (XW cI cZ q (gL (gS (gS (gS (gS u 0 (upd (u.1 0) n p1)) 1 (upd (u.1 1) n p2)) 2 (xSlots n p1 p3 p4 (u.1 2))) 15 (fun _ => (nI n + 1))) 0 ((u.2 0) ||| (xSet (nI n))))) H := hP
            have hD : va_D A (XW cI cZ q (gL (gS (gS (gS (gS u 0 (upd (u.1 0) n p1)) 1 (upd (u.1 1) n p2)) 2 (xSlots n p1 p3 p4 (u.1 2))) 15 (fun _ => (nI n + 1))) 0 ((u.2 0) ||| (xSet (nI n))))) := hD
            refine lv_aload hx hb dX2_make_110 (lv_at hl 1 rfl) ?_
            refine lv_iload hx hb dX2_make_112 (lv_at hl 7 rfl) ?_
            refine g_callV (As := [.int p4]) (rest := []) hx hb hml hown hts (ctX1_addFile_0 l D cI cZ q (gL (gS (gS (gS (gS u 0 (upd (u.1 0) n p1)) 1 (upd (u.1 1) n p2)) 2 (xSlots n p1 p3 p4 (u.1 2))) 15 (fun _ => (nI n + 1))) 0 ((u.2 0) ||| (xSet (nI n)))) p4) gX2_make_X1_addFile rfl rfl rfl hdX1_addFile ⟨Nat.le_of_ble_eq_true rfl, Nat.le_of_ble_eq_true rfl⟩ XG_em hE hP hK hD hS hA 2 rfl rfl rfl hl.1 rfl (Nat.le_of_ble_eq_true rfl) dX2_make_114 ⟨Nat.zero_le _, Nat.zero_le _⟩ (fun H locs hP hD hS => ?_)
            have hP : va_P D vwCl (XW cI cZ q (gL (gS (gS (gS (gS (gS u 0 (upd (u.1 0) n p1)) 1 (upd (u.1 1) n p2)) 2 (xSlots n p1 p3 p4 (u.1 2))) 5 (xAddF (u.1 5) p4)) 15 (fun _ => (nI n + 1))) 0 ((u.2 0) ||| (xSet (nI n))))) H := hP
            have hD : va_D A (XW cI cZ q (gL (gS (gS (gS (gS (gS u 0 (upd (u.1 0) n p1)) 1 (upd (u.1 1) n p2)) 2 (xSlots n p1 p3 p4 (u.1 2))) 5 (xAddF (u.1 5) p4)) 15 (fun _ => (nI n + 1))) 0 ((u.2 0) ||| (xSet (nI n))))) := hD
            refine W.eq (g2 := F0 m 117 ls []) rfl ?_
            refine lv_iload hx hb dX2_make_117 (lv_at hl 0 rfl) ?_
            refine g_iret (u1 := (gL (gS (gS (gS (gS (gS u 0 (upd (u.1 0) n p1)) 1 (upd (u.1 1) n p2)) 2 (xSlots n p1 p3 p4 (u.1 2))) 5 (xAddF (u.1 5) p4)) 15 (fun _ => (nI n + 1))) 0 ((u.2 0) ||| (xSet (nI n))))) hx hb hret hlk hQ hP hD hS dX2_make_119 ?_ ?_
            · exact rfl
            · exact rfl
          · exact absurd (if_pos h59) c_67
        · exact absurd c_47 (h5.resolve_left c_37).2
  · refine lv_iload hx hb dX2_make_30 (lv_at hl 6 rfl) ?_
    refine g_callS0 (As := [.int p4]) (rest := []) hx hb hml hown hts (ctX2_checkFile l D cI cZ q p4 (h4.resolve_left c_27)) gX2_make_X2_checkFile rfl rfl rfl hdX2_checkFile ⟨Nat.le_of_ble_eq_true rfl, Nat.le_of_ble_eq_true rfl⟩ gEM_true trivial hP hK hS hA rfl hl.1 rfl (Nat.le_of_ble_eq_true rfl) dX2_make_32 ⟨Nat.zero_le _, Nat.zero_le _⟩ (fun H locs hP hS => ?_)
    refine W.eq (g2 := F0 m 35 ls []) rfl ?_
    refine lv_iload_n hx hb dX2_make_35 rfl (lv_at hl 4 rfl) ?_
    refine lv_iconst (v := (-1)) hx hb dX2_make_36 (by decide +kernel) ?_
    refine lv_icmp_eq (tgt := 60) hx hb dX2_make_37 (by decide) (fun c_37 => ?_) (fun c_37 => ?_)
    · refine lv_aload_n hx hb dX2_make_60 rfl (lv_at hl 1 rfl) ?_
      refine va_get (ci := 2) (v := .ref (q 1)) (C := RX2) (T := TX2) (N := 9) hx hb hts inX2_make_RX2 hown hK hP 0 rfl rfl 0 (by decide) (hts _ lkX2_make_10) (fun _ h9 => h9) rfl dX2_make_61 ?_
      refine g_callV (As := []) (rest := []) hx hb hml hown hts (ctX0_isFull l D cI cZ q u n hn h60) gX2_make_X0_isFull rfl rfl rfl hdX0_isFull ⟨Nat.le_of_ble_eq_true rfl, Nat.le_of_ble_eq_true rfl⟩ XG_em hE hP hK hD hS hA 1 rfl rfl rfl hl.1 rfl (Nat.le_of_ble_eq_true rfl) dX2_make_64 ⟨Nat.zero_le _, Nat.zero_le _⟩ (fun H locs hP hD hS => ?_)
      have hP : va_P D vwCl (XW cI cZ q u) H := hP
      have hD : va_D A (XW cI cZ q u) := hD
      refine W.eq (g2 := F0 m 67 ls [.int (if n < 60 then 0 else 1)]) rfl ?_
      refine lv_if_eq (tgt := 80) hx hb dX2_make_67 (by decide) (fun c_67 => ?_) (fun c_67 => ?_)
      · refine lv_aload_n hx hb dX2_make_80 rfl (lv_at hl 1 rfl) ?_
        refine va_get (ci := 2) (v := .ref (q 1)) (C := RX2) (T := TX2) (N := 9) hx hb hts inX2_make_RX2 hown hK hP 0 rfl rfl 0 (by decide) (hts _ lkX2_make_10) (fun _ h9 => h9) rfl dX2_make_81 ?_
        refine lv_iload_n hx hb dX2_make_84 rfl (lv_at hl 3 rfl) ?_
        refine lv_iload_n hx hb dX2_make_85 rfl (lv_at hl 4 rfl) ?_
        refine lv_iload hx hb dX2_make_86 (lv_at hl 5 rfl) ?_
        refine lv_iload hx hb dX2_make_88 (lv_at hl 6 rfl) ?_
        refine g_callV (As := [.int p1, .int p2, .int p3, .int p4]) (rest := []) hx hb hml hown hts (ctX0_append l D cI cZ q u n hn h60 h59 p1 p2 p3 p4) gX2_make_X0_append rfl rfl rfl hdX0_append ⟨Nat.le_of_ble_eq_true rfl, Nat.le_of_ble_eq_true rfl⟩ XG_em hE hP hK hD hS hA 1 rfl rfl rfl hl.1 rfl (Nat.le_of_ble_eq_true rfl) dX2_make_90 ⟨Nat.zero_le _, Nat.zero_le _⟩ (fun H locs hP hD hS => ?_)
        have hP : va_P D vwCl (XW cI cZ q (gS (gS (gS (gS u 0 (upd (u.1 0) n p1)) 1 (upd (u.1 1) n p2)) 2 (xSlots n p1 p3 p4 (u.1 2))) 15 (fun _ => (nI n + 1)))) H := hP
        have hD : va_D A (XW cI cZ q (gS (gS (gS (gS u 0 (upd (u.1 0) n p1)) 1 (upd (u.1 1) n p2)) 2 (xSlots n p1 p3 p4 (u.1 2))) 15 (fun _ => (nI n + 1)))) := hD
        refine W.eq (g2 := F0 m 93 ls [.int (nI n)]) rfl ?_
        refine lv_istore (lv' := [(7, .int (nI n)), (6, .ref (q 2)), (0, .ref (q 0)), (1, .int p0), (2, .int p1), (3, .int p2), (4, .int p3), (5, .int p4)]) hx hb dX2_make_93 hl (by decide) rfl (fun ls hl => ?_)
        refine lv_aload hx hb dX2_make_95 (lv_at hl 1 rfl) ?_
        refine lv_dup hx hb dX2_make_97 rfl ?_
        refine va_getN (host := "FetchHouse") (ci := 1) (v := .long (u.2 0)) (C := RX1) (T := TX1) (N := 3) hx hb hts inX2_make_RX1 hown hK hP 2 rfl rfl 0 (by decide) (va_Nw.use rfl (hE.1 _ (List.mem_of_getElem? (i := 0) rfl))) (fun _ h9 => h9) rfl dX2_make_98 ?_
        refine lv_iload hx hb dX2_make_101 (lv_at hl 0 rfl) ?_
        refine g_callS0 (As := [.int (nI n)]) (rest := [.long (u.2 0), .ref (q 2)]) hx hb hml hown hts (ctX2_setOf l D cI cZ q (nI n)) gX2_make_X2_setOf rfl rfl rfl hdX2_setOf ⟨Nat.le_of_ble_eq_true rfl, Nat.le_of_ble_eq_true rfl⟩ gEM_true trivial hP hK hS hA rfl hl.1 rfl (Nat.le_of_ble_eq_true rfl) dX2_make_103 ⟨Nat.zero_le _, Nat.zero_le _⟩ (fun H locs hP hS => ?_)
        refine W.eq (g2 := F0 m 106 ls [.long (xSet (nI n)), .long (u.2 0), .ref (q 2)]) rfl ?_
        refine lv_lor hx hb dX2_make_106 ?_
        refine va_putN (host := "FetchHouse") (ci := 1) (v := .long ((u.2 0) ||| (xSet (nI n)))) (ty := .long) (C := RX1) (T := TX1) (N := 3) hx hb hts inX2_make_RX1 tyX1 tyX1_ok nmX1 hown hK hP hD hS 2 rfl rfl 0 (by decide) (va_Nw.use rfl (hE.1 _ (List.mem_of_getElem? (i := 0) rfl))) (fun _ h9 => h9) rfl (by decide +kernel) rfl rfl (Nat.le_of_ble_eq_true rfl) dX2_make_107 (fun H locs hP hD hS => ?_)
        have hP : va_P D vwCl (XW cI cZ q (gL (gS (gS (gS (gS u 0 (upd (u.1 0) n p1)) 1 (upd (u.1 1) n p2)) 2 (xSlots n p1 p3 p4 (u.1 2))) 15 (fun _ => (nI n + 1))) 0 ((u.2 0) ||| (xSet (nI n))))) H := hP
        have hD : va_D A (XW cI cZ q (gL (gS (gS (gS (gS u 0 (upd (u.1 0) n p1)) 1 (upd (u.1 1) n p2)) 2 (xSlots n p1 p3 p4 (u.1 2))) 15 (fun _ => (nI n + 1))) 0 ((u.2 0) ||| (xSet (nI n))))) := hD
        refine lv_aload hx hb dX2_make_110 (lv_at hl 1 rfl) ?_
        refine lv_iload hx hb dX2_make_112 (lv_at hl 7 rfl) ?_
        refine g_callV (As := [.int p4]) (rest := []) hx hb hml hown hts (ctX1_addFile_0 l D cI cZ q (gL (gS (gS (gS (gS u 0 (upd (u.1 0) n p1)) 1 (upd (u.1 1) n p2)) 2 (xSlots n p1 p3 p4 (u.1 2))) 15 (fun _ => (nI n + 1))) 0 ((u.2 0) ||| (xSet (nI n)))) p4) gX2_make_X1_addFile rfl rfl rfl hdX1_addFile ⟨Nat.le_of_ble_eq_true rfl, Nat.le_of_ble_eq_true rfl⟩ XG_em hE hP hK hD hS hA 2 rfl rfl rfl hl.1 rfl (Nat.le_of_ble_eq_true rfl) dX2_make_114 ⟨Nat.zero_le _, Nat.zero_le _⟩ (fun H locs hP hD hS => ?_)
        have hP : va_P D vwCl (XW cI cZ q (gL (gS (gS (gS (gS (gS u 0 (upd (u.1 0) n p1)) 1 (upd (u.1 1) n p2)) 2 (xSlots n p1 p3 p4 (u.1 2))) 5 (xAddF (u.1 5) p4)) 15 (fun _ => (nI n + 1))) 0 ((u.2 0) ||| (xSet (nI n))))) H := hP
        have hD : va_D A (XW cI cZ q (gL (gS (gS (gS (gS (gS u 0 (upd (u.1 0) n p1)) 1 (upd (u.1 1) n p2)) 2 (xSlots n p1 p3 p4 (u.1 2))) 5 (xAddF (u.1 5) p4)) 15 (fun _ => (nI n + 1))) 0 ((u.2 0) ||| (xSet (nI n))))) := hD
        refine W.eq (g2 := F0 m 117 ls []) rfl ?_
        refine lv_iload hx hb dX2_make_117 (lv_at hl 0 rfl) ?_
        refine g_iret (u1 := (gL (gS (gS (gS (gS (gS u 0 (upd (u.1 0) n p1)) 1 (upd (u.1 1) n p2)) 2 (xSlots n p1 p3 p4 (u.1 2))) 5 (xAddF (u.1 5) p4)) 15 (fun _ => (nI n + 1))) 0 ((u.2 0) ||| (xSet (nI n))))) hx hb hret hlk hQ hP hD hS dX2_make_119 ?_ ?_
        · exact rfl
        · exact rfl
      · exact absurd (if_pos h59) c_67
    · refine lv_iload_n hx hb dX2_make_40 rfl (lv_at hl 3 rfl) ?_
      refine lv_iconst (v := (-1)) hx hb dX2_make_41 (by decide +kernel) ?_
      refine lv_icmp_eq (tgt := 50) hx hb dX2_make_42 (by decide) (fun c_42 => ?_) (fun c_42 => ?_)
      · exact absurd c_42 (h5.resolve_left c_37).1
      · refine lv_iload_n hx hb dX2_make_45 rfl (lv_at hl 3 rfl) ?_
        refine lv_iload_n hx hb dX2_make_46 rfl (lv_at hl 4 rfl) ?_
        refine lv_icmp_ne (tgt := 60) hx hb dX2_make_47 (by decide) (fun c_47 => ?_) (fun c_47 => ?_)
        · refine lv_aload_n hx hb dX2_make_60 rfl (lv_at hl 1 rfl) ?_
          refine va_get (ci := 2) (v := .ref (q 1)) (C := RX2) (T := TX2) (N := 9) hx hb hts inX2_make_RX2 hown hK hP 0 rfl rfl 0 (by decide) (hts _ lkX2_make_10) (fun _ h9 => h9) rfl dX2_make_61 ?_
          refine g_callV (As := []) (rest := []) hx hb hml hown hts (ctX0_isFull l D cI cZ q u n hn h60) gX2_make_X0_isFull rfl rfl rfl hdX0_isFull ⟨Nat.le_of_ble_eq_true rfl, Nat.le_of_ble_eq_true rfl⟩ XG_em hE hP hK hD hS hA 1 rfl rfl rfl hl.1 rfl (Nat.le_of_ble_eq_true rfl) dX2_make_64 ⟨Nat.zero_le _, Nat.zero_le _⟩ (fun H locs hP hD hS => ?_)
          have hP : va_P D vwCl (XW cI cZ q u) H := hP
          have hD : va_D A (XW cI cZ q u) := hD
          refine W.eq (g2 := F0 m 67 ls [.int (if n < 60 then 0 else 1)]) rfl ?_
          refine lv_if_eq (tgt := 80) hx hb dX2_make_67 (by decide) (fun c_67 => ?_) (fun c_67 => ?_)
          · refine lv_aload_n hx hb dX2_make_80 rfl (lv_at hl 1 rfl) ?_
            refine va_get (ci := 2) (v := .ref (q 1)) (C := RX2) (T := TX2) (N := 9) hx hb hts inX2_make_RX2 hown hK hP 0 rfl rfl 0 (by decide) (hts _ lkX2_make_10) (fun _ h9 => h9) rfl dX2_make_81 ?_
            refine lv_iload_n hx hb dX2_make_84 rfl (lv_at hl 3 rfl) ?_
            refine lv_iload_n hx hb dX2_make_85 rfl (lv_at hl 4 rfl) ?_
            refine lv_iload hx hb dX2_make_86 (lv_at hl 5 rfl) ?_
            refine lv_iload hx hb dX2_make_88 (lv_at hl 6 rfl) ?_
            refine g_callV (As := [.int p1, .int p2, .int p3, .int p4]) (rest := []) hx hb hml hown hts (ctX0_append l D cI cZ q u n hn h60 h59 p1 p2 p3 p4) gX2_make_X0_append rfl rfl rfl hdX0_append ⟨Nat.le_of_ble_eq_true rfl, Nat.le_of_ble_eq_true rfl⟩ XG_em hE hP hK hD hS hA 1 rfl rfl rfl hl.1 rfl (Nat.le_of_ble_eq_true rfl) dX2_make_90 ⟨Nat.zero_le _, Nat.zero_le _⟩ (fun H locs hP hD hS => ?_)
            have hP : va_P D vwCl (XW cI cZ q (gS (gS (gS (gS u 0 (upd (u.1 0) n p1)) 1 (upd (u.1 1) n p2)) 2 (xSlots n p1 p3 p4 (u.1 2))) 15 (fun _ => (nI n + 1)))) H := hP
            have hD : va_D A (XW cI cZ q (gS (gS (gS (gS u 0 (upd (u.1 0) n p1)) 1 (upd (u.1 1) n p2)) 2 (xSlots n p1 p3 p4 (u.1 2))) 15 (fun _ => (nI n + 1)))) := hD
            refine W.eq (g2 := F0 m 93 ls [.int (nI n)]) rfl ?_
            refine lv_istore (lv' := [(7, .int (nI n)), (6, .ref (q 2)), (0, .ref (q 0)), (1, .int p0), (2, .int p1), (3, .int p2), (4, .int p3), (5, .int p4)]) hx hb dX2_make_93 hl (by decide) rfl (fun ls hl => ?_)
            refine lv_aload hx hb dX2_make_95 (lv_at hl 1 rfl) ?_
            refine lv_dup hx hb dX2_make_97 rfl ?_
            refine va_getN (host := "FetchHouse") (ci := 1) (v := .long (u.2 0)) (C := RX1) (T := TX1) (N := 3) hx hb hts inX2_make_RX1 hown hK hP 2 rfl rfl 0 (by decide) (va_Nw.use rfl (hE.1 _ (List.mem_of_getElem? (i := 0) rfl))) (fun _ h9 => h9) rfl dX2_make_98 ?_
            refine lv_iload hx hb dX2_make_101 (lv_at hl 0 rfl) ?_
            refine g_callS0 (As := [.int (nI n)]) (rest := [.long (u.2 0), .ref (q 2)]) hx hb hml hown hts (ctX2_setOf l D cI cZ q (nI n)) gX2_make_X2_setOf rfl rfl rfl hdX2_setOf ⟨Nat.le_of_ble_eq_true rfl, Nat.le_of_ble_eq_true rfl⟩ gEM_true trivial hP hK hS hA rfl hl.1 rfl (Nat.le_of_ble_eq_true rfl) dX2_make_103 ⟨Nat.zero_le _, Nat.zero_le _⟩ (fun H locs hP hS => ?_)
            refine W.eq (g2 := F0 m 106 ls [.long (xSet (nI n)), .long (u.2 0), .ref (q 2)]) rfl ?_
            refine lv_lor hx hb dX2_make_106 ?_
            refine va_putN (host := "FetchHouse") (ci := 1) (v := .long ((u.2 0) ||| (xSet (nI n)))) (ty := .long) (C := RX1) (T := TX1) (N := 3) hx hb hts inX2_make_RX1 tyX1 tyX1_ok nmX1 hown hK hP hD hS 2 rfl rfl 0 (by decide) (va_Nw.use rfl (hE.1 _ (List.mem_of_getElem? (i := 0) rfl))) (fun _ h9 => h9) rfl (by decide +kernel) rfl rfl (Nat.le_of_ble_eq_true rfl) dX2_make_107 (fun H locs hP hD hS => ?_)
            have hP : va_P D vwCl (XW cI cZ q (gL (gS (gS (gS (gS u 0 (upd (u.1 0) n p1)) 1 (upd (u.1 1) n p2)) 2 (xSlots n p1 p3 p4 (u.1 2))) 15 (fun _ => (nI n + 1))) 0 ((u.2 0) ||| (xSet (nI n))))) H := hP
            have hD : va_D A (XW cI cZ q (gL (gS (gS (gS (gS u 0 (upd (u.1 0) n p1)) 1 (upd (u.1 1) n p2)) 2 (xSlots n p1 p3 p4 (u.1 2))) 15 (fun _ => (nI n + 1))) 0 ((u.2 0) ||| (xSet (nI n))))) := hD
            refine lv_aload hx hb dX2_make_110 (lv_at hl 1 rfl) ?_
            refine lv_iload hx hb dX2_make_112 (lv_at hl 7 rfl) ?_
            refine g_callV (As := [.int p4]) (rest := []) hx hb hml hown hts (ctX1_addFile_0 l D cI cZ q (gL (gS (gS (gS (gS u 0 (upd (u.1 0) n p1)) 1 (upd (u.1 1) n p2)) 2 (xSlots n p1 p3 p4 (u.1 2))) 15 (fun _ => (nI n + 1))) 0 ((u.2 0) ||| (xSet (nI n)))) p4) gX2_make_X1_addFile rfl rfl rfl hdX1_addFile ⟨Nat.le_of_ble_eq_true rfl, Nat.le_of_ble_eq_true rfl⟩ XG_em hE hP hK hD hS hA 2 rfl rfl rfl hl.1 rfl (Nat.le_of_ble_eq_true rfl) dX2_make_114 ⟨Nat.zero_le _, Nat.zero_le _⟩ (fun H locs hP hD hS => ?_)
            have hP : va_P D vwCl (XW cI cZ q (gL (gS (gS (gS (gS (gS u 0 (upd (u.1 0) n p1)) 1 (upd (u.1 1) n p2)) 2 (xSlots n p1 p3 p4 (u.1 2))) 5 (xAddF (u.1 5) p4)) 15 (fun _ => (nI n + 1))) 0 ((u.2 0) ||| (xSet (nI n))))) H := hP
            have hD : va_D A (XW cI cZ q (gL (gS (gS (gS (gS (gS u 0 (upd (u.1 0) n p1)) 1 (upd (u.1 1) n p2)) 2 (xSlots n p1 p3 p4 (u.1 2))) 5 (xAddF (u.1 5) p4)) 15 (fun _ => (nI n + 1))) 0 ((u.2 0) ||| (xSet (nI n))))) := hD
            refine W.eq (g2 := F0 m 117 ls []) rfl ?_
            refine lv_iload hx hb dX2_make_117 (lv_at hl 0 rfl) ?_
            refine g_iret (u1 := (gL (gS (gS (gS (gS (gS u 0 (upd (u.1 0) n p1)) 1 (upd (u.1 1) n p2)) 2 (xSlots n p1 p3 p4 (u.1 2))) 5 (xAddF (u.1 5) p4)) 15 (fun _ => (nI n + 1))) 0 ((u.2 0) ||| (xSet (nI n))))) hx hb hret hlk hQ hP hD hS dX2_make_119 ?_ ?_
            · exact rfl
            · exact rfl
          · exact absurd (if_pos h59) c_67
        · exact absurd c_47 (h5.resolve_left c_37).2
theorem inX2_setRef_RX2 : ∀ w ∈ u_ws RX2 TX2 9, w ∈ wsX2_setRef := fun w h => List.mem_cons_of_mem _ (List.mem_append_left _ (List.mem_append_left _ (List.mem_append_right _ h)))
theorem inX2_setRef_RX1 : ∀ w ∈ u_ws RX1 TX1 3, w ∈ wsX2_setRef := fun w h => List.mem_cons_of_mem _ (List.mem_append_left _ (List.mem_append_right _ h))
abbrev rmX2_setRef_0 : Room := { frames := 3, cells := 0, slots := 0, locals := 63 }
set_option maxHeartbeats 4000000 in
set_option maxRecDepth 100000 in
theorem ctX2_setRef_0 (l : Launch) (D : va_G) (cI cZ : ClassId) (q : Nat → Nat) (u : SX) (p0 p1 p2 : Int32) (hs : p0 = 0) (h1 : ¬ xRange p1 4 = 0) (h2 : p2 = -1 ∨ ¬ xCon (u.2 0) p2 = 0) : gM l yX2_setRef wsX2_setRef rmX2_setRef_0 D [(cI, .int), (cZ, .boolean)] (XW cI cZ q) XG [.ref (q 0), .int p0, .int p1, .int p2] u (some (.int (xRefOf (u.1 6) p1))) (gS u 6 (xPoint (u.1 6) p1 p2)) := by
  refine g_start (cc := cX2_setRef) (maxL := 6) (ret := (some .int)) (by decide) rfl (Nat.le_of_ble_eq_true rfl) ?_
  intro p e s m below meth c A ls Q hx hb hml hret hts hown hlk hE hP hK hD hA hl hQ hS
  have hown : s.vm.findClass RX2 = some m.cls := hown
  have hl : lv_has ls 6 [(0, .ref (q 0)), (1, .int p0), (2, .int p1), (3, .int p2)] := hl
  refine lv_aload_n hx hb dX2_setRef_0 rfl (lv_at hl 0 rfl) ?_
  refine lv_iload_n hx hb dX2_setRef_1 rfl (lv_at hl 1 rfl) ?_
  refine g_callV (As := [.int p0]) (rest := []) hx hb hml hown hts (ctX2_storeOf_0 l D cI cZ q u p0 hs) gX2_setRef_X2_storeOf rfl rfl rfl hdX2_storeOf ⟨Nat.le_of_ble_eq_true rfl, Nat.le_of_ble_eq_true rfl⟩ XG_em hE hP hK hD hS hA 0 rfl rfl rfl hl.1 rfl (Nat.le_of_ble_eq_true rfl) dX2_setRef_2 ⟨Nat.zero_le _, Nat.zero_le _⟩ (fun H locs hP hD hS => ?_)
  have hP : va_P D vwCl (XW cI cZ q u) H := hP
  have hD : va_D A (XW cI cZ q u) := hD
  refine W.eq (g2 := F0 m 5 ls [.ref (q 2)]) rfl ?_
  refine lv_astore (lv' := [(4, .ref (q 2)), (0, .ref (q 0)), (1, .int p0), (2, .int p1), (3, .int p2)]) hx hb dX2_setRef_5 hl (by decide) rfl (fun ls hl => ?_)
  refine lv_iload_n hx hb dX2_setRef_7 rfl (lv_at hl 3 rfl) ?_
  refine g_callS0 (As := [.int p1]) (rest := []) hx hb hml hown hts (ctX2_checkRef l D cI cZ q p1 h1) gX2_setRef_X2_checkRef rfl rfl rfl hdX2_checkRef ⟨Nat.le_of_ble_eq_true rfl, Nat.le_of_ble_eq_true rfl⟩ gEM_true trivial hP hK hS hA rfl hl.1 rfl (Nat.le_of_ble_eq_true rfl) dX2_setRef_8 ⟨Nat.zero_le _, Nat.zero_le _⟩ (fun H locs hP hS => ?_)
  refine W.eq (g2 := F0 m 11 ls []) rfl ?_
  refine lv_aload hx hb dX2_setRef_11 (lv_at hl 0 rfl) ?_
  refine lv_iload_n hx hb dX2_setRef_13 rfl (lv_at hl 4 rfl) ?_
  refine g_callS (As := [.ref (q 2), .int p2]) (rest := []) hx hb hml hown hts (ctX2_checkHeldOrNone_0 l D cI cZ q u p2 h2) gX2_setRef_X2_checkHeldOrNone rfl rfl rfl hdX2_checkHeldOrNone ⟨Nat.le_of_ble_eq_true rfl, Nat.le_of_ble_eq_true rfl⟩ XG_em hE hP hK hD hS hA rfl hl.1 rfl (Nat.le_of_ble_eq_true rfl) dX2_setRef_14 ⟨Nat.zero_le _, Nat.zero_le _⟩ (fun H locs hP hD hS => ?_)
  have hP : va_P D vwCl (XW cI cZ q u) H := hP
  have hD : va_D A (XW cI cZ q u) := hD
  refine W.eq (g2 := F0 m 17 ls []) rfl ?_
  refine lv_aload hx hb dX2_setRef_17 (lv_at hl 0 rfl) ?_
  refine lv_iload_n hx hb dX2_setRef_19 rfl (lv_at hl 3 rfl) ?_
  refine g_callV (As := [.int p1]) (rest := []) hx hb hml hown hts (ctX1_commitOfRef_0 l D cI cZ q u p1) gX2_setRef_X1_commitOfRef rfl rfl rfl hdX1_commitOfRef ⟨Nat.le_of_ble_eq_true rfl, Nat.le_of_ble_eq_true rfl⟩ XG_em hE hP hK hD hS hA 2 rfl rfl rfl hl.1 rfl (Nat.le_of_ble_eq_true rfl) dX2_setRef_20 ⟨Nat.zero_le _, Nat.zero_le _⟩ (fun H locs hP hD hS => ?_)
  have hP : va_P D vwCl (XW cI cZ q u) H := hP
  have hD : va_D A (XW cI cZ q u) := hD
  refine W.eq (g2 := F0 m 23 ls [.int (xRefOf (u.1 6) p1)]) rfl ?_
  refine lv_istore (lv' := [(5, .int (xRefOf (u.1 6) p1)), (4, .ref (q 2)), (0, .ref (q 0)), (1, .int p0), (2, .int p1), (3, .int p2)]) hx hb dX2_setRef_23 hl (by decide) rfl (fun ls hl => ?_)
  refine lv_aload hx hb dX2_setRef_25 (lv_at hl 1 rfl) ?_
  refine lv_iload_n hx hb dX2_setRef_27 rfl (lv_at hl 4 rfl) ?_
  refine lv_iload_n hx hb dX2_setRef_28 rfl (lv_at hl 5 rfl) ?_
  refine g_callV (As := [.int p1, .int p2]) (rest := []) hx hb hml hown hts (ctX1_pointRef_0 l D cI cZ q u p1 p2) gX2_setRef_X1_pointRef rfl rfl rfl hdX1_pointRef ⟨Nat.le_of_ble_eq_true rfl, Nat.le_of_ble_eq_true rfl⟩ XG_em hE hP hK hD hS hA 2 rfl rfl rfl hl.1 rfl (Nat.le_of_ble_eq_true rfl) dX2_setRef_29 ⟨Nat.zero_le _, Nat.zero_le _⟩ (fun H locs hP hD hS => ?_)
  have hP : va_P D vwCl (XW cI cZ q (gS u 6 (xPoint (u.1 6) p1 p2))) H := hP
  have hD : va_D A (XW cI cZ q (gS u 6 (xPoint (u.1 6) p1 p2))) := hD
  refine W.eq (g2 := F0 m 32 ls []) rfl ?_
  refine lv_iload hx hb dX2_setRef_32 (lv_at hl 0 rfl) ?_
  refine g_iret (u1 := (gS u 6 (xPoint (u.1 6) p1 p2))) hx hb hret hlk hQ hP hD hS dX2_setRef_34 ?_ ?_
  · exact rfl
  · exact rfl
theorem inX2_ref_RX2 : ∀ w ∈ u_ws RX2 TX2 9, w ∈ wsX2_ref := fun w h => List.mem_cons_of_mem _ (List.mem_append_left _ (List.mem_append_left _ (List.mem_append_right _ h)))
theorem inX2_ref_RX1 : ∀ w ∈ u_ws RX1 TX1 3, w ∈ wsX2_ref := fun w h => List.mem_cons_of_mem _ (List.mem_append_left _ (List.mem_append_right _ h))
abbrev rmX2_ref_0 : Room := { frames := 2, cells := 0, slots := 0, locals := 41 }
set_option maxHeartbeats 4000000 in
set_option maxRecDepth 100000 in
theorem ctX2_ref_0 (l : Launch) (D : va_G) (cI cZ : ClassId) (q : Nat → Nat) (u : SX) (p0 p1 : Int32) (hs : p0 = 0) (h1 : ¬ xRange p1 4 = 0) : gM l yX2_ref wsX2_ref rmX2_ref_0 D [(cI, .int), (cZ, .boolean)] (XW cI cZ q) XG [.ref (q 0), .int p0, .int p1] u (some (.int (xRefOf (u.1 6) p1))) u := by
  refine g_start (cc := cX2_ref) (maxL := 4) (ret := (some .int)) (by decide) rfl (Nat.le_of_ble_eq_true rfl) ?_
  intro p e s m below meth c A ls Q hx hb hml hret hts hown hlk hE hP hK hD hA hl hQ hS
  have hown : s.vm.findClass RX2 = some m.cls := hown
  have hl : lv_has ls 4 [(0, .ref (q 0)), (1, .int p0), (2, .int p1)] := hl
  refine lv_aload_n hx hb dX2_ref_0 rfl (lv_at hl 0 rfl) ?_
  refine lv_iload_n hx hb dX2_ref_1 rfl (lv_at hl 1 rfl) ?_
  refine g_callV (As := [.int p0]) (rest := []) hx hb hml hown hts (ctX2_storeOf_0 l D cI cZ q u p0 hs) gX2_ref_X2_storeOf rfl rfl rfl hdX2_storeOf ⟨Nat.le_of_ble_eq_true rfl, Nat.le_of_ble_eq_true rfl⟩ XG_em hE hP hK hD hS hA 0 rfl rfl rfl hl.1 rfl (Nat.le_of_ble_eq_true rfl) dX2_ref_2 ⟨Nat.zero_le _, Nat.zero_le _⟩ (fun H locs hP hD hS => ?_)
  have hP : va_P D vwCl (XW cI cZ q u) H := hP
  have hD : va_D A (XW cI cZ q u) := hD
  refine W.eq (g2 := F0 m 5 ls [.ref (q 2)]) rfl ?_
  refine lv_astore_n (lv' := [(3, .ref (q 2)), (0, .ref (q 0)), (1, .int p0), (2, .int p1)]) hx hb dX2_ref_5 rfl hl (by decide) rfl (fun ls hl => ?_)
  refine lv_iload_n hx hb dX2_ref_6 rfl (lv_at hl 3 rfl) ?_
  refine g_callS0 (As := [.int p1]) (rest := []) hx hb hml hown hts (ctX2_checkRef l D cI cZ q p1 h1) gX2_ref_X2_checkRef rfl rfl rfl hdX2_checkRef ⟨Nat.le_of_ble_eq_true rfl, Nat.le_of_ble_eq_true rfl⟩ gEM_true trivial hP hK hS hA rfl hl.1 rfl (Nat.le_of_ble_eq_true rfl) dX2_ref_7 ⟨Nat.zero_le _, Nat.zero_le _⟩ (fun H locs hP hS => ?_)
  refine W.eq (g2 := F0 m 10 ls []) rfl ?_
  refine lv_aload_n hx hb dX2_ref_10 rfl (lv_at hl 0 rfl) ?_
  refine lv_iload_n hx hb dX2_ref_11 rfl (lv_at hl 3 rfl) ?_
  refine g_callV (As := [.int p1]) (rest := []) hx hb hml hown hts (ctX1_commitOfRef_0 l D cI cZ q u p1) gX2_ref_X1_commitOfRef rfl rfl rfl hdX1_commitOfRef ⟨Nat.le_of_ble_eq_true rfl, Nat.le_of_ble_eq_true rfl⟩ XG_em hE hP hK hD hS hA 2 rfl rfl rfl hl.1 rfl (Nat.le_of_ble_eq_true rfl) dX2_ref_12 ⟨Nat.zero_le _, Nat.zero_le _⟩ (fun H locs hP hD hS => ?_)
  have hP : va_P D vwCl (XW cI cZ q u) H := hP
  have hD : va_D A (XW cI cZ q u) := hD
  refine W.eq (g2 := F0 m 15 ls [.int (xRefOf (u.1 6) p1)]) rfl ?_
  refine g_iret (u1 := u) hx hb hret hlk hQ hP hD hS dX2_ref_15 ?_ ?_
  · exact rfl
  · exact rfl
theorem lkX2_collect_10 : Cond.fieldLink RX2 10 "FetchHouse" "history" "LFetchHouse$History;" ∈ wsX2_collect := List.mem_of_getElem? (i := 1) (by decide +kernel)
theorem lkX2_collect_115 : Cond.constantLong RX2 115 (-1) ∈ wsX2_collect := List.mem_of_getElem? (i := 2) (by decide +kernel)
theorem inX2_collect_RX2 : ∀ w ∈ u_ws RX2 TX2 9, w ∈ wsX2_collect := fun w h => List.mem_cons_of_mem _ (List.mem_append_left _ (List.mem_append_left _ (List.mem_append_left _ (List.mem_append_right _ h))))
theorem inX2_collect_RX1 : ∀ w ∈ u_ws RX1 TX1 3, w ∈ wsX2_collect := fun w h => List.mem_cons_of_mem _ (List.mem_append_left _ (List.mem_append_left _ (List.mem_append_right _ h)))
theorem inX2_collect_RX0 : ∀ w ∈ u_ws RX0 TX0 6, w ∈ wsX2_collect := fun w h => List.mem_cons_of_mem _ (List.mem_append_left _ (List.mem_append_right _ h))
abbrev rmX2_collect_0 : Room := { frames := 4, cells := 0, slots := 0, locals := 96 }
set_option maxHeartbeats 4000000 in
set_option maxRecDepth 100000 in
theorem ctX2_collect_0 (l : Launch) (D : va_G) (cI cZ : ClassId) (q : Nat → Nat) (u : SX) (n : Nat) (hn : u.1 15 0 = nI n) (h60 : n ≤ 60) (p0 : Int32) (hs : p0 = 0) : gM l yX2_collect wsX2_collect rmX2_collect_0 D [(cI, .int), (cZ, .boolean)] (XW cI cZ q) XG [.ref (q 0), .int p0] u (some (.int (xBits ((u.2 0) &&& ((xAnc n (u.1 0) (u.1 1) (xRefs (u.1 6)) (u.2 0)) ^^^ (-1)))))) (gL (gS (gS u 4 (xFiles n (u.1 2) (xAnc n (u.1 0) (u.1 1) (xRefs (u.1 6)) (u.2 0)) (u.1 4))) 5 (xKeep (xFiles n (u.1 2) (xAnc n (u.1 0) (u.1 1) (xRefs (u.1 6)) (u.2 0)) (u.1 4)) (u.1 5))) 0 (xAnc n (u.1 0) (u.1 1) (xRefs (u.1 6)) (u.2 0))) := by
  refine g_start (cc := cX2_collect) (maxL := 6) (ret := (some .int)) (by decide) rfl (Nat.le_of_ble_eq_true rfl) ?_
  intro p e s m below meth c A ls Q hx hb hml hret hts hown hlk hE hP hK hD hA hl hQ hS
  have hown : s.vm.findClass RX2 = some m.cls := hown
  have hl : lv_has ls 6 [(0, .ref (q 0)), (1, .int p0)] := hl
  refine lv_aload_n hx hb dX2_collect_0 rfl (lv_at hl 0 rfl) ?_
  refine lv_iload_n hx hb dX2_collect_1 rfl (lv_at hl 1 rfl) ?_
  refine g_callV (As := [.int p0]) (rest := []) hx hb hml hown hts (ctX2_storeOf_0 l D cI cZ q u p0 hs) gX2_collect_X2_storeOf rfl rfl rfl hdX2_storeOf ⟨Nat.le_of_ble_eq_true rfl, Nat.le_of_ble_eq_true rfl⟩ XG_em hE hP hK hD hS hA 0 rfl rfl rfl hl.1 rfl (Nat.le_of_ble_eq_true rfl) dX2_collect_2 ⟨Nat.zero_le _, Nat.zero_le _⟩ (fun H locs hP hD hS => ?_)
  have hP : va_P D vwCl (XW cI cZ q u) H := hP
  have hD : va_D A (XW cI cZ q u) := hD
  refine W.eq (g2 := F0 m 5 ls [.ref (q 2)]) rfl ?_
  refine lv_astore_n (lv' := [(2, .ref (q 2)), (0, .ref (q 0)), (1, .int p0)]) hx hb dX2_collect_5 rfl hl (by decide) rfl (fun ls hl => ?_)
  refine lv_aload_n hx hb dX2_collect_6 rfl (lv_at hl 1 rfl) ?_
  refine va_get (ci := 2) (v := .ref (q 1)) (C := RX2) (T := TX2) (N := 9) hx hb hts inX2_collect_RX2 hown hK hP 0 rfl rfl 0 (by decide) (hts _ lkX2_collect_10) (fun _ h9 => h9) rfl dX2_collect_7 ?_
  refine lv_aload_n hx hb dX2_collect_10 rfl (lv_at hl 0 rfl) ?_
  refine g_callV (As := []) (rest := [.ref (q 1)]) hx hb hml hown hts (ctX1_commitsOfRefs_0 l D cI cZ q u) gX2_collect_X1_commitsOfRefs rfl rfl rfl hdX1_commitsOfRefs ⟨Nat.le_of_ble_eq_true rfl, Nat.le_of_ble_eq_true rfl⟩ XG_em hE hP hK hD hS hA 2 rfl rfl rfl hl.1 rfl (Nat.le_of_ble_eq_true rfl) dX2_collect_11 ⟨Nat.zero_le _, Nat.zero_le _⟩ (fun H locs hP hD hS => ?_)
  have hP : va_P D vwCl (XW cI cZ q u) H := hP
  have hD : va_D A (XW cI cZ q u) := hD
  refine W.eq (g2 := F0 m 14 ls [.long (xRefs (u.1 6)), .ref (q 1)]) rfl ?_
  refine lv_aload_n hx hb dX2_collect_14 rfl (lv_at hl 0 rfl) ?_
  refine va_getN (host := "FetchHouse") (ci := 1) (v := .long (u.2 0)) (C := RX1) (T := TX1) (N := 3) hx hb hts inX2_collect_RX1 hown hK hP 2 rfl rfl 0 (by decide) (va_Nw.use rfl (hE.1 _ (List.mem_of_getElem? (i := 0) rfl))) (fun _ h9 => h9) rfl dX2_collect_15 ?_
  refine g_callV (As := [.long (xRefs (u.1 6)), .long (u.2 0)]) (rest := []) hx hb hml hown hts (ctX0_ancestorsOf l D cI cZ q u n hn h60 (xRefs (u.1 6)) (u.2 0)) gX2_collect_X0_ancestorsOf rfl rfl rfl hdX0_ancestorsOf ⟨Nat.le_of_ble_eq_true rfl, Nat.le_of_ble_eq_true rfl⟩ XG_em hE hP hK hD hS hA 1 rfl rfl rfl hl.1 rfl (Nat.le_of_ble_eq_true rfl) dX2_collect_18 ⟨Nat.zero_le _, Nat.zero_le _⟩ (fun H locs hP hD hS => ?_)
  have hP : va_P D vwCl (XW cI cZ q u) H := hP
  have hD : va_D A (XW cI cZ q u) := hD
  refine W.eq (g2 := F0 m 21 ls [.long (xAnc n (u.1 0) (u.1 1) (xRefs (u.1 6)) (u.2 0))]) rfl ?_
  refine lv_lstore_n (lv' := [(3, .long (xAnc n (u.1 0) (u.1 1) (xRefs (u.1 6)) (u.2 0))), (2, .ref (q 2)), (0, .ref (q 0)), (1, .int p0)]) hx hb dX2_collect_21 rfl hl (by decide) rfl (fun ls hl => ?_)
  refine lv_aload_n hx hb dX2_collect_22 rfl (lv_at hl 1 rfl) ?_
  refine va_getN (host := "FetchHouse") (ci := 1) (v := .long (u.2 0)) (C := RX1) (T := TX1) (N := 3) hx hb hts inX2_collect_RX1 hown hK hP 2 rfl rfl 0 (by decide) (va_Nw.use rfl (hE.1 _ (List.mem_of_getElem? (i := 0) rfl))) (fun _ h9 => h9) rfl dX2_collect_23 ?_
  refine lv_lload_n hx hb dX2_collect_26 rfl (lv_at hl 0 rfl) ?_
  refine lv_ldc2 (v := (-1)) hx hb hown (hts _ lkX2_collect_115) dX2_collect_27 ?_
  refine lv_lxor hx hb dX2_collect_30 ?_
  refine lv_land hx hb dX2_collect_31 ?_
  refine g_callS0 (As := [.long ((u.2 0) &&& ((xAnc n (u.1 0) (u.1 1) (xRefs (u.1 6)) (u.2 0)) ^^^ (-1)))]) (rest := []) hx hb hml hown hts (ctJ13_bitCount_95d88 l D cI cZ q ((u.2 0) &&& ((xAnc n (u.1 0) (u.1 1) (xRefs (u.1 6)) (u.2 0)) ^^^ (-1)))) gX2_collect_J13_bitCount_95d88 rfl rfl rfl hdJ13_bitCount_95d88 ⟨Nat.le_of_ble_eq_true rfl, Nat.le_of_ble_eq_true rfl⟩ gEM_true trivial hP hK hS hA rfl hl.1 rfl (Nat.le_of_ble_eq_true rfl) dX2_collect_32 ⟨Nat.zero_le _, Nat.zero_le _⟩ (fun H locs hP hS => ?_)
  refine W.eq (g2 := F0 m 35 ls [.int (xBits ((u.2 0) &&& ((xAnc n (u.1 0) (u.1 1) (xRefs (u.1 6)) (u.2 0)) ^^^ (-1))))]) rfl ?_
  refine lv_istore (lv' := [(5, .int (xBits ((u.2 0) &&& ((xAnc n (u.1 0) (u.1 1) (xRefs (u.1 6)) (u.2 0)) ^^^ (-1))))), (3, .long (xAnc n (u.1 0) (u.1 1) (xRefs (u.1 6)) (u.2 0))), (2, .ref (q 2)), (0, .ref (q 0)), (1, .int p0)]) hx hb dX2_collect_35 hl (by decide) rfl (fun ls hl => ?_)
  refine lv_aload_n hx hb dX2_collect_37 rfl (lv_at hl 2 rfl) ?_
  refine lv_lload_n hx hb dX2_collect_38 rfl (lv_at hl 1 rfl) ?_
  refine va_putN (host := "FetchHouse") (ci := 1) (v := .long (xAnc n (u.1 0) (u.1 1) (xRefs (u.1 6)) (u.2 0))) (ty := .long) (C := RX1) (T := TX1) (N := 3) hx hb hts inX2_collect_RX1 tyX1 tyX1_ok nmX1 hown hK hP hD hS 2 rfl rfl 0 (by decide) (va_Nw.use rfl (hE.1 _ (List.mem_of_getElem? (i := 0) rfl))) (fun _ h9 => h9) rfl (by decide +kernel) rfl rfl (Nat.le_of_ble_eq_true rfl) dX2_collect_39 (fun H locs hP hD hS => ?_)
  have hP : va_P D vwCl (XW cI cZ q (gL u 0 (xAnc n (u.1 0) (u.1 1) (xRefs (u.1 6)) (u.2 0)))) H := hP
  have hD : va_D A (XW cI cZ q (gL u 0 (xAnc n (u.1 0) (u.1 1) (xRefs (u.1 6)) (u.2 0)))) := hD
  refine lv_aload_n hx hb dX2_collect_42 rfl (lv_at hl 2 rfl) ?_
  refine lv_aload_n hx hb dX2_collect_43 rfl (lv_at hl 3 rfl) ?_
  refine va_get (ci := 2) (v := .ref (q 1)) (C := RX2) (T := TX2) (N := 9) hx hb hts inX2_collect_RX2 hown hK hP 0 rfl rfl 0 (by decide) (hts _ lkX2_collect_10) (fun _ h9 => h9) rfl dX2_collect_44 ?_
  refine lv_lload_n hx hb dX2_collect_47 rfl (lv_at hl 1 rfl) ?_
  refine g_callV (As := [.long (xAnc n (u.1 0) (u.1 1) (xRefs (u.1 6)) (u.2 0))]) (rest := [.ref (q 2)]) hx hb hml hown hts (ctX0_filesOf l D cI cZ q (gL u 0 (xAnc n (u.1 0) (u.1 1) (xRefs (u.1 6)) (u.2 0))) n hn h60 (xAnc n (u.1 0) (u.1 1) (xRefs (u.1 6)) (u.2 0))) gX2_collect_X0_filesOf rfl rfl rfl hdX0_filesOf ⟨Nat.le_of_ble_eq_true rfl, Nat.le_of_ble_eq_true rfl⟩ XG_em hE hP hK hD hS hA 1 rfl rfl rfl hl.1 rfl (Nat.le_of_ble_eq_true rfl) dX2_collect_48 ⟨Nat.zero_le _, Nat.zero_le _⟩ (fun H locs hP hD hS => ?_)
  have hP : va_P D vwCl (XW cI cZ q (gL (gS u 4 (xFiles n (u.1 2) (xAnc n (u.1 0) (u.1 1) (xRefs (u.1 6)) (u.2 0)) (u.1 4))) 0 (xAnc n (u.1 0) (u.1 1) (xRefs (u.1 6)) (u.2 0)))) H := hP
  have hD : va_D A (XW cI cZ q (gL (gS u 4 (xFiles n (u.1 2) (xAnc n (u.1 0) (u.1 1) (xRefs (u.1 6)) (u.2 0)) (u.1 4))) 0 (xAnc n (u.1 0) (u.1 1) (xRefs (u.1 6)) (u.2 0)))) := hD
  refine W.eq (g2 := F0 m 51 ls [.ref (q 8), .ref (q 2)]) rfl ?_
  refine g_callV (As := [.ref (q 8)]) (rest := []) hx hb hml hown hts (ctX1_keepOnlyFiles_0 l D cI cZ q (gL (gS u 4 (xFiles n (u.1 2) (xAnc n (u.1 0) (u.1 1) (xRefs (u.1 6)) (u.2 0)) (u.1 4))) 0 (xAnc n (u.1 0) (u.1 1) (xRefs (u.1 6)) (u.2 0)))) gX2_collect_X1_keepOnlyFiles rfl rfl rfl hdX1_keepOnlyFiles ⟨Nat.le_of_ble_eq_true rfl, Nat.le_of_ble_eq_true rfl⟩ XG_em hE hP hK hD hS hA 2 rfl rfl rfl hl.1 rfl (Nat.le_of_ble_eq_true rfl) dX2_collect_51 ⟨Nat.zero_le _, Nat.zero_le _⟩ (fun H locs hP hD hS => ?_)
  have hP : va_P D vwCl (XW cI cZ q (gL (gS (gS u 4 (xFiles n (u.1 2) (xAnc n (u.1 0) (u.1 1) (xRefs (u.1 6)) (u.2 0)) (u.1 4))) 5 (xKeep (xFiles n (u.1 2) (xAnc n (u.1 0) (u.1 1) (xRefs (u.1 6)) (u.2 0)) (u.1 4)) (u.1 5))) 0 (xAnc n (u.1 0) (u.1 1) (xRefs (u.1 6)) (u.2 0)))) H := hP
  have hD : va_D A (XW cI cZ q (gL (gS (gS u 4 (xFiles n (u.1 2) (xAnc n (u.1 0) (u.1 1) (xRefs (u.1 6)) (u.2 0)) (u.1 4))) 5 (xKeep (xFiles n (u.1 2) (xAnc n (u.1 0) (u.1 1) (xRefs (u.1 6)) (u.2 0)) (u.1 4)) (u.1 5))) 0 (xAnc n (u.1 0) (u.1 1) (xRefs (u.1 6)) (u.2 0)))) := hD
  refine W.eq (g2 := F0 m 54 ls []) rfl ?_
  refine lv_iload hx hb dX2_collect_54 (lv_at hl 0 rfl) ?_
  refine g_iret (u1 := (gL (gS (gS u 4 (xFiles n (u.1 2) (xAnc n (u.1 0) (u.1 1) (xRefs (u.1 6)) (u.2 0)) (u.1 4))) 5 (xKeep (xFiles n (u.1 2) (xAnc n (u.1 0) (u.1 1) (xRefs (u.1 6)) (u.2 0)) (u.1 4)) (u.1 5))) 0 (xAnc n (u.1 0) (u.1 1) (xRefs (u.1 6)) (u.2 0)))) hx hb hret hlk hQ hP hD hS dX2_collect_56 ?_ ?_
  · exact rfl
  · exact rfl
theorem inX2_has_RX1 : ∀ w ∈ u_ws RX1 TX1 3, w ∈ wsX2_has := fun w h => List.mem_cons_of_mem _ (List.mem_append_left _ (List.mem_append_left _ (List.mem_append_left _ (List.mem_append_right _ h))))
theorem inX2_has_RX2 : ∀ w ∈ u_ws RX2 TX2 9, w ∈ wsX2_has := fun w h => List.mem_cons_of_mem _ (List.mem_append_left _ (List.mem_append_left _ (List.mem_append_right _ h)))
theorem inX2_has_RX0 : ∀ w ∈ u_ws RX0 TX0 6, w ∈ wsX2_has := fun w h => List.mem_cons_of_mem _ (List.mem_append_left _ (List.mem_append_right _ h))
abbrev rmX2_has_0 : Room := { frames := 2, cells := 0, slots := 0, locals := 42 }
set_option maxHeartbeats 4000000 in
set_option maxRecDepth 100000 in
theorem ctX2_has_0 (l : Launch) (D : va_G) (cI cZ : ClassId) (q : Nat → Nat) (u : SX) (n : Nat) (hn : u.1 15 0 = nI n) (h60 : n ≤ 60) (p0 p1 : Int32) (hs : p0 = 0) (h1 : ¬ xRange p1 (nI n) = 0) : gM l yX2_has wsX2_has rmX2_has_0 D [(cI, .int), (cZ, .boolean)] (XW cI cZ q) XG [.ref (q 0), .int p0, .int p1] u (some (.int (xCon (u.2 0) p1))) u := by
  refine g_start (cc := cX2_has) (maxL := 4) (ret := (some .boolean)) (by decide) rfl (Nat.le_of_ble_eq_true rfl) ?_
  intro p e s m below meth c A ls Q hx hb hml hret hts hown hlk hE hP hK hD hA hl hQ hS
  have hown : s.vm.findClass RX2 = some m.cls := hown
  have hl : lv_has ls 4 [(0, .ref (q 0)), (1, .int p0), (2, .int p1)] := hl
  refine lv_aload_n hx hb dX2_has_0 rfl (lv_at hl 0 rfl) ?_
  refine lv_iload_n hx hb dX2_has_1 rfl (lv_at hl 1 rfl) ?_
  refine g_callV (As := [.int p0]) (rest := []) hx hb hml hown hts (ctX2_storeOf_0 l D cI cZ q u p0 hs) gX2_has_X2_storeOf rfl rfl rfl hdX2_storeOf ⟨Nat.le_of_ble_eq_true rfl, Nat.le_of_ble_eq_true rfl⟩ XG_em hE hP hK hD hS hA 0 rfl rfl rfl hl.1 rfl (Nat.le_of_ble_eq_true rfl) dX2_has_2 ⟨Nat.zero_le _, Nat.zero_le _⟩ (fun H locs hP hD hS => ?_)
  have hP : va_P D vwCl (XW cI cZ q u) H := hP
  have hD : va_D A (XW cI cZ q u) := hD
  refine W.eq (g2 := F0 m 5 ls [.ref (q 2)]) rfl ?_
  refine lv_astore_n (lv' := [(3, .ref (q 2)), (0, .ref (q 0)), (1, .int p0), (2, .int p1)]) hx hb dX2_has_5 rfl hl (by decide) rfl (fun ls hl => ?_)
  refine lv_aload_n hx hb dX2_has_6 rfl (lv_at hl 1 rfl) ?_
  refine lv_iload_n hx hb dX2_has_7 rfl (lv_at hl 3 rfl) ?_
  refine g_callV (As := [.int p1]) (rest := []) hx hb hml hown hts (ctX2_checkCommit l D cI cZ q u n hn h60 p1 h1) gX2_has_X2_checkCommit rfl rfl rfl hdX2_checkCommit ⟨Nat.le_of_ble_eq_true rfl, Nat.le_of_ble_eq_true rfl⟩ XG_em hE hP hK hD hS hA 0 rfl rfl rfl hl.1 rfl (Nat.le_of_ble_eq_true rfl) dX2_has_8 ⟨Nat.zero_le _, Nat.zero_le _⟩ (fun H locs hP hD hS => ?_)
  have hP : va_P D vwCl (XW cI cZ q u) H := hP
  have hD : va_D A (XW cI cZ q u) := hD
  refine W.eq (g2 := F0 m 11 ls []) rfl ?_
  refine lv_aload_n hx hb dX2_has_11 rfl (lv_at hl 0 rfl) ?_
  refine va_getN (host := "FetchHouse") (ci := 1) (v := .long (u.2 0)) (C := RX1) (T := TX1) (N := 3) hx hb hts inX2_has_RX1 hown hK hP 2 rfl rfl 0 (by decide) (va_Nw.use rfl (hE.1 _ (List.mem_of_getElem? (i := 0) rfl))) (fun _ h9 => h9) rfl dX2_has_12 ?_
  refine lv_iload_n hx hb dX2_has_15 rfl (lv_at hl 3 rfl) ?_
  refine g_callS0 (As := [.long (u.2 0), .int p1]) (rest := []) hx hb hml hown hts (ctX2_contains l D cI cZ q (u.2 0) p1) gX2_has_X2_contains rfl rfl rfl hdX2_contains ⟨Nat.le_of_ble_eq_true rfl, Nat.le_of_ble_eq_true rfl⟩ gEM_true trivial hP hK hS hA rfl hl.1 rfl (Nat.le_of_ble_eq_true rfl) dX2_has_16 ⟨Nat.zero_le _, Nat.zero_le _⟩ (fun H locs hP hS => ?_)
  refine W.eq (g2 := F0 m 19 ls [.int (xCon (u.2 0) p1)]) rfl ?_
  refine g_zret (u1 := u) hx hb hret hlk hQ hP hD hS dX2_has_19 ?_ ?_ ?_
  · exact g_nar01 _ (xCon_01 _ _)
  · exact rfl
  · exact rfl
theorem inX2_hasFile_RX2 : ∀ w ∈ u_ws RX2 TX2 9, w ∈ wsX2_hasFile := fun w h => List.mem_cons_of_mem _ (List.mem_append_left _ (List.mem_append_left _ (List.mem_append_left _ (List.mem_append_right _ h))))
theorem inX2_hasFile_RX1 : ∀ w ∈ u_ws RX1 TX1 3, w ∈ wsX2_hasFile := fun w h => List.mem_cons_of_mem _ (List.mem_append_left _ (List.mem_append_left _ (List.mem_append_right _ h)))
abbrev rmX2_hasFile_0 : Room := { frames := 2, cells := 0, slots := 0, locals := 41 }
set_option maxHeartbeats 4000000 in
set_option maxRecDepth 100000 in
theorem ctX2_hasFile_0 (l : Launch) (D : va_G) (cI cZ : ClassId) (q : Nat → Nat) (u : SX) (p0 p1 : Int32) (hs : p0 = 0) (h1 : ¬ xRange p1 100 = 0) : gM l yX2_hasFile wsX2_hasFile rmX2_hasFile_0 D [(cI, .int), (cZ, .boolean)] (XW cI cZ q) XG [.ref (q 0), .int p0, .int p1] u (some (.int (xHas (u.1 5) p1))) u := by
  refine g_start (cc := cX2_hasFile) (maxL := 4) (ret := (some .boolean)) (by decide) rfl (Nat.le_of_ble_eq_true rfl) ?_
  intro p e s m below meth c A ls Q hx hb hml hret hts hown hlk hE hP hK hD hA hl hQ hS
  have hown : s.vm.findClass RX2 = some m.cls := hown
  have hl : lv_has ls 4 [(0, .ref (q 0)), (1, .int p0), (2, .int p1)] := hl
  refine lv_aload_n hx hb dX2_hasFile_0 rfl (lv_at hl 0 rfl) ?_
  refine lv_iload_n hx hb dX2_hasFile_1 rfl (lv_at hl 1 rfl) ?_
  refine g_callV (As := [.int p0]) (rest := []) hx hb hml hown hts (ctX2_storeOf_0 l D cI cZ q u p0 hs) gX2_hasFile_X2_storeOf rfl rfl rfl hdX2_storeOf ⟨Nat.le_of_ble_eq_true rfl, Nat.le_of_ble_eq_true rfl⟩ XG_em hE hP hK hD hS hA 0 rfl rfl rfl hl.1 rfl (Nat.le_of_ble_eq_true rfl) dX2_hasFile_2 ⟨Nat.zero_le _, Nat.zero_le _⟩ (fun H locs hP hD hS => ?_)
  have hP : va_P D vwCl (XW cI cZ q u) H := hP
  have hD : va_D A (XW cI cZ q u) := hD
  refine W.eq (g2 := F0 m 5 ls [.ref (q 2)]) rfl ?_
  refine lv_astore_n (lv' := [(3, .ref (q 2)), (0, .ref (q 0)), (1, .int p0), (2, .int p1)]) hx hb dX2_hasFile_5 rfl hl (by decide) rfl (fun ls hl => ?_)
  refine lv_iload_n hx hb dX2_hasFile_6 rfl (lv_at hl 3 rfl) ?_
  refine g_callS0 (As := [.int p1]) (rest := []) hx hb hml hown hts (ctX2_checkFile l D cI cZ q p1 h1) gX2_hasFile_X2_checkFile rfl rfl rfl hdX2_checkFile ⟨Nat.le_of_ble_eq_true rfl, Nat.le_of_ble_eq_true rfl⟩ gEM_true trivial hP hK hS hA rfl hl.1 rfl (Nat.le_of_ble_eq_true rfl) dX2_hasFile_7 ⟨Nat.zero_le _, Nat.zero_le _⟩ (fun H locs hP hS => ?_)
  refine W.eq (g2 := F0 m 10 ls []) rfl ?_
  refine lv_aload_n hx hb dX2_hasFile_10 rfl (lv_at hl 0 rfl) ?_
  refine lv_iload_n hx hb dX2_hasFile_11 rfl (lv_at hl 3 rfl) ?_
  refine g_callV (As := [.int p1]) (rest := []) hx hb hml hown hts (ctX1_holdsFile_0 l D cI cZ q u p1) gX2_hasFile_X1_holdsFile rfl rfl rfl hdX1_holdsFile ⟨Nat.le_of_ble_eq_true rfl, Nat.le_of_ble_eq_true rfl⟩ XG_em hE hP hK hD hS hA 2 rfl rfl rfl hl.1 rfl (Nat.le_of_ble_eq_true rfl) dX2_hasFile_12 ⟨Nat.zero_le _, Nat.zero_le _⟩ (fun H locs hP hD hS => ?_)
  have hP : va_P D vwCl (XW cI cZ q u) H := hP
  have hD : va_D A (XW cI cZ q u) := hD
  refine W.eq (g2 := F0 m 15 ls [.int (xHas (u.1 5) p1)]) rfl ?_
  refine g_zret (u1 := u) hx hb hret hlk hQ hP hD hS dX2_hasFile_15 ?_ ?_ ?_
  · exact g_nar01 _ (xHas_01 _ _)
  · exact rfl
  · exact rfl
theorem lkX2_isAncestor_10 : Cond.fieldLink RX2 10 "FetchHouse" "history" "LFetchHouse$History;" ∈ wsX2_isAncestor := List.mem_of_getElem? (i := 1) (by decide +kernel)
theorem inX2_isAncestor_RX2 : ∀ w ∈ u_ws RX2 TX2 9, w ∈ wsX2_isAncestor := fun w h => List.mem_cons_of_mem _ (List.mem_append_left _ (List.mem_append_left _ (List.mem_append_left _ (List.mem_append_right _ h))))
theorem inX2_isAncestor_RX1 : ∀ w ∈ u_ws RX1 TX1 3, w ∈ wsX2_isAncestor := fun w h => List.mem_cons_of_mem _ (List.mem_append_left _ (List.mem_append_left _ (List.mem_append_right _ h)))
theorem inX2_isAncestor_RX0 : ∀ w ∈ u_ws RX0 TX0 6, w ∈ wsX2_isAncestor := fun w h => List.mem_cons_of_mem _ (List.mem_append_left _ (List.mem_append_right _ h))
abbrev rmX2_isAncestor_0 : Room := { frames := 4, cells := 0, slots := 0, locals := 96 }
set_option maxHeartbeats 4000000 in
set_option maxRecDepth 100000 in
theorem ctX2_isAncestor_0 (l : Launch) (D : va_G) (cI cZ : ClassId) (q : Nat → Nat) (u : SX) (n : Nat) (hn : u.1 15 0 = nI n) (h60 : n ≤ 60) (p0 p1 p2 : Int32) (hs : p0 = 0) (h1 : ¬ xRange p1 (nI n) = 0) (h2 : ¬ xRange p2 (nI n) = 0) : gM l yX2_isAncestor wsX2_isAncestor rmX2_isAncestor_0 D [(cI, .int), (cZ, .boolean)] (XW cI cZ q) XG [.ref (q 0), .int p0, .int p1, .int p2] u (some (.int (xCon (xAnc n (u.1 0) (u.1 1) (xSet p2) (u.2 0)) p1))) u := by
  refine g_start (cc := cX2_isAncestor) (maxL := 5) (ret := (some .boolean)) (by decide) rfl (Nat.le_of_ble_eq_true rfl) ?_
  intro p e s m below meth c A ls Q hx hb hml hret hts hown hlk hE hP hK hD hA hl hQ hS
  have hown : s.vm.findClass RX2 = some m.cls := hown
  have hl : lv_has ls 5 [(0, .ref (q 0)), (1, .int p0), (2, .int p1), (3, .int p2)] := hl
  refine lv_aload_n hx hb dX2_isAncestor_0 rfl (lv_at hl 0 rfl) ?_
  refine lv_iload_n hx hb dX2_isAncestor_1 rfl (lv_at hl 1 rfl) ?_
  refine g_callV (As := [.int p0]) (rest := []) hx hb hml hown hts (ctX2_storeOf_0 l D cI cZ q u p0 hs) gX2_isAncestor_X2_storeOf rfl rfl rfl hdX2_storeOf ⟨Nat.le_of_ble_eq_true rfl, Nat.le_of_ble_eq_true rfl⟩ XG_em hE hP hK hD hS hA 0 rfl rfl rfl hl.1 rfl (Nat.le_of_ble_eq_true rfl) dX2_isAncestor_2 ⟨Nat.zero_le _, Nat.zero_le _⟩ (fun H locs hP hD hS => ?_)
  have hP : va_P D vwCl (XW cI cZ q u) H := hP
  have hD : va_D A (XW cI cZ q u) := hD
  refine W.eq (g2 := F0 m 5 ls [.ref (q 2)]) rfl ?_
  refine lv_astore (lv' := [(4, .ref (q 2)), (0, .ref (q 0)), (1, .int p0), (2, .int p1), (3, .int p2)]) hx hb dX2_isAncestor_5 hl (by decide) rfl (fun ls hl => ?_)
  refine lv_aload_n hx hb dX2_isAncestor_7 rfl (lv_at hl 1 rfl) ?_
  refine lv_iload_n hx hb dX2_isAncestor_8 rfl (lv_at hl 3 rfl) ?_
  refine g_callV (As := [.int p1]) (rest := []) hx hb hml hown hts (ctX2_checkCommit l D cI cZ q u n hn h60 p1 h1) gX2_isAncestor_X2_checkCommit rfl rfl rfl hdX2_checkCommit ⟨Nat.le_of_ble_eq_true rfl, Nat.le_of_ble_eq_true rfl⟩ XG_em hE hP hK hD hS hA 0 rfl rfl rfl hl.1 rfl (Nat.le_of_ble_eq_true rfl) dX2_isAncestor_9 ⟨Nat.zero_le _, Nat.zero_le _⟩ (fun H locs hP hD hS => ?_)
  have hP : va_P D vwCl (XW cI cZ q u) H := hP
  have hD : va_D A (XW cI cZ q u) := hD
  refine W.eq (g2 := F0 m 12 ls []) rfl ?_
  refine lv_aload_n hx hb dX2_isAncestor_12 rfl (lv_at hl 1 rfl) ?_
  refine lv_iload_n hx hb dX2_isAncestor_13 rfl (lv_at hl 4 rfl) ?_
  refine g_callV (As := [.int p2]) (rest := []) hx hb hml hown hts (ctX2_checkCommit l D cI cZ q u n hn h60 p2 h2) gX2_isAncestor_X2_checkCommit rfl rfl rfl hdX2_checkCommit ⟨Nat.le_of_ble_eq_true rfl, Nat.le_of_ble_eq_true rfl⟩ XG_em hE hP hK hD hS hA 0 rfl rfl rfl hl.1 rfl (Nat.le_of_ble_eq_true rfl) dX2_isAncestor_14 ⟨Nat.zero_le _, Nat.zero_le _⟩ (fun H locs hP hD hS => ?_)
  have hP : va_P D vwCl (XW cI cZ q u) H := hP
  have hD : va_D A (XW cI cZ q u) := hD
  refine W.eq (g2 := F0 m 17 ls []) rfl ?_
  refine lv_aload_n hx hb dX2_isAncestor_17 rfl (lv_at hl 1 rfl) ?_
  refine va_get (ci := 2) (v := .ref (q 1)) (C := RX2) (T := TX2) (N := 9) hx hb hts inX2_isAncestor_RX2 hown hK hP 0 rfl rfl 0 (by decide) (hts _ lkX2_isAncestor_10) (fun _ h9 => h9) rfl dX2_isAncestor_18 ?_
  refine lv_iload_n hx hb dX2_isAncestor_21 rfl (lv_at hl 4 rfl) ?_
  refine g_callS0 (As := [.int p2]) (rest := [.ref (q 1)]) hx hb hml hown hts (ctX2_setOf l D cI cZ q p2) gX2_isAncestor_X2_setOf rfl rfl rfl hdX2_setOf ⟨Nat.le_of_ble_eq_true rfl, Nat.le_of_ble_eq_true rfl⟩ gEM_true trivial hP hK hS hA rfl hl.1 rfl (Nat.le_of_ble_eq_true rfl) dX2_isAncestor_22 ⟨Nat.zero_le _, Nat.zero_le _⟩ (fun H locs hP hS => ?_)
  refine W.eq (g2 := F0 m 25 ls [.long (xSet p2), .ref (q 1)]) rfl ?_
  refine lv_aload hx hb dX2_isAncestor_25 (lv_at hl 0 rfl) ?_
  refine va_getN (host := "FetchHouse") (ci := 1) (v := .long (u.2 0)) (C := RX1) (T := TX1) (N := 3) hx hb hts inX2_isAncestor_RX1 hown hK hP 2 rfl rfl 0 (by decide) (va_Nw.use rfl (hE.1 _ (List.mem_of_getElem? (i := 0) rfl))) (fun _ h9 => h9) rfl dX2_isAncestor_27 ?_
  refine g_callV (As := [.long (xSet p2), .long (u.2 0)]) (rest := []) hx hb hml hown hts (ctX0_ancestorsOf l D cI cZ q u n hn h60 (xSet p2) (u.2 0)) gX2_isAncestor_X0_ancestorsOf rfl rfl rfl hdX0_ancestorsOf ⟨Nat.le_of_ble_eq_true rfl, Nat.le_of_ble_eq_true rfl⟩ XG_em hE hP hK hD hS hA 1 rfl rfl rfl hl.1 rfl (Nat.le_of_ble_eq_true rfl) dX2_isAncestor_30 ⟨Nat.zero_le _, Nat.zero_le _⟩ (fun H locs hP hD hS => ?_)
  have hP : va_P D vwCl (XW cI cZ q u) H := hP
  have hD : va_D A (XW cI cZ q u) := hD
  refine W.eq (g2 := F0 m 33 ls [.long (xAnc n (u.1 0) (u.1 1) (xSet p2) (u.2 0))]) rfl ?_
  refine lv_iload_n hx hb dX2_isAncestor_33 rfl (lv_at hl 3 rfl) ?_
  refine g_callS0 (As := [.long (xAnc n (u.1 0) (u.1 1) (xSet p2) (u.2 0)), .int p1]) (rest := []) hx hb hml hown hts (ctX2_contains l D cI cZ q (xAnc n (u.1 0) (u.1 1) (xSet p2) (u.2 0)) p1) gX2_isAncestor_X2_contains rfl rfl rfl hdX2_contains ⟨Nat.le_of_ble_eq_true rfl, Nat.le_of_ble_eq_true rfl⟩ gEM_true trivial hP hK hS hA rfl hl.1 rfl (Nat.le_of_ble_eq_true rfl) dX2_isAncestor_34 ⟨Nat.zero_le _, Nat.zero_le _⟩ (fun H locs hP hS => ?_)
  refine W.eq (g2 := F0 m 37 ls [.int (xCon (xAnc n (u.1 0) (u.1 1) (xSet p2) (u.2 0)) p1)]) rfl ?_
  refine g_zret (u1 := u) hx hb hret hlk hQ hP hD hS dX2_isAncestor_37 ?_ ?_ ?_
  · exact g_nar01 _ (xCon_01 _ _)
  · exact rfl
  · exact rfl
abbrev rmX2_make_1 : Room := { frames := 3, cells := 0, slots := 0, locals := 69 }
set_option maxHeartbeats 4000000 in
set_option maxRecDepth 100000 in
theorem ctX2_make_1 (l : Launch) (D : va_G) (cI cZ : ClassId) (q : Nat → Nat) (u : SX) (n : Nat) (hn : u.1 15 0 = nI n) (h60 : n ≤ 60) (h59 : n < 60) (p0 p1 p2 p3 p4 : Int32) (hs : p0 = 1) (h1 : ¬ xRange p3 4 = 0) (h2 : p1 = -1 ∨ ¬ xCon (u.2 1) p1 = 0) (h3 : p2 = -1 ∨ ¬ xCon (u.2 1) p2 = 0) (h4 : p4 = -1 ∨ ¬ xRange p4 100 = 0) (h5 : p2 = -1 ∨ (¬ p1 = -1 ∧ ¬ p1 = p2)) : gM l yX2_make wsX2_make rmX2_make_1 D [(cI, .int), (cZ, .boolean)] (XW cI cZ q) XG [.ref (q 0), .int p0, .int p1, .int p2, .int p3, .int p4] u (some (.int (nI n))) (gL (gS (gS (gS (gS (gS u 0 (upd (u.1 0) n p1)) 1 (upd (u.1 1) n p2)) 2 (xSlots n p1 p3 p4 (u.1 2))) 7 (xAddF (u.1 7) p4)) 15 (fun _ => (nI n + 1))) 1 ((u.2 1) ||| (xSet (nI n)))) := by
  refine g_start (cc := cX2_make) (maxL := 8) (ret := (some .int)) (by decide) rfl (Nat.le_of_ble_eq_true rfl) ?_
  intro p e s m below meth c A ls Q hx hb hml hret hts hown hlk hE hP hK hD hA hl hQ hS
  have hown : s.vm.findClass RX2 = some m.cls := hown
  have hl : lv_has ls 8 [(0, .ref (q 0)), (1, .int p0), (2, .int p1), (3, .int p2), (4, .int p3), (5, .int p4)] := hl
  refine lv_aload_n hx hb dX2_make_0 rfl (lv_at hl 0 rfl) ?_
  refine lv_iload_n hx hb dX2_make_1 rfl (lv_at hl 1 rfl) ?_
  refine g_callV (As := [.int p0]) (rest := []) hx hb hml hown hts (ctX2_storeOf_1 l D cI cZ q u p0 hs) gX2_make_X2_storeOf rfl rfl rfl hdX2_storeOf ⟨Nat.le_of_ble_eq_true rfl, Nat.le_of_ble_eq_true rfl⟩ XG_em hE hP hK hD hS hA 0 rfl rfl rfl hl.1 rfl (Nat.le_of_ble_eq_true rfl) dX2_make_2 ⟨Nat.zero_le _, Nat.zero_le _⟩ (fun H locs hP hD hS => ?_)
  have hP : va_P D vwCl (XW cI cZ q u) H := hP
  have hD : va_D A (XW cI cZ q u) := hD
  refine W.eq (g2 := F0 m 5 ls [.ref (q 3)]) rfl ?_
  refine lv_astore (lv' := [(6, .ref (q 3)), (0, .ref (q 0)), (1, .int p0), (2, .int p1), (3, .int p2), (4, .int p3), (5, .int p4)]) hx hb dX2_make_5 hl (by decide) rfl (fun ls hl => ?_)
  refine lv_iload hx hb dX2_make_7 (lv_at hl 5 rfl) ?_
  refine g_callS0 (As := [.int p3]) (rest := []) hx hb hml hown hts (ctX2_checkSlot l D cI cZ q p3 h1) gX2_make_X2_checkSlot rfl rfl rfl hdX2_checkSlot ⟨Nat.le_of_ble_eq_true rfl, Nat.le_of_ble_eq_true rfl⟩ gEM_true trivial hP hK hS hA rfl hl.1 rfl (Nat.le_of_ble_eq_true rfl) dX2_make_9 ⟨Nat.zero_le _, Nat.zero_le _⟩ (fun H locs hP hS => ?_)
  refine W.eq (g2 := F0 m 12 ls []) rfl ?_
  refine lv_aload hx hb dX2_make_12 (lv_at hl 0 rfl) ?_
  refine lv_iload_n hx hb dX2_make_14 rfl (lv_at hl 3 rfl) ?_
  refine g_callS (As := [.ref (q 3), .int p1]) (rest := []) hx hb hml hown hts (ctX2_checkHeldOrNone_1 l D cI cZ q u p1 h2) gX2_make_X2_checkHeldOrNone rfl rfl rfl hdX2_checkHeldOrNone ⟨Nat.le_of_ble_eq_true rfl, Nat.le_of_ble_eq_true rfl⟩ XG_em hE hP hK hD hS hA rfl hl.1 rfl (Nat.le_of_ble_eq_true rfl) dX2_make_15 ⟨Nat.zero_le _, Nat.zero_le _⟩ (fun H locs hP hD hS => ?_)
  have hP : va_P D vwCl (XW cI cZ q u) H := hP
  have hD : va_D A (XW cI cZ q u) := hD
  refine W.eq (g2 := F0 m 18 ls []) rfl ?_
  refine lv_aload hx hb dX2_make_18 (lv_at hl 0 rfl) ?_
  refine lv_iload_n hx hb dX2_make_20 rfl (lv_at hl 4 rfl) ?_
  refine g_callS (As := [.ref (q 3), .int p2]) (rest := []) hx hb hml hown hts (ctX2_checkHeldOrNone_1 l D cI cZ q u p2 h3) gX2_make_X2_checkHeldOrNone rfl rfl rfl hdX2_checkHeldOrNone ⟨Nat.le_of_ble_eq_true rfl, Nat.le_of_ble_eq_true rfl⟩ XG_em hE hP hK hD hS hA rfl hl.1 rfl (Nat.le_of_ble_eq_true rfl) dX2_make_21 ⟨Nat.zero_le _, Nat.zero_le _⟩ (fun H locs hP hD hS => ?_)
  have hP : va_P D vwCl (XW cI cZ q u) H := hP
  have hD : va_D A (XW cI cZ q u) := hD
  refine W.eq (g2 := F0 m 24 ls []) rfl ?_
  refine lv_iload hx hb dX2_make_24 (lv_at hl 6 rfl) ?_
  refine lv_iconst (v := (-1)) hx hb dX2_make_26 (by decide +kernel) ?_
  refine lv_icmp_eq (tgt := 35) hx hb dX2_make_27 (by decide) (fun c_27 => ?_) (fun c_27 => ?_)
  · refine lv_iload_n hx hb dX2_make_35 rfl (lv_at hl 4 rfl) ?_
    refine lv_iconst (v := (-1)) hx hb dX2_make_36 (by decide +kernel) ?_
    refine lv_icmp_eq (tgt := 60) hx hb dX2_make_37 (by decide) (fun c_37 => ?_) (fun c_37 => ?_)
    · refine lv_aload_n hx hb dX2_make_60 rfl (lv_at hl 1 rfl) ?_
      refine va_get (ci := 2) (v := .ref (q 1)) (C := RX2) (T := TX2) (N := 9) hx hb hts inX2_make_RX2 hown hK hP 0 rfl rfl 0 (by decide) (hts _ lkX2_make_10) (fun _ h9 => h9) rfl dX2_make_61 ?_
      refine g_callV (As := []) (rest := []) hx hb hml hown hts (ctX0_isFull l D cI cZ q u n hn h60) gX2_make_X0_isFull rfl rfl rfl hdX0_isFull ⟨Nat.le_of_ble_eq_true rfl, Nat.le_of_ble_eq_true rfl⟩ XG_em hE hP hK hD hS hA 1 rfl rfl rfl hl.1 rfl (Nat.le_of_ble_eq_true rfl) dX2_make_64 ⟨Nat.zero_le _, Nat.zero_le _⟩ (fun H locs hP hD hS => ?_)
      have hP : va_P D vwCl (XW cI cZ q u) H := hP
      have hD : va_D A (XW cI cZ q u) := hD
      refine W.eq (g2 := F0 m 67 ls [.int (if n < 60 then 0 else 1)]) rfl ?_
      refine lv_if_eq (tgt := 80) hx hb dX2_make_67 (by decide) (fun c_67 => ?_) (fun c_67 => ?_)
      · refine lv_aload_n hx hb dX2_make_80 rfl (lv_at hl 1 rfl) ?_
        refine va_get (ci := 2) (v := .ref (q 1)) (C := RX2) (T := TX2) (N := 9) hx hb hts inX2_make_RX2 hown hK hP 0 rfl rfl 0 (by decide) (hts _ lkX2_make_10) (fun _ h9 => h9) rfl dX2_make_81 ?_
        refine lv_iload_n hx hb dX2_make_84 rfl (lv_at hl 3 rfl) ?_
        refine lv_iload_n hx hb dX2_make_85 rfl (lv_at hl 4 rfl) ?_
        refine lv_iload hx hb dX2_make_86 (lv_at hl 5 rfl) ?_
        refine lv_iload hx hb dX2_make_88 (lv_at hl 6 rfl) ?_
        refine g_callV (As := [.int p1, .int p2, .int p3, .int p4]) (rest := []) hx hb hml hown hts (ctX0_append l D cI cZ q u n hn h60 h59 p1 p2 p3 p4) gX2_make_X0_append rfl rfl rfl hdX0_append ⟨Nat.le_of_ble_eq_true rfl, Nat.le_of_ble_eq_true rfl⟩ XG_em hE hP hK hD hS hA 1 rfl rfl rfl hl.1 rfl (Nat.le_of_ble_eq_true rfl) dX2_make_90 ⟨Nat.zero_le _, Nat.zero_le _⟩ (fun H locs hP hD hS => ?_)
        have hP : va_P D vwCl (XW cI cZ q (gS (gS (gS (gS u 0 (upd (u.1 0) n p1)) 1 (upd (u.1 1) n p2)) 2 (xSlots n p1 p3 p4 (u.1 2))) 15 (fun _ => (nI n + 1)))) H := hP
        have hD : va_D A (XW cI cZ q (gS (gS (gS (gS u 0 (upd (u.1 0) n p1)) 1 (upd (u.1 1) n p2)) 2 (xSlots n p1 p3 p4 (u.1 2))) 15 (fun _ => (nI n + 1)))) := hD
        refine W.eq (g2 := F0 m 93 ls [.int (nI n)]) rfl ?_
        refine lv_istore (lv' := [(7, .int (nI n)), (6, .ref (q 3)), (0, .ref (q 0)), (1, .int p0), (2, .int p1), (3, .int p2), (4, .int p3), (5, .int p4)]) hx hb dX2_make_93 hl (by decide) rfl (fun ls hl => ?_)
        refine lv_aload hx hb dX2_make_95 (lv_at hl 1 rfl) ?_
        refine lv_dup hx hb dX2_make_97 rfl ?_
        refine va_getN (host := "FetchHouse") (ci := 1) (v := .long (u.2 1)) (C := RX1) (T := TX1) (N := 3) hx hb hts inX2_make_RX1 hown hK hP 3 rfl rfl 0 (by decide) (va_Nw.use rfl (hE.1 _ (List.mem_of_getElem? (i := 0) rfl))) (fun _ h9 => h9) rfl dX2_make_98 ?_
        refine lv_iload hx hb dX2_make_101 (lv_at hl 0 rfl) ?_
        refine g_callS0 (As := [.int (nI n)]) (rest := [.long (u.2 1), .ref (q 3)]) hx hb hml hown hts (ctX2_setOf l D cI cZ q (nI n)) gX2_make_X2_setOf rfl rfl rfl hdX2_setOf ⟨Nat.le_of_ble_eq_true rfl, Nat.le_of_ble_eq_true rfl⟩ gEM_true trivial hP hK hS hA rfl hl.1 rfl (Nat.le_of_ble_eq_true rfl) dX2_make_103 ⟨Nat.zero_le _, Nat.zero_le _⟩ (fun H locs hP hS => ?_)
        refine W.eq (g2 := F0 m 106 ls [.long (xSet (nI n)), .long (u.2 1), .ref (q 3)]) rfl ?_
        refine lv_lor hx hb dX2_make_106 ?_
        refine va_putN (host := "FetchHouse") (ci := 1) (v := .long ((u.2 1) ||| (xSet (nI n)))) (ty := .long) (C := RX1) (T := TX1) (N := 3) hx hb hts inX2_make_RX1 tyX1 tyX1_ok nmX1 hown hK hP hD hS 3 rfl rfl 0 (by decide) (va_Nw.use rfl (hE.1 _ (List.mem_of_getElem? (i := 0) rfl))) (fun _ h9 => h9) rfl (by decide +kernel) rfl rfl (Nat.le_of_ble_eq_true rfl) dX2_make_107 (fun H locs hP hD hS => ?_)
        have hP : va_P D vwCl (XW cI cZ q (gL (gS (gS (gS (gS u 0 (upd (u.1 0) n p1)) 1 (upd (u.1 1) n p2)) 2 (xSlots n p1 p3 p4 (u.1 2))) 15 (fun _ => (nI n + 1))) 1 ((u.2 1) ||| (xSet (nI n))))) H := hP
        have hD : va_D A (XW cI cZ q (gL (gS (gS (gS (gS u 0 (upd (u.1 0) n p1)) 1 (upd (u.1 1) n p2)) 2 (xSlots n p1 p3 p4 (u.1 2))) 15 (fun _ => (nI n + 1))) 1 ((u.2 1) ||| (xSet (nI n))))) := hD
        refine lv_aload hx hb dX2_make_110 (lv_at hl 1 rfl) ?_
        refine lv_iload hx hb dX2_make_112 (lv_at hl 7 rfl) ?_
        refine g_callV (As := [.int p4]) (rest := []) hx hb hml hown hts (ctX1_addFile_1 l D cI cZ q (gL (gS (gS (gS (gS u 0 (upd (u.1 0) n p1)) 1 (upd (u.1 1) n p2)) 2 (xSlots n p1 p3 p4 (u.1 2))) 15 (fun _ => (nI n + 1))) 1 ((u.2 1) ||| (xSet (nI n)))) p4) gX2_make_X1_addFile rfl rfl rfl hdX1_addFile ⟨Nat.le_of_ble_eq_true rfl, Nat.le_of_ble_eq_true rfl⟩ XG_em hE hP hK hD hS hA 3 rfl rfl rfl hl.1 rfl (Nat.le_of_ble_eq_true rfl) dX2_make_114 ⟨Nat.zero_le _, Nat.zero_le _⟩ (fun H locs hP hD hS => ?_)
        have hP : va_P D vwCl (XW cI cZ q (gL (gS (gS (gS (gS (gS u 0 (upd (u.1 0) n p1)) 1 (upd (u.1 1) n p2)) 2 (xSlots n p1 p3 p4 (u.1 2))) 7 (xAddF (u.1 7) p4)) 15 (fun _ => (nI n + 1))) 1 ((u.2 1) ||| (xSet (nI n))))) H := hP
        have hD : va_D A (XW cI cZ q (gL (gS (gS (gS (gS (gS u 0 (upd (u.1 0) n p1)) 1 (upd (u.1 1) n p2)) 2 (xSlots n p1 p3 p4 (u.1 2))) 7 (xAddF (u.1 7) p4)) 15 (fun _ => (nI n + 1))) 1 ((u.2 1) ||| (xSet (nI n))))) := hD
        refine W.eq (g2 := F0 m 117 ls []) rfl ?_
        refine lv_iload hx hb dX2_make_117 (lv_at hl 0 rfl) ?_
        refine g_iret (u1 := (gL (gS (gS (gS (gS (gS u 0 (upd (u.1 0) n p1)) 1 (upd (u.1 1) n p2)) 2 (xSlots n p1 p3 p4 (u.1 2))) 7 (xAddF (u.1 7) p4)) 15 (fun _ => (nI n + 1))) 1 ((u.2 1) ||| (xSet (nI n))))) hx hb hret hlk hQ hP hD hS dX2_make_119 ?_ ?_
        · exact rfl
        · exact rfl
      · exact absurd (if_pos h59) c_67
    · refine lv_iload_n hx hb dX2_make_40 rfl (lv_at hl 3 rfl) ?_
      refine lv_iconst (v := (-1)) hx hb dX2_make_41 (by decide +kernel) ?_
      refine lv_icmp_eq (tgt := 50) hx hb dX2_make_42 (by decide) (fun c_42 => ?_) (fun c_42 => ?_)
      · exact absurd c_42 (h5.resolve_left c_37).1
      · refine lv_iload_n hx hb dX2_make_45 rfl (lv_at hl 3 rfl) ?_
        refine lv_iload_n hx hb dX2_make_46 rfl (lv_at hl 4 rfl) ?_
        refine lv_icmp_ne (tgt := 60) hx hb dX2_make_47 (by decide) (fun c_47 => ?_) (fun c_47 => ?_)
        · refine lv_aload_n hx hb dX2_make_60 rfl (lv_at hl 1 rfl) ?_
          refine va_get (ci := 2) (v := .ref (q 1)) (C := RX2) (T := TX2) (N := 9) hx hb hts inX2_make_RX2 hown hK hP 0 rfl rfl 0 (by decide) (hts _ lkX2_make_10) (fun _ h9 => h9) rfl dX2_make_61 ?_
          refine g_callV (As := []) (rest := []) hx hb hml hown hts (ctX0_isFull l D cI cZ q u n hn h60) gX2_make_X0_isFull rfl rfl rfl hdX0_isFull ⟨Nat.le_of_ble_eq_true rfl, Nat.le_of_ble_eq_true rfl⟩ XG_em hE hP hK hD hS hA 1 rfl rfl rfl hl.1 rfl (Nat.le_of_ble_eq_true rfl) dX2_make_64 ⟨Nat.zero_le _, Nat.zero_le _⟩ (fun H locs hP hD hS => ?_)
          have hP : va_P D vwCl (XW cI cZ q u) H := hP
          have hD : va_D A (XW cI cZ q u) := hD
          refine W.eq (g2 := F0 m 67 ls [.int (if n < 60 then 0 else 1)]) rfl ?_
          refine lv_if_eq (tgt := 80) hx hb dX2_make_67 (by decide) (fun c_67 => ?_) (fun c_67 => ?_)
          · refine lv_aload_n hx hb dX2_make_80 rfl (lv_at hl 1 rfl) ?_
            refine va_get (ci := 2) (v := .ref (q 1)) (C := RX2) (T := TX2) (N := 9) hx hb hts inX2_make_RX2 hown hK hP 0 rfl rfl 0 (by decide) (hts _ lkX2_make_10) (fun _ h9 => h9) rfl dX2_make_81 ?_
            refine lv_iload_n hx hb dX2_make_84 rfl (lv_at hl 3 rfl) ?_
            refine lv_iload_n hx hb dX2_make_85 rfl (lv_at hl 4 rfl) ?_
            refine lv_iload hx hb dX2_make_86 (lv_at hl 5 rfl) ?_
            refine lv_iload hx hb dX2_make_88 (lv_at hl 6 rfl) ?_
            refine g_callV (As := [.int p1, .int p2, .int p3, .int p4]) (rest := []) hx hb hml hown hts (ctX0_append l D cI cZ q u n hn h60 h59 p1 p2 p3 p4) gX2_make_X0_append rfl rfl rfl hdX0_append ⟨Nat.le_of_ble_eq_true rfl, Nat.le_of_ble_eq_true rfl⟩ XG_em hE hP hK hD hS hA 1 rfl rfl rfl hl.1 rfl (Nat.le_of_ble_eq_true rfl) dX2_make_90 ⟨Nat.zero_le _, Nat.zero_le _⟩ (fun H locs hP hD hS => ?_)
            have hP : va_P D vwCl (XW cI cZ q (gS (gS (gS (gS u 0 (upd (u.1 0) n p1)) 1 (upd (u.1 1) n p2)) 2 (xSlots n p1 p3 p4 (u.1 2))) 15 (fun _ => (nI n + 1)))) H := hP
            have hD : va_D A (XW cI cZ q (gS (gS (gS (gS u 0 (upd (u.1 0) n p1)) 1 (upd (u.1 1) n p2)) 2 (xSlots n p1 p3 p4 (u.1 2))) 15 (fun _ => (nI n + 1)))) := hD
            refine W.eq (g2 := F0 m 93 ls [.int (nI n)]) rfl ?_
            refine lv_istore (lv' := [(7, .int (nI n)), (6, .ref (q 3)), (0, .ref (q 0)), (1, .int p0), (2, .int p1), (3, .int p2), (4, .int p3), (5, .int p4)]) hx hb dX2_make_93 hl (by decide) rfl (fun ls hl => ?_)
            refine lv_aload hx hb dX2_make_95 (lv_at hl 1 rfl) ?_
            refine lv_dup hx hb dX2_make_97 rfl ?_
            refine va_getN (host := "FetchHouse") (ci := 1) (v := .long (u.2 1)) (C := RX1) (T := TX1) (N := 3) hx hb hts inX2_make_RX1 hown hK hP 3 rfl rfl 0 (by decide) (va_Nw.use rfl (hE.1 _ (List.mem_of_getElem? (i := 0) rfl))) (fun _ h9 => h9) rfl dX2_make_98 ?_
            refine lv_iload hx hb dX2_make_101 (lv_at hl 0 rfl) ?_
            refine g_callS0 (As := [.int (nI n)]) (rest := [.long (u.2 1), .ref (q 3)]) hx hb hml hown hts (ctX2_setOf l D cI cZ q (nI n)) gX2_make_X2_setOf rfl rfl rfl hdX2_setOf ⟨Nat.le_of_ble_eq_true rfl, Nat.le_of_ble_eq_true rfl⟩ gEM_true trivial hP hK hS hA rfl hl.1 rfl (Nat.le_of_ble_eq_true rfl) dX2_make_103 ⟨Nat.zero_le _, Nat.zero_le _⟩ (fun H locs hP hS => ?_)
            refine W.eq (g2 := F0 m 106 ls [.long (xSet (nI n)), .long (u.2 1), .ref (q 3)]) rfl ?_
            refine lv_lor hx hb dX2_make_106 ?_
            refine va_putN (host := "FetchHouse") (ci := 1) (v := .long ((u.2 1) ||| (xSet (nI n)))) (ty := .long) (C := RX1) (T := TX1) (N := 3) hx hb hts inX2_make_RX1 tyX1 tyX1_ok nmX1 hown hK hP hD hS 3 rfl rfl 0 (by decide) (va_Nw.use rfl (hE.1 _ (List.mem_of_getElem? (i := 0) rfl))) (fun _ h9 => h9) rfl (by decide +kernel) rfl rfl (Nat.le_of_ble_eq_true rfl) dX2_make_107 (fun H locs hP hD hS => ?_)
            have hP : va_P D vwCl (XW cI cZ q (gL (gS (gS (gS (gS u 0 (upd (u.1 0) n p1)) 1 (upd (u.1 1) n p2)) 2 (xSlots n p1 p3 p4 (u.1 2))) 15 (fun _ => (nI n + 1))) 1 ((u.2 1) ||| (xSet (nI n))))) H := hP
            have hD : va_D A (XW cI cZ q (gL (gS (gS (gS (gS u 0 (upd (u.1 0) n p1)) 1 (upd (u.1 1) n p2)) 2 (xSlots n p1 p3 p4 (u.1 2))) 15 (fun _ => (nI n + 1))) 1 ((u.2 1) ||| (xSet (nI n))))) := hD
            refine lv_aload hx hb dX2_make_110 (lv_at hl 1 rfl) ?_
            refine lv_iload hx hb dX2_make_112 (lv_at hl 7 rfl) ?_
            refine g_callV (As := [.int p4]) (rest := []) hx hb hml hown hts (ctX1_addFile_1 l D cI cZ q (gL (gS (gS (gS (gS u 0 (upd (u.1 0) n p1)) 1 (upd (u.1 1) n p2)) 2 (xSlots n p1 p3 p4 (u.1 2))) 15 (fun _ => (nI n + 1))) 1 ((u.2 1) ||| (xSet (nI n)))) p4) gX2_make_X1_addFile rfl rfl rfl hdX1_addFile ⟨Nat.le_of_ble_eq_true rfl, Nat.le_of_ble_eq_true rfl⟩ XG_em hE hP hK hD hS hA 3 rfl rfl rfl hl.1 rfl (Nat.le_of_ble_eq_true rfl) dX2_make_114 ⟨Nat.zero_le _, Nat.zero_le _⟩ (fun H locs hP hD hS => ?_)
            have hP : va_P D vwCl (XW cI cZ q (gL (gS (gS (gS (gS (gS u 0 (upd (u.1 0) n p1)) 1 (upd (u.1 1) n p2)) 2 (xSlots n p1 p3 p4 (u.1 2))) 7 (xAddF (u.1 7) p4)) 15 (fun _ => (nI n + 1))) 1 ((u.2 1) ||| (xSet (nI n))))) H := hP
            have hD : va_D A (XW cI cZ q (gL (gS (gS (gS (gS (gS u 0 (upd (u.1 0) n p1)) 1 (upd (u.1 1) n p2)) 2 (xSlots n p1 p3 p4 (u.1 2))) 7 (xAddF (u.1 7) p4)) 15 (fun _ => (nI n + 1))) 1 ((u.2 1) ||| (xSet (nI n))))) := hD
            refine W.eq (g2 := F0 m 117 ls []) rfl ?_
            refine lv_iload hx hb dX2_make_117 (lv_at hl 0 rfl) ?_
            refine g_iret (u1 := (gL (gS (gS (gS (gS (gS u 0 (upd (u.1 0) n p1)) 1 (upd (u.1 1) n p2)) 2 (xSlots n p1 p3 p4 (u.1 2))) 7 (xAddF (u.1 7) p4)) 15 (fun _ => (nI n + 1))) 1 ((u.2 1) ||| (xSet (nI n))))) hx hb hret hlk hQ hP hD hS dX2_make_119 ?_ ?_
            · exact rfl
            · exact rfl
          · exact absurd (if_pos h59) c_67
        · exact absurd c_47 (h5.resolve_left c_37).2
  · refine lv_iload hx hb dX2_make_30 (lv_at hl 6 rfl) ?_
    refine g_callS0 (As := [.int p4]) (rest := []) hx hb hml hown hts (ctX2_checkFile l D cI cZ q p4 (h4.resolve_left c_27)) gX2_make_X2_checkFile rfl rfl rfl hdX2_checkFile ⟨Nat.le_of_ble_eq_true rfl, Nat.le_of_ble_eq_true rfl⟩ gEM_true trivial hP hK hS hA rfl hl.1 rfl (Nat.le_of_ble_eq_true rfl) dX2_make_32 ⟨Nat.zero_le _, Nat.zero_le _⟩ (fun H locs hP hS => ?_)
    refine W.eq (g2 := F0 m 35 ls []) rfl ?_
    refine lv_iload_n hx hb dX2_make_35 rfl (lv_at hl 4 rfl) ?_
    refine lv_iconst (v := (-1)) hx hb dX2_make_36 (by decide +kernel) ?_
    refine lv_icmp_eq (tgt := 60) hx hb dX2_make_37 (by decide) (fun c_37 => ?_) (fun c_37 => ?_)
    · refine lv_aload_n hx hb dX2_make_60 rfl (lv_at hl 1 rfl) ?_
      refine va_get (ci := 2) (v := .ref (q 1)) (C := RX2) (T := TX2) (N := 9) hx hb hts inX2_make_RX2 hown hK hP 0 rfl rfl 0 (by decide) (hts _ lkX2_make_10) (fun _ h9 => h9) rfl dX2_make_61 ?_
      refine g_callV (As := []) (rest := []) hx hb hml hown hts (ctX0_isFull l D cI cZ q u n hn h60) gX2_make_X0_isFull rfl rfl rfl hdX0_isFull ⟨Nat.le_of_ble_eq_true rfl, Nat.le_of_ble_eq_true rfl⟩ XG_em hE hP hK hD hS hA 1 rfl rfl rfl hl.1 rfl (Nat.le_of_ble_eq_true rfl) dX2_make_64 ⟨Nat.zero_le _, Nat.zero_le _⟩ (fun H locs hP hD hS => ?_)
      have hP : va_P D vwCl (XW cI cZ q u) H := hP
      have hD : va_D A (XW cI cZ q u) := hD
      refine W.eq (g2 := F0 m 67 ls [.int (if n < 60 then 0 else 1)]) rfl ?_
      refine lv_if_eq (tgt := 80) hx hb dX2_make_67 (by decide) (fun c_67 => ?_) (fun c_67 => ?_)
      · refine lv_aload_n hx hb dX2_make_80 rfl (lv_at hl 1 rfl) ?_
        refine va_get (ci := 2) (v := .ref (q 1)) (C := RX2) (T := TX2) (N := 9) hx hb hts inX2_make_RX2 hown hK hP 0 rfl rfl 0 (by decide) (hts _ lkX2_make_10) (fun _ h9 => h9) rfl dX2_make_81 ?_
        refine lv_iload_n hx hb dX2_make_84 rfl (lv_at hl 3 rfl) ?_
        refine lv_iload_n hx hb dX2_make_85 rfl (lv_at hl 4 rfl) ?_
        refine lv_iload hx hb dX2_make_86 (lv_at hl 5 rfl) ?_
        refine lv_iload hx hb dX2_make_88 (lv_at hl 6 rfl) ?_
        refine g_callV (As := [.int p1, .int p2, .int p3, .int p4]) (rest := []) hx hb hml hown hts (ctX0_append l D cI cZ q u n hn h60 h59 p1 p2 p3 p4) gX2_make_X0_append rfl rfl rfl hdX0_append ⟨Nat.le_of_ble_eq_true rfl, Nat.le_of_ble_eq_true rfl⟩ XG_em hE hP hK hD hS hA 1 rfl rfl rfl hl.1 rfl (Nat.le_of_ble_eq_true rfl) dX2_make_90 ⟨Nat.zero_le _, Nat.zero_le _⟩ (fun H locs hP hD hS => ?_)
        have hP : va_P D vwCl (XW cI cZ q (gS (gS (gS (gS u 0 (upd (u.1 0) n p1)) 1 (upd (u.1 1) n p2)) 2 (xSlots n p1 p3 p4 (u.1 2))) 15 (fun _ => (nI n + 1)))) H := hP
        have hD : va_D A (XW cI cZ q (gS (gS (gS (gS u 0 (upd (u.1 0) n p1)) 1 (upd (u.1 1) n p2)) 2 (xSlots n p1 p3 p4 (u.1 2))) 15 (fun _ => (nI n + 1)))) := hD
        refine W.eq (g2 := F0 m 93 ls [.int (nI n)]) rfl ?_
        refine lv_istore (lv' := [(7, .int (nI n)), (6, .ref (q 3)), (0, .ref (q 0)), (1, .int p0), (2, .int p1), (3, .int p2), (4, .int p3), (5, .int p4)]) hx hb dX2_make_93 hl (by decide) rfl (fun ls hl => ?_)
        refine lv_aload hx hb dX2_make_95 (lv_at hl 1 rfl) ?_
        refine lv_dup hx hb dX2_make_97 rfl ?_
        refine va_getN (host := "FetchHouse") (ci := 1) (v := .long (u.2 1)) (C := RX1) (T := TX1) (N := 3) hx hb hts inX2_make_RX1 hown hK hP 3 rfl rfl 0 (by decide) (va_Nw.use rfl (hE.1 _ (List.mem_of_getElem? (i := 0) rfl))) (fun _ h9 => h9) rfl dX2_make_98 ?_
        refine lv_iload hx hb dX2_make_101 (lv_at hl 0 rfl) ?_
        refine g_callS0 (As := [.int (nI n)]) (rest := [.long (u.2 1), .ref (q 3)]) hx hb hml hown hts (ctX2_setOf l D cI cZ q (nI n)) gX2_make_X2_setOf rfl rfl rfl hdX2_setOf ⟨Nat.le_of_ble_eq_true rfl, Nat.le_of_ble_eq_true rfl⟩ gEM_true trivial hP hK hS hA rfl hl.1 rfl (Nat.le_of_ble_eq_true rfl) dX2_make_103 ⟨Nat.zero_le _, Nat.zero_le _⟩ (fun H locs hP hS => ?_)
        refine W.eq (g2 := F0 m 106 ls [.long (xSet (nI n)), .long (u.2 1), .ref (q 3)]) rfl ?_
        refine lv_lor hx hb dX2_make_106 ?_
        refine va_putN (host := "FetchHouse") (ci := 1) (v := .long ((u.2 1) ||| (xSet (nI n)))) (ty := .long) (C := RX1) (T := TX1) (N := 3) hx hb hts inX2_make_RX1 tyX1 tyX1_ok nmX1 hown hK hP hD hS 3 rfl rfl 0 (by decide) (va_Nw.use rfl (hE.1 _ (List.mem_of_getElem? (i := 0) rfl))) (fun _ h9 => h9) rfl (by decide +kernel) rfl rfl (Nat.le_of_ble_eq_true rfl) dX2_make_107 (fun H locs hP hD hS => ?_)
        have hP : va_P D vwCl (XW cI cZ q (gL (gS (gS (gS (gS u 0 (upd (u.1 0) n p1)) 1 (upd (u.1 1) n p2)) 2 (xSlots n p1 p3 p4 (u.1 2))) 15 (fun _ => (nI n + 1))) 1 ((u.2 1) ||| (xSet (nI n))))) H := hP
        have hD : va_D A (XW cI cZ q (gL (gS (gS (gS (gS u 0 (upd (u.1 0) n p1)) 1 (upd (u.1 1) n p2)) 2 (xSlots n p1 p3 p4 (u.1 2))) 15 (fun _ => (nI n + 1))) 1 ((u.2 1) ||| (xSet (nI n))))) := hD
        refine lv_aload hx hb dX2_make_110 (lv_at hl 1 rfl) ?_
        refine lv_iload hx hb dX2_make_112 (lv_at hl 7 rfl) ?_
        refine g_callV (As := [.int p4]) (rest := []) hx hb hml hown hts (ctX1_addFile_1 l D cI cZ q (gL (gS (gS (gS (gS u 0 (upd (u.1 0) n p1)) 1 (upd (u.1 1) n p2)) 2 (xSlots n p1 p3 p4 (u.1 2))) 15 (fun _ => (nI n + 1))) 1 ((u.2 1) ||| (xSet (nI n)))) p4) gX2_make_X1_addFile rfl rfl rfl hdX1_addFile ⟨Nat.le_of_ble_eq_true rfl, Nat.le_of_ble_eq_true rfl⟩ XG_em hE hP hK hD hS hA 3 rfl rfl rfl hl.1 rfl (Nat.le_of_ble_eq_true rfl) dX2_make_114 ⟨Nat.zero_le _, Nat.zero_le _⟩ (fun H locs hP hD hS => ?_)
        have hP : va_P D vwCl (XW cI cZ q (gL (gS (gS (gS (gS (gS u 0 (upd (u.1 0) n p1)) 1 (upd (u.1 1) n p2)) 2 (xSlots n p1 p3 p4 (u.1 2))) 7 (xAddF (u.1 7) p4)) 15 (fun _ => (nI n + 1))) 1 ((u.2 1) ||| (xSet (nI n))))) H := hP
        have hD : va_D A (XW cI cZ q (gL (gS (gS (gS (gS (gS u 0 (upd (u.1 0) n p1)) 1 (upd (u.1 1) n p2)) 2 (xSlots n p1 p3 p4 (u.1 2))) 7 (xAddF (u.1 7) p4)) 15 (fun _ => (nI n + 1))) 1 ((u.2 1) ||| (xSet (nI n))))) := hD
        refine W.eq (g2 := F0 m 117 ls []) rfl ?_
        refine lv_iload hx hb dX2_make_117 (lv_at hl 0 rfl) ?_
        refine g_iret (u1 := (gL (gS (gS (gS (gS (gS u 0 (upd (u.1 0) n p1)) 1 (upd (u.1 1) n p2)) 2 (xSlots n p1 p3 p4 (u.1 2))) 7 (xAddF (u.1 7) p4)) 15 (fun _ => (nI n + 1))) 1 ((u.2 1) ||| (xSet (nI n))))) hx hb hret hlk hQ hP hD hS dX2_make_119 ?_ ?_
        · exact rfl
        · exact rfl
      · exact absurd (if_pos h59) c_67
    · refine lv_iload_n hx hb dX2_make_40 rfl (lv_at hl 3 rfl) ?_
      refine lv_iconst (v := (-1)) hx hb dX2_make_41 (by decide +kernel) ?_
      refine lv_icmp_eq (tgt := 50) hx hb dX2_make_42 (by decide) (fun c_42 => ?_) (fun c_42 => ?_)
      · exact absurd c_42 (h5.resolve_left c_37).1
      · refine lv_iload_n hx hb dX2_make_45 rfl (lv_at hl 3 rfl) ?_
        refine lv_iload_n hx hb dX2_make_46 rfl (lv_at hl 4 rfl) ?_
        refine lv_icmp_ne (tgt := 60) hx hb dX2_make_47 (by decide) (fun c_47 => ?_) (fun c_47 => ?_)
        · refine lv_aload_n hx hb dX2_make_60 rfl (lv_at hl 1 rfl) ?_
          refine va_get (ci := 2) (v := .ref (q 1)) (C := RX2) (T := TX2) (N := 9) hx hb hts inX2_make_RX2 hown hK hP 0 rfl rfl 0 (by decide) (hts _ lkX2_make_10) (fun _ h9 => h9) rfl dX2_make_61 ?_
          refine g_callV (As := []) (rest := []) hx hb hml hown hts (ctX0_isFull l D cI cZ q u n hn h60) gX2_make_X0_isFull rfl rfl rfl hdX0_isFull ⟨Nat.le_of_ble_eq_true rfl, Nat.le_of_ble_eq_true rfl⟩ XG_em hE hP hK hD hS hA 1 rfl rfl rfl hl.1 rfl (Nat.le_of_ble_eq_true rfl) dX2_make_64 ⟨Nat.zero_le _, Nat.zero_le _⟩ (fun H locs hP hD hS => ?_)
          have hP : va_P D vwCl (XW cI cZ q u) H := hP
          have hD : va_D A (XW cI cZ q u) := hD
          refine W.eq (g2 := F0 m 67 ls [.int (if n < 60 then 0 else 1)]) rfl ?_
          refine lv_if_eq (tgt := 80) hx hb dX2_make_67 (by decide) (fun c_67 => ?_) (fun c_67 => ?_)
          · refine lv_aload_n hx hb dX2_make_80 rfl (lv_at hl 1 rfl) ?_
            refine va_get (ci := 2) (v := .ref (q 1)) (C := RX2) (T := TX2) (N := 9) hx hb hts inX2_make_RX2 hown hK hP 0 rfl rfl 0 (by decide) (hts _ lkX2_make_10) (fun _ h9 => h9) rfl dX2_make_81 ?_
            refine lv_iload_n hx hb dX2_make_84 rfl (lv_at hl 3 rfl) ?_
            refine lv_iload_n hx hb dX2_make_85 rfl (lv_at hl 4 rfl) ?_
            refine lv_iload hx hb dX2_make_86 (lv_at hl 5 rfl) ?_
            refine lv_iload hx hb dX2_make_88 (lv_at hl 6 rfl) ?_
            refine g_callV (As := [.int p1, .int p2, .int p3, .int p4]) (rest := []) hx hb hml hown hts (ctX0_append l D cI cZ q u n hn h60 h59 p1 p2 p3 p4) gX2_make_X0_append rfl rfl rfl hdX0_append ⟨Nat.le_of_ble_eq_true rfl, Nat.le_of_ble_eq_true rfl⟩ XG_em hE hP hK hD hS hA 1 rfl rfl rfl hl.1 rfl (Nat.le_of_ble_eq_true rfl) dX2_make_90 ⟨Nat.zero_le _, Nat.zero_le _⟩ (fun H locs hP hD hS => ?_)
            have hP : va_P D vwCl (XW cI cZ q (gS (gS (gS (gS u 0 (upd (u.1 0) n p1)) 1 (upd (u.1 1) n p2)) 2 (xSlots n p1 p3 p4 (u.1 2))) 15 (fun _ => (nI n + 1)))) H := hP
            have hD : va_D A (XW cI cZ q (gS (gS (gS (gS u 0 (upd (u.1 0) n p1)) 1 (upd (u.1 1) n p2)) 2 (xSlots n p1 p3 p4 (u.1 2))) 15 (fun _ => (nI n + 1)))) := hD
            refine W.eq (g2 := F0 m 93 ls [.int (nI n)]) rfl ?_
            refine lv_istore (lv' := [(7, .int (nI n)), (6, .ref (q 3)), (0, .ref (q 0)), (1, .int p0), (2, .int p1), (3, .int p2), (4, .int p3), (5, .int p4)]) hx hb dX2_make_93 hl (by decide) rfl (fun ls hl => ?_)
            refine lv_aload hx hb dX2_make_95 (lv_at hl 1 rfl) ?_
            refine lv_dup hx hb dX2_make_97 rfl ?_
            refine va_getN (host := "FetchHouse") (ci := 1) (v := .long (u.2 1)) (C := RX1) (T := TX1) (N := 3) hx hb hts inX2_make_RX1 hown hK hP 3 rfl rfl 0 (by decide) (va_Nw.use rfl (hE.1 _ (List.mem_of_getElem? (i := 0) rfl))) (fun _ h9 => h9) rfl dX2_make_98 ?_
            refine lv_iload hx hb dX2_make_101 (lv_at hl 0 rfl) ?_
            refine g_callS0 (As := [.int (nI n)]) (rest := [.long (u.2 1), .ref (q 3)]) hx hb hml hown hts (ctX2_setOf l D cI cZ q (nI n)) gX2_make_X2_setOf rfl rfl rfl hdX2_setOf ⟨Nat.le_of_ble_eq_true rfl, Nat.le_of_ble_eq_true rfl⟩ gEM_true trivial hP hK hS hA rfl hl.1 rfl (Nat.le_of_ble_eq_true rfl) dX2_make_103 ⟨Nat.zero_le _, Nat.zero_le _⟩ (fun H locs hP hS => ?_)
            refine W.eq (g2 := F0 m 106 ls [.long (xSet (nI n)), .long (u.2 1), .ref (q 3)]) rfl ?_
            refine lv_lor hx hb dX2_make_106 ?_
            refine va_putN (host := "FetchHouse") (ci := 1) (v := .long ((u.2 1) ||| (xSet (nI n)))) (ty := .long) (C := RX1) (T := TX1) (N := 3) hx hb hts inX2_make_RX1 tyX1 tyX1_ok nmX1 hown hK hP hD hS 3 rfl rfl 0 (by decide) (va_Nw.use rfl (hE.1 _ (List.mem_of_getElem? (i := 0) rfl))) (fun _ h9 => h9) rfl (by decide +kernel) rfl rfl (Nat.le_of_ble_eq_true rfl) dX2_make_107 (fun H locs hP hD hS => ?_)
            have hP : va_P D vwCl (XW cI cZ q (gL (gS (gS (gS (gS u 0 (upd (u.1 0) n p1)) 1 (upd (u.1 1) n p2)) 2 (xSlots n p1 p3 p4 (u.1 2))) 15 (fun _ => (nI n + 1))) 1 ((u.2 1) ||| (xSet (nI n))))) H := hP
            have hD : va_D A (XW cI cZ q (gL (gS (gS (gS (gS u 0 (upd (u.1 0) n p1)) 1 (upd (u.1 1) n p2)) 2 (xSlots n p1 p3 p4 (u.1 2))) 15 (fun _ => (nI n + 1))) 1 ((u.2 1) ||| (xSet (nI n))))) := hD
            refine lv_aload hx hb dX2_make_110 (lv_at hl 1 rfl) ?_
            refine lv_iload hx hb dX2_make_112 (lv_at hl 7 rfl) ?_
            refine g_callV (As := [.int p4]) (rest := []) hx hb hml hown hts (ctX1_addFile_1 l D cI cZ q (gL (gS (gS (gS (gS u 0 (upd (u.1 0) n p1)) 1 (upd (u.1 1) n p2)) 2 (xSlots n p1 p3 p4 (u.1 2))) 15 (fun _ => (nI n + 1))) 1 ((u.2 1) ||| (xSet (nI n)))) p4) gX2_make_X1_addFile rfl rfl rfl hdX1_addFile ⟨Nat.le_of_ble_eq_true rfl, Nat.le_of_ble_eq_true rfl⟩ XG_em hE hP hK hD hS hA 3 rfl rfl rfl hl.1 rfl (Nat.le_of_ble_eq_true rfl) dX2_make_114 ⟨Nat.zero_le _, Nat.zero_le _⟩ (fun H locs hP hD hS => ?_)
            have hP : va_P D vwCl (XW cI cZ q (gL (gS (gS (gS (gS (gS u 0 (upd (u.1 0) n p1)) 1 (upd (u.1 1) n p2)) 2 (xSlots n p1 p3 p4 (u.1 2))) 7 (xAddF (u.1 7) p4)) 15 (fun _ => (nI n + 1))) 1 ((u.2 1) ||| (xSet (nI n))))) H := hP
            have hD : va_D A (XW cI cZ q (gL (gS (gS (gS (gS (gS u 0 (upd (u.1 0) n p1)) 1 (upd (u.1 1) n p2)) 2 (xSlots n p1 p3 p4 (u.1 2))) 7 (xAddF (u.1 7) p4)) 15 (fun _ => (nI n + 1))) 1 ((u.2 1) ||| (xSet (nI n))))) := hD
            refine W.eq (g2 := F0 m 117 ls []) rfl ?_
            refine lv_iload hx hb dX2_make_117 (lv_at hl 0 rfl) ?_
            refine g_iret (u1 := (gL (gS (gS (gS (gS (gS u 0 (upd (u.1 0) n p1)) 1 (upd (u.1 1) n p2)) 2 (xSlots n p1 p3 p4 (u.1 2))) 7 (xAddF (u.1 7) p4)) 15 (fun _ => (nI n + 1))) 1 ((u.2 1) ||| (xSet (nI n))))) hx hb hret hlk hQ hP hD hS dX2_make_119 ?_ ?_
            · exact rfl
            · exact rfl
          · exact absurd (if_pos h59) c_67
        · exact absurd c_47 (h5.resolve_left c_37).2
abbrev rmX2_setRef_1 : Room := { frames := 3, cells := 0, slots := 0, locals := 63 }
set_option maxHeartbeats 4000000 in
set_option maxRecDepth 100000 in
theorem ctX2_setRef_1 (l : Launch) (D : va_G) (cI cZ : ClassId) (q : Nat → Nat) (u : SX) (p0 p1 p2 : Int32) (hs : p0 = 1) (h1 : ¬ xRange p1 4 = 0) (h2 : p2 = -1 ∨ ¬ xCon (u.2 1) p2 = 0) : gM l yX2_setRef wsX2_setRef rmX2_setRef_1 D [(cI, .int), (cZ, .boolean)] (XW cI cZ q) XG [.ref (q 0), .int p0, .int p1, .int p2] u (some (.int (xRefOf (u.1 8) p1))) (gS u 8 (xPoint (u.1 8) p1 p2)) := by
  refine g_start (cc := cX2_setRef) (maxL := 6) (ret := (some .int)) (by decide) rfl (Nat.le_of_ble_eq_true rfl) ?_
  intro p e s m below meth c A ls Q hx hb hml hret hts hown hlk hE hP hK hD hA hl hQ hS
  have hown : s.vm.findClass RX2 = some m.cls := hown
  have hl : lv_has ls 6 [(0, .ref (q 0)), (1, .int p0), (2, .int p1), (3, .int p2)] := hl
  refine lv_aload_n hx hb dX2_setRef_0 rfl (lv_at hl 0 rfl) ?_
  refine lv_iload_n hx hb dX2_setRef_1 rfl (lv_at hl 1 rfl) ?_
  refine g_callV (As := [.int p0]) (rest := []) hx hb hml hown hts (ctX2_storeOf_1 l D cI cZ q u p0 hs) gX2_setRef_X2_storeOf rfl rfl rfl hdX2_storeOf ⟨Nat.le_of_ble_eq_true rfl, Nat.le_of_ble_eq_true rfl⟩ XG_em hE hP hK hD hS hA 0 rfl rfl rfl hl.1 rfl (Nat.le_of_ble_eq_true rfl) dX2_setRef_2 ⟨Nat.zero_le _, Nat.zero_le _⟩ (fun H locs hP hD hS => ?_)
  have hP : va_P D vwCl (XW cI cZ q u) H := hP
  have hD : va_D A (XW cI cZ q u) := hD
  refine W.eq (g2 := F0 m 5 ls [.ref (q 3)]) rfl ?_
  refine lv_astore (lv' := [(4, .ref (q 3)), (0, .ref (q 0)), (1, .int p0), (2, .int p1), (3, .int p2)]) hx hb dX2_setRef_5 hl (by decide) rfl (fun ls hl => ?_)
  refine lv_iload_n hx hb dX2_setRef_7 rfl (lv_at hl 3 rfl) ?_
  refine g_callS0 (As := [.int p1]) (rest := []) hx hb hml hown hts (ctX2_checkRef l D cI cZ q p1 h1) gX2_setRef_X2_checkRef rfl rfl rfl hdX2_checkRef ⟨Nat.le_of_ble_eq_true rfl, Nat.le_of_ble_eq_true rfl⟩ gEM_true trivial hP hK hS hA rfl hl.1 rfl (Nat.le_of_ble_eq_true rfl) dX2_setRef_8 ⟨Nat.zero_le _, Nat.zero_le _⟩ (fun H locs hP hS => ?_)
  refine W.eq (g2 := F0 m 11 ls []) rfl ?_
  refine lv_aload hx hb dX2_setRef_11 (lv_at hl 0 rfl) ?_
  refine lv_iload_n hx hb dX2_setRef_13 rfl (lv_at hl 4 rfl) ?_
  refine g_callS (As := [.ref (q 3), .int p2]) (rest := []) hx hb hml hown hts (ctX2_checkHeldOrNone_1 l D cI cZ q u p2 h2) gX2_setRef_X2_checkHeldOrNone rfl rfl rfl hdX2_checkHeldOrNone ⟨Nat.le_of_ble_eq_true rfl, Nat.le_of_ble_eq_true rfl⟩ XG_em hE hP hK hD hS hA rfl hl.1 rfl (Nat.le_of_ble_eq_true rfl) dX2_setRef_14 ⟨Nat.zero_le _, Nat.zero_le _⟩ (fun H locs hP hD hS => ?_)
  have hP : va_P D vwCl (XW cI cZ q u) H := hP
  have hD : va_D A (XW cI cZ q u) := hD
  refine W.eq (g2 := F0 m 17 ls []) rfl ?_
  refine lv_aload hx hb dX2_setRef_17 (lv_at hl 0 rfl) ?_
  refine lv_iload_n hx hb dX2_setRef_19 rfl (lv_at hl 3 rfl) ?_
  refine g_callV (As := [.int p1]) (rest := []) hx hb hml hown hts (ctX1_commitOfRef_1 l D cI cZ q u p1) gX2_setRef_X1_commitOfRef rfl rfl rfl hdX1_commitOfRef ⟨Nat.le_of_ble_eq_true rfl, Nat.le_of_ble_eq_true rfl⟩ XG_em hE hP hK hD hS hA 3 rfl rfl rfl hl.1 rfl (Nat.le_of_ble_eq_true rfl) dX2_setRef_20 ⟨Nat.zero_le _, Nat.zero_le _⟩ (fun H locs hP hD hS => ?_)
  have hP : va_P D vwCl (XW cI cZ q u) H := hP
  have hD : va_D A (XW cI cZ q u) := hD
  refine W.eq (g2 := F0 m 23 ls [.int (xRefOf (u.1 8) p1)]) rfl ?_
  refine lv_istore (lv' := [(5, .int (xRefOf (u.1 8) p1)), (4, .ref (q 3)), (0, .ref (q 0)), (1, .int p0), (2, .int p1), (3, .int p2)]) hx hb dX2_setRef_23 hl (by decide) rfl (fun ls hl => ?_)
  refine lv_aload hx hb dX2_setRef_25 (lv_at hl 1 rfl) ?_
  refine lv_iload_n hx hb dX2_setRef_27 rfl (lv_at hl 4 rfl) ?_
  refine lv_iload_n hx hb dX2_setRef_28 rfl (lv_at hl 5 rfl) ?_
  refine g_callV (As := [.int p1, .int p2]) (rest := []) hx hb hml hown hts (ctX1_pointRef_1 l D cI cZ q u p1 p2) gX2_setRef_X1_pointRef rfl rfl rfl hdX1_pointRef ⟨Nat.le_of_ble_eq_true rfl, Nat.le_of_ble_eq_true rfl⟩ XG_em hE hP hK hD hS hA 3 rfl rfl rfl hl.1 rfl (Nat.le_of_ble_eq_true rfl) dX2_setRef_29 ⟨Nat.zero_le _, Nat.zero_le _⟩ (fun H locs hP hD hS => ?_)
  have hP : va_P D vwCl (XW cI cZ q (gS u 8 (xPoint (u.1 8) p1 p2))) H := hP
  have hD : va_D A (XW cI cZ q (gS u 8 (xPoint (u.1 8) p1 p2))) := hD
  refine W.eq (g2 := F0 m 32 ls []) rfl ?_
  refine lv_iload hx hb dX2_setRef_32 (lv_at hl 0 rfl) ?_
  refine g_iret (u1 := (gS u 8 (xPoint (u.1 8) p1 p2))) hx hb hret hlk hQ hP hD hS dX2_setRef_34 ?_ ?_
  · exact rfl
  · exact rfl
abbrev rmX2_ref_1 : Room := { frames := 2, cells := 0, slots := 0, locals := 41 }
set_option maxHeartbeats 4000000 in
set_option maxRecDepth 100000 in
theorem ctX2_ref_1 (l : Launch) (D : va_G) (cI cZ : ClassId) (q : Nat → Nat) (u : SX) (p0 p1 : Int32) (hs : p0 = 1) (h1 : ¬ xRange p1 4 = 0) : gM l yX2_ref wsX2_ref rmX2_ref_1 D [(cI, .int), (cZ, .boolean)] (XW cI cZ q) XG [.ref (q 0), .int p0, .int p1] u (some (.int (xRefOf (u.1 8) p1))) u := by
  refine g_start (cc := cX2_ref) (maxL := 4) (ret := (some .int)) (by decide) rfl (Nat.le_of_ble_eq_true rfl) ?_
  intro p e s m below meth c A ls Q hx hb hml hret hts hown hlk hE hP hK hD hA hl hQ hS
  have hown : s.vm.findClass RX2 = some m.cls := hown
  have hl : lv_has ls 4 [(0, .ref (q 0)), (1, .int p0), (2, .int p1)] := hl
  refine lv_aload_n hx hb dX2_ref_0 rfl (lv_at hl 0 rfl) ?_
  refine lv_iload_n hx hb dX2_ref_1 rfl (lv_at hl 1 rfl) ?_
  refine g_callV (As := [.int p0]) (rest := []) hx hb hml hown hts (ctX2_storeOf_1 l D cI cZ q u p0 hs) gX2_ref_X2_storeOf rfl rfl rfl hdX2_storeOf ⟨Nat.le_of_ble_eq_true rfl, Nat.le_of_ble_eq_true rfl⟩ XG_em hE hP hK hD hS hA 0 rfl rfl rfl hl.1 rfl (Nat.le_of_ble_eq_true rfl) dX2_ref_2 ⟨Nat.zero_le _, Nat.zero_le _⟩ (fun H locs hP hD hS => ?_)
  have hP : va_P D vwCl (XW cI cZ q u) H := hP
  have hD : va_D A (XW cI cZ q u) := hD
  refine W.eq (g2 := F0 m 5 ls [.ref (q 3)]) rfl ?_
  refine lv_astore_n (lv' := [(3, .ref (q 3)), (0, .ref (q 0)), (1, .int p0), (2, .int p1)]) hx hb dX2_ref_5 rfl hl (by decide) rfl (fun ls hl => ?_)
  refine lv_iload_n hx hb dX2_ref_6 rfl (lv_at hl 3 rfl) ?_
  refine g_callS0 (As := [.int p1]) (rest := []) hx hb hml hown hts (ctX2_checkRef l D cI cZ q p1 h1) gX2_ref_X2_checkRef rfl rfl rfl hdX2_checkRef ⟨Nat.le_of_ble_eq_true rfl, Nat.le_of_ble_eq_true rfl⟩ gEM_true trivial hP hK hS hA rfl hl.1 rfl (Nat.le_of_ble_eq_true rfl) dX2_ref_7 ⟨Nat.zero_le _, Nat.zero_le _⟩ (fun H locs hP hS => ?_)
  refine W.eq (g2 := F0 m 10 ls []) rfl ?_
  refine lv_aload_n hx hb dX2_ref_10 rfl (lv_at hl 0 rfl) ?_
  refine lv_iload_n hx hb dX2_ref_11 rfl (lv_at hl 3 rfl) ?_
  refine g_callV (As := [.int p1]) (rest := []) hx hb hml hown hts (ctX1_commitOfRef_1 l D cI cZ q u p1) gX2_ref_X1_commitOfRef rfl rfl rfl hdX1_commitOfRef ⟨Nat.le_of_ble_eq_true rfl, Nat.le_of_ble_eq_true rfl⟩ XG_em hE hP hK hD hS hA 3 rfl rfl rfl hl.1 rfl (Nat.le_of_ble_eq_true rfl) dX2_ref_12 ⟨Nat.zero_le _, Nat.zero_le _⟩ (fun H locs hP hD hS => ?_)
  have hP : va_P D vwCl (XW cI cZ q u) H := hP
  have hD : va_D A (XW cI cZ q u) := hD
  refine W.eq (g2 := F0 m 15 ls [.int (xRefOf (u.1 8) p1)]) rfl ?_
  refine g_iret (u1 := u) hx hb hret hlk hQ hP hD hS dX2_ref_15 ?_ ?_
  · exact rfl
  · exact rfl
abbrev rmX2_collect_1 : Room := { frames := 4, cells := 0, slots := 0, locals := 96 }
set_option maxHeartbeats 4000000 in
set_option maxRecDepth 100000 in
theorem ctX2_collect_1 (l : Launch) (D : va_G) (cI cZ : ClassId) (q : Nat → Nat) (u : SX) (n : Nat) (hn : u.1 15 0 = nI n) (h60 : n ≤ 60) (p0 : Int32) (hs : p0 = 1) : gM l yX2_collect wsX2_collect rmX2_collect_1 D [(cI, .int), (cZ, .boolean)] (XW cI cZ q) XG [.ref (q 0), .int p0] u (some (.int (xBits ((u.2 1) &&& ((xAnc n (u.1 0) (u.1 1) (xRefs (u.1 8)) (u.2 1)) ^^^ (-1)))))) (gL (gS (gS u 4 (xFiles n (u.1 2) (xAnc n (u.1 0) (u.1 1) (xRefs (u.1 8)) (u.2 1)) (u.1 4))) 7 (xKeep (xFiles n (u.1 2) (xAnc n (u.1 0) (u.1 1) (xRefs (u.1 8)) (u.2 1)) (u.1 4)) (u.1 7))) 1 (xAnc n (u.1 0) (u.1 1) (xRefs (u.1 8)) (u.2 1))) := by
  refine g_start (cc := cX2_collect) (maxL := 6) (ret := (some .int)) (by decide) rfl (Nat.le_of_ble_eq_true rfl) ?_
  intro p e s m below meth c A ls Q hx hb hml hret hts hown hlk hE hP hK hD hA hl hQ hS
  have hown : s.vm.findClass RX2 = some m.cls := hown
  have hl : lv_has ls 6 [(0, .ref (q 0)), (1, .int p0)] := hl
  refine lv_aload_n hx hb dX2_collect_0 rfl (lv_at hl 0 rfl) ?_
  refine lv_iload_n hx hb dX2_collect_1 rfl (lv_at hl 1 rfl) ?_
  refine g_callV (As := [.int p0]) (rest := []) hx hb hml hown hts (ctX2_storeOf_1 l D cI cZ q u p0 hs) gX2_collect_X2_storeOf rfl rfl rfl hdX2_storeOf ⟨Nat.le_of_ble_eq_true rfl, Nat.le_of_ble_eq_true rfl⟩ XG_em hE hP hK hD hS hA 0 rfl rfl rfl hl.1 rfl (Nat.le_of_ble_eq_true rfl) dX2_collect_2 ⟨Nat.zero_le _, Nat.zero_le _⟩ (fun H locs hP hD hS => ?_)
  have hP : va_P D vwCl (XW cI cZ q u) H := hP
  have hD : va_D A (XW cI cZ q u) := hD
  refine W.eq (g2 := F0 m 5 ls [.ref (q 3)]) rfl ?_
  refine lv_astore_n (lv' := [(2, .ref (q 3)), (0, .ref (q 0)), (1, .int p0)]) hx hb dX2_collect_5 rfl hl (by decide) rfl (fun ls hl => ?_)
  refine lv_aload_n hx hb dX2_collect_6 rfl (lv_at hl 1 rfl) ?_
  refine va_get (ci := 2) (v := .ref (q 1)) (C := RX2) (T := TX2) (N := 9) hx hb hts inX2_collect_RX2 hown hK hP 0 rfl rfl 0 (by decide) (hts _ lkX2_collect_10) (fun _ h9 => h9) rfl dX2_collect_7 ?_
  refine lv_aload_n hx hb dX2_collect_10 rfl (lv_at hl 0 rfl) ?_
  refine g_callV (As := []) (rest := [.ref (q 1)]) hx hb hml hown hts (ctX1_commitsOfRefs_1 l D cI cZ q u) gX2_collect_X1_commitsOfRefs rfl rfl rfl hdX1_commitsOfRefs ⟨Nat.le_of_ble_eq_true rfl, Nat.le_of_ble_eq_true rfl⟩ XG_em hE hP hK hD hS hA 3 rfl rfl rfl hl.1 rfl (Nat.le_of_ble_eq_true rfl) dX2_collect_11 ⟨Nat.zero_le _, Nat.zero_le _⟩ (fun H locs hP hD hS => ?_)
  have hP : va_P D vwCl (XW cI cZ q u) H := hP
  have hD : va_D A (XW cI cZ q u) := hD
  refine W.eq (g2 := F0 m 14 ls [.long (xRefs (u.1 8)), .ref (q 1)]) rfl ?_
  refine lv_aload_n hx hb dX2_collect_14 rfl (lv_at hl 0 rfl) ?_
  refine va_getN (host := "FetchHouse") (ci := 1) (v := .long (u.2 1)) (C := RX1) (T := TX1) (N := 3) hx hb hts inX2_collect_RX1 hown hK hP 3 rfl rfl 0 (by decide) (va_Nw.use rfl (hE.1 _ (List.mem_of_getElem? (i := 0) rfl))) (fun _ h9 => h9) rfl dX2_collect_15 ?_
  refine g_callV (As := [.long (xRefs (u.1 8)), .long (u.2 1)]) (rest := []) hx hb hml hown hts (ctX0_ancestorsOf l D cI cZ q u n hn h60 (xRefs (u.1 8)) (u.2 1)) gX2_collect_X0_ancestorsOf rfl rfl rfl hdX0_ancestorsOf ⟨Nat.le_of_ble_eq_true rfl, Nat.le_of_ble_eq_true rfl⟩ XG_em hE hP hK hD hS hA 1 rfl rfl rfl hl.1 rfl (Nat.le_of_ble_eq_true rfl) dX2_collect_18 ⟨Nat.zero_le _, Nat.zero_le _⟩ (fun H locs hP hD hS => ?_)
  have hP : va_P D vwCl (XW cI cZ q u) H := hP
  have hD : va_D A (XW cI cZ q u) := hD
  refine W.eq (g2 := F0 m 21 ls [.long (xAnc n (u.1 0) (u.1 1) (xRefs (u.1 8)) (u.2 1))]) rfl ?_
  refine lv_lstore_n (lv' := [(3, .long (xAnc n (u.1 0) (u.1 1) (xRefs (u.1 8)) (u.2 1))), (2, .ref (q 3)), (0, .ref (q 0)), (1, .int p0)]) hx hb dX2_collect_21 rfl hl (by decide) rfl (fun ls hl => ?_)
  refine lv_aload_n hx hb dX2_collect_22 rfl (lv_at hl 1 rfl) ?_
  refine va_getN (host := "FetchHouse") (ci := 1) (v := .long (u.2 1)) (C := RX1) (T := TX1) (N := 3) hx hb hts inX2_collect_RX1 hown hK hP 3 rfl rfl 0 (by decide) (va_Nw.use rfl (hE.1 _ (List.mem_of_getElem? (i := 0) rfl))) (fun _ h9 => h9) rfl dX2_collect_23 ?_
  refine lv_lload_n hx hb dX2_collect_26 rfl (lv_at hl 0 rfl) ?_
  refine lv_ldc2 (v := (-1)) hx hb hown (hts _ lkX2_collect_115) dX2_collect_27 ?_
  refine lv_lxor hx hb dX2_collect_30 ?_
  refine lv_land hx hb dX2_collect_31 ?_
  refine g_callS0 (As := [.long ((u.2 1) &&& ((xAnc n (u.1 0) (u.1 1) (xRefs (u.1 8)) (u.2 1)) ^^^ (-1)))]) (rest := []) hx hb hml hown hts (ctJ13_bitCount_95d88 l D cI cZ q ((u.2 1) &&& ((xAnc n (u.1 0) (u.1 1) (xRefs (u.1 8)) (u.2 1)) ^^^ (-1)))) gX2_collect_J13_bitCount_95d88 rfl rfl rfl hdJ13_bitCount_95d88 ⟨Nat.le_of_ble_eq_true rfl, Nat.le_of_ble_eq_true rfl⟩ gEM_true trivial hP hK hS hA rfl hl.1 rfl (Nat.le_of_ble_eq_true rfl) dX2_collect_32 ⟨Nat.zero_le _, Nat.zero_le _⟩ (fun H locs hP hS => ?_)
  refine W.eq (g2 := F0 m 35 ls [.int (xBits ((u.2 1) &&& ((xAnc n (u.1 0) (u.1 1) (xRefs (u.1 8)) (u.2 1)) ^^^ (-1))))]) rfl ?_
  refine lv_istore (lv' := [(5, .int (xBits ((u.2 1) &&& ((xAnc n (u.1 0) (u.1 1) (xRefs (u.1 8)) (u.2 1)) ^^^ (-1))))), (3, .long (xAnc n (u.1 0) (u.1 1) (xRefs (u.1 8)) (u.2 1))), (2, .ref (q 3)), (0, .ref (q 0)), (1, .int p0)]) hx hb dX2_collect_35 hl (by decide) rfl (fun ls hl => ?_)
  refine lv_aload_n hx hb dX2_collect_37 rfl (lv_at hl 2 rfl) ?_
  refine lv_lload_n hx hb dX2_collect_38 rfl (lv_at hl 1 rfl) ?_
  refine va_putN (host := "FetchHouse") (ci := 1) (v := .long (xAnc n (u.1 0) (u.1 1) (xRefs (u.1 8)) (u.2 1))) (ty := .long) (C := RX1) (T := TX1) (N := 3) hx hb hts inX2_collect_RX1 tyX1 tyX1_ok nmX1 hown hK hP hD hS 3 rfl rfl 0 (by decide) (va_Nw.use rfl (hE.1 _ (List.mem_of_getElem? (i := 0) rfl))) (fun _ h9 => h9) rfl (by decide +kernel) rfl rfl (Nat.le_of_ble_eq_true rfl) dX2_collect_39 (fun H locs hP hD hS => ?_)
  have hP : va_P D vwCl (XW cI cZ q (gL u 1 (xAnc n (u.1 0) (u.1 1) (xRefs (u.1 8)) (u.2 1)))) H := hP
  have hD : va_D A (XW cI cZ q (gL u 1 (xAnc n (u.1 0) (u.1 1) (xRefs (u.1 8)) (u.2 1)))) := hD
  refine lv_aload_n hx hb dX2_collect_42 rfl (lv_at hl 2 rfl) ?_
  refine lv_aload_n hx hb dX2_collect_43 rfl (lv_at hl 3 rfl) ?_
  refine va_get (ci := 2) (v := .ref (q 1)) (C := RX2) (T := TX2) (N := 9) hx hb hts inX2_collect_RX2 hown hK hP 0 rfl rfl 0 (by decide) (hts _ lkX2_collect_10) (fun _ h9 => h9) rfl dX2_collect_44 ?_
  refine lv_lload_n hx hb dX2_collect_47 rfl (lv_at hl 1 rfl) ?_
  refine g_callV (As := [.long (xAnc n (u.1 0) (u.1 1) (xRefs (u.1 8)) (u.2 1))]) (rest := [.ref (q 3)]) hx hb hml hown hts (ctX0_filesOf l D cI cZ q (gL u 1 (xAnc n (u.1 0) (u.1 1) (xRefs (u.1 8)) (u.2 1))) n hn h60 (xAnc n (u.1 0) (u.1 1) (xRefs (u.1 8)) (u.2 1))) gX2_collect_X0_filesOf rfl rfl rfl hdX0_filesOf ⟨Nat.le_of_ble_eq_true rfl, Nat.le_of_ble_eq_true rfl⟩ XG_em hE hP hK hD hS hA 1 rfl rfl rfl hl.1 rfl (Nat.le_of_ble_eq_true rfl) dX2_collect_48 ⟨Nat.zero_le _, Nat.zero_le _⟩ (fun H locs hP hD hS => ?_)
  have hP : va_P D vwCl (XW cI cZ q (gL (gS u 4 (xFiles n (u.1 2) (xAnc n (u.1 0) (u.1 1) (xRefs (u.1 8)) (u.2 1)) (u.1 4))) 1 (xAnc n (u.1 0) (u.1 1) (xRefs (u.1 8)) (u.2 1)))) H := hP
  have hD : va_D A (XW cI cZ q (gL (gS u 4 (xFiles n (u.1 2) (xAnc n (u.1 0) (u.1 1) (xRefs (u.1 8)) (u.2 1)) (u.1 4))) 1 (xAnc n (u.1 0) (u.1 1) (xRefs (u.1 8)) (u.2 1)))) := hD
  refine W.eq (g2 := F0 m 51 ls [.ref (q 8), .ref (q 3)]) rfl ?_
  refine g_callV (As := [.ref (q 8)]) (rest := []) hx hb hml hown hts (ctX1_keepOnlyFiles_1 l D cI cZ q (gL (gS u 4 (xFiles n (u.1 2) (xAnc n (u.1 0) (u.1 1) (xRefs (u.1 8)) (u.2 1)) (u.1 4))) 1 (xAnc n (u.1 0) (u.1 1) (xRefs (u.1 8)) (u.2 1)))) gX2_collect_X1_keepOnlyFiles rfl rfl rfl hdX1_keepOnlyFiles ⟨Nat.le_of_ble_eq_true rfl, Nat.le_of_ble_eq_true rfl⟩ XG_em hE hP hK hD hS hA 3 rfl rfl rfl hl.1 rfl (Nat.le_of_ble_eq_true rfl) dX2_collect_51 ⟨Nat.zero_le _, Nat.zero_le _⟩ (fun H locs hP hD hS => ?_)
  have hP : va_P D vwCl (XW cI cZ q (gL (gS (gS u 4 (xFiles n (u.1 2) (xAnc n (u.1 0) (u.1 1) (xRefs (u.1 8)) (u.2 1)) (u.1 4))) 7 (xKeep (xFiles n (u.1 2) (xAnc n (u.1 0) (u.1 1) (xRefs (u.1 8)) (u.2 1)) (u.1 4)) (u.1 7))) 1 (xAnc n (u.1 0) (u.1 1) (xRefs (u.1 8)) (u.2 1)))) H := hP
  have hD : va_D A (XW cI cZ q (gL (gS (gS u 4 (xFiles n (u.1 2) (xAnc n (u.1 0) (u.1 1) (xRefs (u.1 8)) (u.2 1)) (u.1 4))) 7 (xKeep (xFiles n (u.1 2) (xAnc n (u.1 0) (u.1 1) (xRefs (u.1 8)) (u.2 1)) (u.1 4)) (u.1 7))) 1 (xAnc n (u.1 0) (u.1 1) (xRefs (u.1 8)) (u.2 1)))) := hD
  refine W.eq (g2 := F0 m 54 ls []) rfl ?_
  refine lv_iload hx hb dX2_collect_54 (lv_at hl 0 rfl) ?_
  refine g_iret (u1 := (gL (gS (gS u 4 (xFiles n (u.1 2) (xAnc n (u.1 0) (u.1 1) (xRefs (u.1 8)) (u.2 1)) (u.1 4))) 7 (xKeep (xFiles n (u.1 2) (xAnc n (u.1 0) (u.1 1) (xRefs (u.1 8)) (u.2 1)) (u.1 4)) (u.1 7))) 1 (xAnc n (u.1 0) (u.1 1) (xRefs (u.1 8)) (u.2 1)))) hx hb hret hlk hQ hP hD hS dX2_collect_56 ?_ ?_
  · exact rfl
  · exact rfl
abbrev rmX2_has_1 : Room := { frames := 2, cells := 0, slots := 0, locals := 42 }
set_option maxHeartbeats 4000000 in
set_option maxRecDepth 100000 in
theorem ctX2_has_1 (l : Launch) (D : va_G) (cI cZ : ClassId) (q : Nat → Nat) (u : SX) (n : Nat) (hn : u.1 15 0 = nI n) (h60 : n ≤ 60) (p0 p1 : Int32) (hs : p0 = 1) (h1 : ¬ xRange p1 (nI n) = 0) : gM l yX2_has wsX2_has rmX2_has_1 D [(cI, .int), (cZ, .boolean)] (XW cI cZ q) XG [.ref (q 0), .int p0, .int p1] u (some (.int (xCon (u.2 1) p1))) u := by
  refine g_start (cc := cX2_has) (maxL := 4) (ret := (some .boolean)) (by decide) rfl (Nat.le_of_ble_eq_true rfl) ?_
  intro p e s m below meth c A ls Q hx hb hml hret hts hown hlk hE hP hK hD hA hl hQ hS
  have hown : s.vm.findClass RX2 = some m.cls := hown
  have hl : lv_has ls 4 [(0, .ref (q 0)), (1, .int p0), (2, .int p1)] := hl
  refine lv_aload_n hx hb dX2_has_0 rfl (lv_at hl 0 rfl) ?_
  refine lv_iload_n hx hb dX2_has_1 rfl (lv_at hl 1 rfl) ?_
  refine g_callV (As := [.int p0]) (rest := []) hx hb hml hown hts (ctX2_storeOf_1 l D cI cZ q u p0 hs) gX2_has_X2_storeOf rfl rfl rfl hdX2_storeOf ⟨Nat.le_of_ble_eq_true rfl, Nat.le_of_ble_eq_true rfl⟩ XG_em hE hP hK hD hS hA 0 rfl rfl rfl hl.1 rfl (Nat.le_of_ble_eq_true rfl) dX2_has_2 ⟨Nat.zero_le _, Nat.zero_le _⟩ (fun H locs hP hD hS => ?_)
  have hP : va_P D vwCl (XW cI cZ q u) H := hP
  have hD : va_D A (XW cI cZ q u) := hD
  refine W.eq (g2 := F0 m 5 ls [.ref (q 3)]) rfl ?_
  refine lv_astore_n (lv' := [(3, .ref (q 3)), (0, .ref (q 0)), (1, .int p0), (2, .int p1)]) hx hb dX2_has_5 rfl hl (by decide) rfl (fun ls hl => ?_)
  refine lv_aload_n hx hb dX2_has_6 rfl (lv_at hl 1 rfl) ?_
  refine lv_iload_n hx hb dX2_has_7 rfl (lv_at hl 3 rfl) ?_
  refine g_callV (As := [.int p1]) (rest := []) hx hb hml hown hts (ctX2_checkCommit l D cI cZ q u n hn h60 p1 h1) gX2_has_X2_checkCommit rfl rfl rfl hdX2_checkCommit ⟨Nat.le_of_ble_eq_true rfl, Nat.le_of_ble_eq_true rfl⟩ XG_em hE hP hK hD hS hA 0 rfl rfl rfl hl.1 rfl (Nat.le_of_ble_eq_true rfl) dX2_has_8 ⟨Nat.zero_le _, Nat.zero_le _⟩ (fun H locs hP hD hS => ?_)
  have hP : va_P D vwCl (XW cI cZ q u) H := hP
  have hD : va_D A (XW cI cZ q u) := hD
  refine W.eq (g2 := F0 m 11 ls []) rfl ?_
  refine lv_aload_n hx hb dX2_has_11 rfl (lv_at hl 0 rfl) ?_
  refine va_getN (host := "FetchHouse") (ci := 1) (v := .long (u.2 1)) (C := RX1) (T := TX1) (N := 3) hx hb hts inX2_has_RX1 hown hK hP 3 rfl rfl 0 (by decide) (va_Nw.use rfl (hE.1 _ (List.mem_of_getElem? (i := 0) rfl))) (fun _ h9 => h9) rfl dX2_has_12 ?_
  refine lv_iload_n hx hb dX2_has_15 rfl (lv_at hl 3 rfl) ?_
  refine g_callS0 (As := [.long (u.2 1), .int p1]) (rest := []) hx hb hml hown hts (ctX2_contains l D cI cZ q (u.2 1) p1) gX2_has_X2_contains rfl rfl rfl hdX2_contains ⟨Nat.le_of_ble_eq_true rfl, Nat.le_of_ble_eq_true rfl⟩ gEM_true trivial hP hK hS hA rfl hl.1 rfl (Nat.le_of_ble_eq_true rfl) dX2_has_16 ⟨Nat.zero_le _, Nat.zero_le _⟩ (fun H locs hP hS => ?_)
  refine W.eq (g2 := F0 m 19 ls [.int (xCon (u.2 1) p1)]) rfl ?_
  refine g_zret (u1 := u) hx hb hret hlk hQ hP hD hS dX2_has_19 ?_ ?_ ?_
  · exact g_nar01 _ (xCon_01 _ _)
  · exact rfl
  · exact rfl
abbrev rmX2_hasFile_1 : Room := { frames := 2, cells := 0, slots := 0, locals := 41 }
set_option maxHeartbeats 4000000 in
set_option maxRecDepth 100000 in
theorem ctX2_hasFile_1 (l : Launch) (D : va_G) (cI cZ : ClassId) (q : Nat → Nat) (u : SX) (p0 p1 : Int32) (hs : p0 = 1) (h1 : ¬ xRange p1 100 = 0) : gM l yX2_hasFile wsX2_hasFile rmX2_hasFile_1 D [(cI, .int), (cZ, .boolean)] (XW cI cZ q) XG [.ref (q 0), .int p0, .int p1] u (some (.int (xHas (u.1 7) p1))) u := by
  refine g_start (cc := cX2_hasFile) (maxL := 4) (ret := (some .boolean)) (by decide) rfl (Nat.le_of_ble_eq_true rfl) ?_
  intro p e s m below meth c A ls Q hx hb hml hret hts hown hlk hE hP hK hD hA hl hQ hS
  have hown : s.vm.findClass RX2 = some m.cls := hown
  have hl : lv_has ls 4 [(0, .ref (q 0)), (1, .int p0), (2, .int p1)] := hl
  refine lv_aload_n hx hb dX2_hasFile_0 rfl (lv_at hl 0 rfl) ?_
  refine lv_iload_n hx hb dX2_hasFile_1 rfl (lv_at hl 1 rfl) ?_
  refine g_callV (As := [.int p0]) (rest := []) hx hb hml hown hts (ctX2_storeOf_1 l D cI cZ q u p0 hs) gX2_hasFile_X2_storeOf rfl rfl rfl hdX2_storeOf ⟨Nat.le_of_ble_eq_true rfl, Nat.le_of_ble_eq_true rfl⟩ XG_em hE hP hK hD hS hA 0 rfl rfl rfl hl.1 rfl (Nat.le_of_ble_eq_true rfl) dX2_hasFile_2 ⟨Nat.zero_le _, Nat.zero_le _⟩ (fun H locs hP hD hS => ?_)
  have hP : va_P D vwCl (XW cI cZ q u) H := hP
  have hD : va_D A (XW cI cZ q u) := hD
  refine W.eq (g2 := F0 m 5 ls [.ref (q 3)]) rfl ?_
  refine lv_astore_n (lv' := [(3, .ref (q 3)), (0, .ref (q 0)), (1, .int p0), (2, .int p1)]) hx hb dX2_hasFile_5 rfl hl (by decide) rfl (fun ls hl => ?_)
  refine lv_iload_n hx hb dX2_hasFile_6 rfl (lv_at hl 3 rfl) ?_
  refine g_callS0 (As := [.int p1]) (rest := []) hx hb hml hown hts (ctX2_checkFile l D cI cZ q p1 h1) gX2_hasFile_X2_checkFile rfl rfl rfl hdX2_checkFile ⟨Nat.le_of_ble_eq_true rfl, Nat.le_of_ble_eq_true rfl⟩ gEM_true trivial hP hK hS hA rfl hl.1 rfl (Nat.le_of_ble_eq_true rfl) dX2_hasFile_7 ⟨Nat.zero_le _, Nat.zero_le _⟩ (fun H locs hP hS => ?_)
  refine W.eq (g2 := F0 m 10 ls []) rfl ?_
  refine lv_aload_n hx hb dX2_hasFile_10 rfl (lv_at hl 0 rfl) ?_
  refine lv_iload_n hx hb dX2_hasFile_11 rfl (lv_at hl 3 rfl) ?_
  refine g_callV (As := [.int p1]) (rest := []) hx hb hml hown hts (ctX1_holdsFile_1 l D cI cZ q u p1) gX2_hasFile_X1_holdsFile rfl rfl rfl hdX1_holdsFile ⟨Nat.le_of_ble_eq_true rfl, Nat.le_of_ble_eq_true rfl⟩ XG_em hE hP hK hD hS hA 3 rfl rfl rfl hl.1 rfl (Nat.le_of_ble_eq_true rfl) dX2_hasFile_12 ⟨Nat.zero_le _, Nat.zero_le _⟩ (fun H locs hP hD hS => ?_)
  have hP : va_P D vwCl (XW cI cZ q u) H := hP
  have hD : va_D A (XW cI cZ q u) := hD
  refine W.eq (g2 := F0 m 15 ls [.int (xHas (u.1 7) p1)]) rfl ?_
  refine g_zret (u1 := u) hx hb hret hlk hQ hP hD hS dX2_hasFile_15 ?_ ?_ ?_
  · exact g_nar01 _ (xHas_01 _ _)
  · exact rfl
  · exact rfl
abbrev rmX2_isAncestor_1 : Room := { frames := 4, cells := 0, slots := 0, locals := 96 }
set_option maxHeartbeats 4000000 in
set_option maxRecDepth 100000 in
theorem ctX2_isAncestor_1 (l : Launch) (D : va_G) (cI cZ : ClassId) (q : Nat → Nat) (u : SX) (n : Nat) (hn : u.1 15 0 = nI n) (h60 : n ≤ 60) (p0 p1 p2 : Int32) (hs : p0 = 1) (h1 : ¬ xRange p1 (nI n) = 0) (h2 : ¬ xRange p2 (nI n) = 0) : gM l yX2_isAncestor wsX2_isAncestor rmX2_isAncestor_1 D [(cI, .int), (cZ, .boolean)] (XW cI cZ q) XG [.ref (q 0), .int p0, .int p1, .int p2] u (some (.int (xCon (xAnc n (u.1 0) (u.1 1) (xSet p2) (u.2 1)) p1))) u := by
  refine g_start (cc := cX2_isAncestor) (maxL := 5) (ret := (some .boolean)) (by decide) rfl (Nat.le_of_ble_eq_true rfl) ?_
  intro p e s m below meth c A ls Q hx hb hml hret hts hown hlk hE hP hK hD hA hl hQ hS
  have hown : s.vm.findClass RX2 = some m.cls := hown
  have hl : lv_has ls 5 [(0, .ref (q 0)), (1, .int p0), (2, .int p1), (3, .int p2)] := hl
  refine lv_aload_n hx hb dX2_isAncestor_0 rfl (lv_at hl 0 rfl) ?_
  refine lv_iload_n hx hb dX2_isAncestor_1 rfl (lv_at hl 1 rfl) ?_
  refine g_callV (As := [.int p0]) (rest := []) hx hb hml hown hts (ctX2_storeOf_1 l D cI cZ q u p0 hs) gX2_isAncestor_X2_storeOf rfl rfl rfl hdX2_storeOf ⟨Nat.le_of_ble_eq_true rfl, Nat.le_of_ble_eq_true rfl⟩ XG_em hE hP hK hD hS hA 0 rfl rfl rfl hl.1 rfl (Nat.le_of_ble_eq_true rfl) dX2_isAncestor_2 ⟨Nat.zero_le _, Nat.zero_le _⟩ (fun H locs hP hD hS => ?_)
  have hP : va_P D vwCl (XW cI cZ q u) H := hP
  have hD : va_D A (XW cI cZ q u) := hD
  refine W.eq (g2 := F0 m 5 ls [.ref (q 3)]) rfl ?_
  refine lv_astore (lv' := [(4, .ref (q 3)), (0, .ref (q 0)), (1, .int p0), (2, .int p1), (3, .int p2)]) hx hb dX2_isAncestor_5 hl (by decide) rfl (fun ls hl => ?_)
  refine lv_aload_n hx hb dX2_isAncestor_7 rfl (lv_at hl 1 rfl) ?_
  refine lv_iload_n hx hb dX2_isAncestor_8 rfl (lv_at hl 3 rfl) ?_
  refine g_callV (As := [.int p1]) (rest := []) hx hb hml hown hts (ctX2_checkCommit l D cI cZ q u n hn h60 p1 h1) gX2_isAncestor_X2_checkCommit rfl rfl rfl hdX2_checkCommit ⟨Nat.le_of_ble_eq_true rfl, Nat.le_of_ble_eq_true rfl⟩ XG_em hE hP hK hD hS hA 0 rfl rfl rfl hl.1 rfl (Nat.le_of_ble_eq_true rfl) dX2_isAncestor_9 ⟨Nat.zero_le _, Nat.zero_le _⟩ (fun H locs hP hD hS => ?_)
  have hP : va_P D vwCl (XW cI cZ q u) H := hP
  have hD : va_D A (XW cI cZ q u) := hD
  refine W.eq (g2 := F0 m 12 ls []) rfl ?_
  refine lv_aload_n hx hb dX2_isAncestor_12 rfl (lv_at hl 1 rfl) ?_
  refine lv_iload_n hx hb dX2_isAncestor_13 rfl (lv_at hl 4 rfl) ?_
  refine g_callV (As := [.int p2]) (rest := []) hx hb hml hown hts (ctX2_checkCommit l D cI cZ q u n hn h60 p2 h2) gX2_isAncestor_X2_checkCommit rfl rfl rfl hdX2_checkCommit ⟨Nat.le_of_ble_eq_true rfl, Nat.le_of_ble_eq_true rfl⟩ XG_em hE hP hK hD hS hA 0 rfl rfl rfl hl.1 rfl (Nat.le_of_ble_eq_true rfl) dX2_isAncestor_14 ⟨Nat.zero_le _, Nat.zero_le _⟩ (fun H locs hP hD hS => ?_)
  have hP : va_P D vwCl (XW cI cZ q u) H := hP
  have hD : va_D A (XW cI cZ q u) := hD
  refine W.eq (g2 := F0 m 17 ls []) rfl ?_
  refine lv_aload_n hx hb dX2_isAncestor_17 rfl (lv_at hl 1 rfl) ?_
  refine va_get (ci := 2) (v := .ref (q 1)) (C := RX2) (T := TX2) (N := 9) hx hb hts inX2_isAncestor_RX2 hown hK hP 0 rfl rfl 0 (by decide) (hts _ lkX2_isAncestor_10) (fun _ h9 => h9) rfl dX2_isAncestor_18 ?_
  refine lv_iload_n hx hb dX2_isAncestor_21 rfl (lv_at hl 4 rfl) ?_
  refine g_callS0 (As := [.int p2]) (rest := [.ref (q 1)]) hx hb hml hown hts (ctX2_setOf l D cI cZ q p2) gX2_isAncestor_X2_setOf rfl rfl rfl hdX2_setOf ⟨Nat.le_of_ble_eq_true rfl, Nat.le_of_ble_eq_true rfl⟩ gEM_true trivial hP hK hS hA rfl hl.1 rfl (Nat.le_of_ble_eq_true rfl) dX2_isAncestor_22 ⟨Nat.zero_le _, Nat.zero_le _⟩ (fun H locs hP hS => ?_)
  refine W.eq (g2 := F0 m 25 ls [.long (xSet p2), .ref (q 1)]) rfl ?_
  refine lv_aload hx hb dX2_isAncestor_25 (lv_at hl 0 rfl) ?_
  refine va_getN (host := "FetchHouse") (ci := 1) (v := .long (u.2 1)) (C := RX1) (T := TX1) (N := 3) hx hb hts inX2_isAncestor_RX1 hown hK hP 3 rfl rfl 0 (by decide) (va_Nw.use rfl (hE.1 _ (List.mem_of_getElem? (i := 0) rfl))) (fun _ h9 => h9) rfl dX2_isAncestor_27 ?_
  refine g_callV (As := [.long (xSet p2), .long (u.2 1)]) (rest := []) hx hb hml hown hts (ctX0_ancestorsOf l D cI cZ q u n hn h60 (xSet p2) (u.2 1)) gX2_isAncestor_X0_ancestorsOf rfl rfl rfl hdX0_ancestorsOf ⟨Nat.le_of_ble_eq_true rfl, Nat.le_of_ble_eq_true rfl⟩ XG_em hE hP hK hD hS hA 1 rfl rfl rfl hl.1 rfl (Nat.le_of_ble_eq_true rfl) dX2_isAncestor_30 ⟨Nat.zero_le _, Nat.zero_le _⟩ (fun H locs hP hD hS => ?_)
  have hP : va_P D vwCl (XW cI cZ q u) H := hP
  have hD : va_D A (XW cI cZ q u) := hD
  refine W.eq (g2 := F0 m 33 ls [.long (xAnc n (u.1 0) (u.1 1) (xSet p2) (u.2 1))]) rfl ?_
  refine lv_iload_n hx hb dX2_isAncestor_33 rfl (lv_at hl 3 rfl) ?_
  refine g_callS0 (As := [.long (xAnc n (u.1 0) (u.1 1) (xSet p2) (u.2 1)), .int p1]) (rest := []) hx hb hml hown hts (ctX2_contains l D cI cZ q (xAnc n (u.1 0) (u.1 1) (xSet p2) (u.2 1)) p1) gX2_isAncestor_X2_contains rfl rfl rfl hdX2_contains ⟨Nat.le_of_ble_eq_true rfl, Nat.le_of_ble_eq_true rfl⟩ gEM_true trivial hP hK hS hA rfl hl.1 rfl (Nat.le_of_ble_eq_true rfl) dX2_isAncestor_34 ⟨Nat.zero_le _, Nat.zero_le _⟩ (fun H locs hP hS => ?_)
  refine W.eq (g2 := F0 m 37 ls [.int (xCon (xAnc n (u.1 0) (u.1 1) (xSet p2) (u.2 1)) p1)]) rfl ?_
  refine g_zret (u1 := u) hx hb hret hlk hQ hP hD hS dX2_isAncestor_37 ?_ ?_ ?_
  · exact g_nar01 _ (xCon_01 _ _)
  · exact rfl
  · exact rfl
theorem lkX2_fileAt_10 : Cond.fieldLink RX2 10 "FetchHouse" "history" "LFetchHouse$History;" ∈ wsX2_fileAt := List.mem_of_getElem? (i := 1) (by decide +kernel)
theorem inX2_fileAt_RX2 : ∀ w ∈ u_ws RX2 TX2 9, w ∈ wsX2_fileAt := fun w h => List.mem_cons_of_mem _ (List.mem_append_left _ (List.mem_append_left _ (List.mem_append_right _ h)))
theorem inX2_fileAt_RX0 : ∀ w ∈ u_ws RX0 TX0 6, w ∈ wsX2_fileAt := fun w h => List.mem_cons_of_mem _ (List.mem_append_left _ (List.mem_append_right _ h))
abbrev rmX2_fileAt : Room := { frames := 2, cells := 0, slots := 0, locals := 43 }
set_option maxHeartbeats 4000000 in
set_option maxRecDepth 100000 in
theorem ctX2_fileAt (l : Launch) (D : va_G) (cI cZ : ClassId) (q : Nat → Nat) (u : SX) (n : Nat) (hn : u.1 15 0 = nI n) (h60 : n ≤ 60) (p0 p1 : Int32) (h1 : ¬ xRange p0 (nI n) = 0) (h2 : ¬ xRange p1 4 = 0) : gM l yX2_fileAt wsX2_fileAt rmX2_fileAt D [(cI, .int), (cZ, .boolean)] (XW cI cZ q) XG [.ref (q 0), .int p0, .int p1] u (some (.int (xFileIn n (u.1 2) p0 p1))) u := by
  refine g_start (cc := cX2_fileAt) (maxL := 3) (ret := (some .int)) (by decide) rfl (Nat.le_of_ble_eq_true rfl) ?_
  intro p e s m below meth c A ls Q hx hb hml hret hts hown hlk hE hP hK hD hA hl hQ hS
  have hown : s.vm.findClass RX2 = some m.cls := hown
  have hl : lv_has ls 3 [(0, .ref (q 0)), (1, .int p0), (2, .int p1)] := hl
  refine lv_aload_n hx hb dX2_fileAt_0 rfl (lv_at hl 0 rfl) ?_
  refine lv_iload_n hx hb dX2_fileAt_1 rfl (lv_at hl 1 rfl) ?_
  refine g_callV (As := [.int p0]) (rest := []) hx hb hml hown hts (ctX2_checkCommit l D cI cZ q u n hn h60 p0 h1) gX2_fileAt_X2_checkCommit rfl rfl rfl hdX2_checkCommit ⟨Nat.le_of_ble_eq_true rfl, Nat.le_of_ble_eq_true rfl⟩ XG_em hE hP hK hD hS hA 0 rfl rfl rfl hl.1 rfl (Nat.le_of_ble_eq_true rfl) dX2_fileAt_2 ⟨Nat.zero_le _, Nat.zero_le _⟩ (fun H locs hP hD hS => ?_)
  have hP : va_P D vwCl (XW cI cZ q u) H := hP
  have hD : va_D A (XW cI cZ q u) := hD
  refine W.eq (g2 := F0 m 5 ls []) rfl ?_
  refine lv_iload_n hx hb dX2_fileAt_5 rfl (lv_at hl 2 rfl) ?_
  refine g_callS0 (As := [.int p1]) (rest := []) hx hb hml hown hts (ctX2_checkSlot l D cI cZ q p1 h2) gX2_fileAt_X2_checkSlot rfl rfl rfl hdX2_checkSlot ⟨Nat.le_of_ble_eq_true rfl, Nat.le_of_ble_eq_true rfl⟩ gEM_true trivial hP hK hS hA rfl hl.1 rfl (Nat.le_of_ble_eq_true rfl) dX2_fileAt_6 ⟨Nat.zero_le _, Nat.zero_le _⟩ (fun H locs hP hS => ?_)
  refine W.eq (g2 := F0 m 9 ls []) rfl ?_
  refine lv_aload_n hx hb dX2_fileAt_9 rfl (lv_at hl 0 rfl) ?_
  refine va_get (ci := 2) (v := .ref (q 1)) (C := RX2) (T := TX2) (N := 9) hx hb hts inX2_fileAt_RX2 hown hK hP 0 rfl rfl 0 (by decide) (hts _ lkX2_fileAt_10) (fun _ h9 => h9) rfl dX2_fileAt_10 ?_
  refine lv_iload_n hx hb dX2_fileAt_13 rfl (lv_at hl 1 rfl) ?_
  refine lv_iload_n hx hb dX2_fileAt_14 rfl (lv_at hl 2 rfl) ?_
  refine g_callV (As := [.int p0, .int p1]) (rest := []) hx hb hml hown hts (ctX0_fileIn l D cI cZ q u n hn h60 p0 p1) gX2_fileAt_X0_fileIn rfl rfl rfl hdX0_fileIn ⟨Nat.le_of_ble_eq_true rfl, Nat.le_of_ble_eq_true rfl⟩ XG_em hE hP hK hD hS hA 1 rfl rfl rfl hl.1 rfl (Nat.le_of_ble_eq_true rfl) dX2_fileAt_15 ⟨Nat.zero_le _, Nat.zero_le _⟩ (fun H locs hP hD hS => ?_)
  have hP : va_P D vwCl (XW cI cZ q u) H := hP
  have hD : va_D A (XW cI cZ q u) := hD
  refine W.eq (g2 := F0 m 18 ls [.int (xFileIn n (u.1 2) p0 p1)]) rfl ?_
  refine g_iret (u1 := u) hx hb hret hlk hQ hP hD hS dX2_fileAt_18 ?_ ?_
  · exact rfl
  · exact rfl
theorem lkX2_fetch_10 : Cond.fieldLink RX2 10 "FetchHouse" "history" "LFetchHouse$History;" ∈ wsX2_fetch := List.mem_of_getElem? (i := 1) (by decide +kernel)
theorem lkX2_fetch_115 : Cond.constantLong RX2 115 (-1) ∈ wsX2_fetch := List.mem_of_getElem? (i := 2) (by decide +kernel)
theorem lkX2_fetch_19 : Cond.fieldLink RX2 19 "FetchHouse" "server" "LFetchHouse$Store;" ∈ wsX2_fetch := List.mem_of_getElem? (i := 4) (by decide +kernel)
theorem lkX2_fetch_23 : Cond.fieldLink RX2 23 "FetchHouse" "client" "LFetchHouse$Store;" ∈ wsX2_fetch := List.mem_of_getElem? (i := 3) (by decide +kernel)
theorem inX2_fetch_RX2 : ∀ w ∈ u_ws RX2 TX2 9, w ∈ wsX2_fetch := fun w h => List.mem_cons_of_mem _ (List.mem_append_left _ (List.mem_append_left _ (List.mem_append_left _ (List.mem_append_left _ (List.mem_append_left _ (List.mem_append_right _ h))))))
theorem inX2_fetch_RX1 : ∀ w ∈ u_ws RX1 TX1 3, w ∈ wsX2_fetch := fun w h => List.mem_cons_of_mem _ (List.mem_append_left _ (List.mem_append_left _ (List.mem_append_left _ (List.mem_append_left _ (List.mem_append_right _ h)))))
theorem inX2_fetch_RX0 : ∀ w ∈ u_ws RX0 TX0 6, w ∈ wsX2_fetch := fun w h => List.mem_cons_of_mem _ (List.mem_append_left _ (List.mem_append_left _ (List.mem_append_left _ (List.mem_append_right _ h))))
abbrev rmX2_fetch : Room := { frames := 5, cells := 0, slots := 0, locals := 123 }
set_option maxHeartbeats 4000000 in
set_option maxRecDepth 100000 in
theorem ctX2_fetch (l : Launch) (D : va_G) (cI cZ : ClassId) (q : Nat → Nat) (u : SX) (n : Nat) (hn : u.1 15 0 = nI n) (h60 : n ≤ 60) (p0 p1 p2 : Int32) (h1 : ¬ xRange p0 4 = 0) (h2 : ¬ p1 < 0) (h3 : p1 ≤ 60) (h4 : ¬ xRefOf (u.1 6) p0 = -1) : gM l yX2_fetch wsX2_fetch rmX2_fetch D [(cI, .int), (cZ, .boolean)] (XW cI cZ q) XG [.ref (q 0), .int p0, .int p1, .int p2] u (some (.int (xBits ((xReach n (u.1 0) (u.1 1) (u.1 3) (xRefOf (u.1 6) p0) p1).1 &&& ((xTalk n (u.1 0) (u.1 1) (u.2 0) (u.2 1)).1 ^^^ (-1)))))) (gL (gS (gS (gS (gS (gS u 3 (xReach n (u.1 0) (u.1 1) (u.1 3) (xRefOf (u.1 6) p0) p1).2) 4 (if p2 = 0 then (u.1 4) else (xFiles n (u.1 2) ((xReach n (u.1 0) (u.1 1) (u.1 3) (xRefOf (u.1 6) p0) p1).1 &&& ((xTalk n (u.1 0) (u.1 1) (u.2 0) (u.2 1)).1 ^^^ (-1))) (u.1 4)))) 7 (if p2 = 0 then (u.1 7) else (xAddFs (xFiles n (u.1 2) ((xReach n (u.1 0) (u.1 1) (u.1 3) (xRefOf (u.1 6) p0) p1).1 &&& ((xTalk n (u.1 0) (u.1 1) (u.2 0) (u.2 1)).1 ^^^ (-1))) (u.1 4)) (u.1 5) (u.1 7)))) 8 (xPoint (u.1 8) p0 (xRefOf (u.1 6) p0))) 14 (fun _ => (nI (xTalk n (u.1 0) (u.1 1) (u.2 0) (u.2 1)).2))) 1 ((u.2 1) ||| ((xReach n (u.1 0) (u.1 1) (u.1 3) (xRefOf (u.1 6) p0) p1).1 &&& ((xTalk n (u.1 0) (u.1 1) (u.2 0) (u.2 1)).1 ^^^ (-1))))) := by
  refine g_start (cc := cX2_fetch) (maxL := 9) (ret := (some .int)) (by decide) rfl (Nat.le_of_ble_eq_true rfl) ?_
  intro p e s m below meth c A ls Q hx hb hml hret hts hown hlk hE hP hK hD hA hl hQ hS
  have hown : s.vm.findClass RX2 = some m.cls := hown
  have hl : lv_has ls 9 [(0, .ref (q 0)), (1, .int p0), (2, .int p1), (3, .int p2)] := hl
  refine lv_aload_n hx hb dX2_fetch_0 rfl (lv_at hl 0 rfl) ?_
  refine lv_iload_n hx hb dX2_fetch_1 rfl (lv_at hl 1 rfl) ?_
  refine lv_iload_n hx hb dX2_fetch_2 rfl (lv_at hl 2 rfl) ?_
  refine g_callV (As := [.int p0, .int p1]) (rest := []) hx hb hml hown hts (ctX2_commitToFetch l D cI cZ q u p0 p1 h1 h2 h3 h4) gX2_fetch_X2_commitToFetch rfl rfl rfl hdX2_commitToFetch ⟨Nat.le_of_ble_eq_true rfl, Nat.le_of_ble_eq_true rfl⟩ XG_em hE hP hK hD hS hA 0 rfl rfl rfl hl.1 rfl (Nat.le_of_ble_eq_true rfl) dX2_fetch_3 ⟨Nat.zero_le _, Nat.zero_le _⟩ (fun H locs hP hD hS => ?_)
  have hP : va_P D vwCl (XW cI cZ q u) H := hP
  have hD : va_D A (XW cI cZ q u) := hD
  refine W.eq (g2 := F0 m 6 ls [.int (xRefOf (u.1 6) p0)]) rfl ?_
  refine lv_istore (lv' := [(4, .int (xRefOf (u.1 6) p0)), (0, .ref (q 0)), (1, .int p0), (2, .int p1), (3, .int p2)]) hx hb dX2_fetch_6 hl (by decide) rfl (fun ls hl => ?_)
  refine lv_aload_n hx hb dX2_fetch_8 rfl (lv_at hl 1 rfl) ?_
  refine g_callV (As := []) (rest := []) hx hb hml hown hts (ctX2_talk l D cI cZ q u n hn h60) gX2_fetch_X2_talk rfl rfl rfl hdX2_talk ⟨Nat.le_of_ble_eq_true rfl, Nat.le_of_ble_eq_true rfl⟩ XG_em hE hP hK hD hS hA 0 rfl rfl rfl hl.1 rfl (Nat.le_of_ble_eq_true rfl) dX2_fetch_9 ⟨Nat.zero_le _, Nat.zero_le _⟩ (fun H locs hP hD hS => ?_)
  have hP : va_P D vwCl (XW cI cZ q (gS u 14 (fun _ => (nI (xTalk n (u.1 0) (u.1 1) (u.2 0) (u.2 1)).2)))) H := hP
  have hD : va_D A (XW cI cZ q (gS u 14 (fun _ => (nI (xTalk n (u.1 0) (u.1 1) (u.2 0) (u.2 1)).2)))) := hD
  refine W.eq (g2 := F0 m 12 ls [.long (xTalk n (u.1 0) (u.1 1) (u.2 0) (u.2 1)).1]) rfl ?_
  refine lv_lstore (lv' := [(5, .long (xTalk n (u.1 0) (u.1 1) (u.2 0) (u.2 1)).1), (4, .int (xRefOf (u.1 6) p0)), (0, .ref (q 0)), (1, .int p0), (2, .int p1), (3, .int p2)]) hx hb dX2_fetch_12 hl (by decide) rfl (fun ls hl => ?_)
  refine lv_aload_n hx hb dX2_fetch_14 rfl (lv_at hl 2 rfl) ?_
  refine va_get (ci := 2) (v := .ref (q 1)) (C := RX2) (T := TX2) (N := 9) hx hb hts inX2_fetch_RX2 hown hK hP 0 rfl rfl 0 (by decide) (hts _ lkX2_fetch_10) (fun _ h9 => h9) rfl dX2_fetch_15 ?_
  refine lv_iload hx hb dX2_fetch_18 (lv_at hl 1 rfl) ?_
  refine lv_iload_n hx hb dX2_fetch_20 rfl (lv_at hl 4 rfl) ?_
  refine g_callV (As := [.int (xRefOf (u.1 6) p0), .int p1]) (rest := []) hx hb hml hown hts (ctX0_reachOf l D cI cZ q (gS u 14 (fun _ => (nI (xTalk n (u.1 0) (u.1 1) (u.2 0) (u.2 1)).2))) n hn h60 (xRefOf (u.1 6) p0) p1) gX2_fetch_X0_reachOf rfl rfl rfl hdX0_reachOf ⟨Nat.le_of_ble_eq_true rfl, Nat.le_of_ble_eq_true rfl⟩ XG_em hE hP hK hD hS hA 1 rfl rfl rfl hl.1 rfl (Nat.le_of_ble_eq_true rfl) dX2_fetch_21 ⟨Nat.zero_le _, Nat.zero_le _⟩ (fun H locs hP hD hS => ?_)
  have hP : va_P D vwCl (XW cI cZ q (gS (gS u 3 (xReach n (u.1 0) (u.1 1) (u.1 3) (xRefOf (u.1 6) p0) p1).2) 14 (fun _ => (nI (xTalk n (u.1 0) (u.1 1) (u.2 0) (u.2 1)).2)))) H := hP
  have hD : va_D A (XW cI cZ q (gS (gS u 3 (xReach n (u.1 0) (u.1 1) (u.1 3) (xRefOf (u.1 6) p0) p1).2) 14 (fun _ => (nI (xTalk n (u.1 0) (u.1 1) (u.2 0) (u.2 1)).2)))) := hD
  refine W.eq (g2 := F0 m 24 ls [.long (xReach n (u.1 0) (u.1 1) (u.1 3) (xRefOf (u.1 6) p0) p1).1]) rfl ?_
  refine lv_lload hx hb dX2_fetch_24 (lv_at hl 0 rfl) ?_
  refine lv_ldc2 (v := (-1)) hx hb hown (hts _ lkX2_fetch_115) dX2_fetch_26 ?_
  refine lv_lxor hx hb dX2_fetch_29 ?_
  refine lv_land hx hb dX2_fetch_30 ?_
  refine lv_lstore (lv' := [(7, .long ((xReach n (u.1 0) (u.1 1) (u.1 3) (xRefOf (u.1 6) p0) p1).1 &&& ((xTalk n (u.1 0) (u.1 1) (u.2 0) (u.2 1)).1 ^^^ (-1)))), (5, .long (xTalk n (u.1 0) (u.1 1) (u.2 0) (u.2 1)).1), (4, .int (xRefOf (u.1 6) p0)), (0, .ref (q 0)), (1, .int p0), (2, .int p1), (3, .int p2)]) hx hb dX2_fetch_31 hl (by decide) rfl (fun ls hl => ?_)
  refine lv_aload_n hx hb dX2_fetch_33 rfl (lv_at hl 3 rfl) ?_
  refine va_get (ci := 2) (v := .ref (q 3)) (C := RX2) (T := TX2) (N := 9) hx hb hts inX2_fetch_RX2 hown hK hP 0 rfl rfl 2 (by decide) (hts _ lkX2_fetch_23) (fun _ h9 => h9) rfl dX2_fetch_34 ?_
  refine lv_dup hx hb dX2_fetch_37 rfl ?_
  refine va_getN (host := "FetchHouse") (ci := 1) (v := .long (u.2 1)) (C := RX1) (T := TX1) (N := 3) hx hb hts inX2_fetch_RX1 hown hK hP 3 rfl rfl 0 (by decide) (va_Nw.use rfl (hE.1 _ (List.mem_of_getElem? (i := 0) rfl))) (fun _ h9 => h9) rfl dX2_fetch_38 ?_
  refine lv_lload hx hb dX2_fetch_41 (lv_at hl 0 rfl) ?_
  refine lv_lor hx hb dX2_fetch_43 ?_
  refine va_putN (host := "FetchHouse") (ci := 1) (v := .long ((u.2 1) ||| ((xReach n (u.1 0) (u.1 1) (u.1 3) (xRefOf (u.1 6) p0) p1).1 &&& ((xTalk n (u.1 0) (u.1 1) (u.2 0) (u.2 1)).1 ^^^ (-1))))) (ty := .long) (C := RX1) (T := TX1) (N := 3) hx hb hts inX2_fetch_RX1 tyX1 tyX1_ok nmX1 hown hK hP hD hS 3 rfl rfl 0 (by decide) (va_Nw.use rfl (hE.1 _ (List.mem_of_getElem? (i := 0) rfl))) (fun _ h9 => h9) rfl (by decide +kernel) rfl rfl (Nat.le_of_ble_eq_true rfl) dX2_fetch_44 (fun H locs hP hD hS => ?_)
  have hP : va_P D vwCl (XW cI cZ q (gL (gS (gS u 3 (xReach n (u.1 0) (u.1 1) (u.1 3) (xRefOf (u.1 6) p0) p1).2) 14 (fun _ => (nI (xTalk n (u.1 0) (u.1 1) (u.2 0) (u.2 1)).2))) 1 ((u.2 1) ||| ((xReach n (u.1 0) (u.1 1) (u.1 3) (xRefOf (u.1 6) p0) p1).1 &&& ((xTalk n (u.1 0) (u.1 1) (u.2 0) (u.2 1)).1 ^^^ (-1)))))) H := hP
  have hD : va_D A (XW cI cZ q (gL (gS (gS u 3 (xReach n (u.1 0) (u.1 1) (u.1 3) (xRefOf (u.1 6) p0) p1).2) 14 (fun _ => (nI (xTalk n (u.1 0) (u.1 1) (u.2 0) (u.2 1)).2))) 1 ((u.2 1) ||| ((xReach n (u.1 0) (u.1 1) (u.1 3) (xRefOf (u.1 6) p0) p1).1 &&& ((xTalk n (u.1 0) (u.1 1) (u.2 0) (u.2 1)).1 ^^^ (-1)))))) := hD
  refine lv_iload_n hx hb dX2_fetch_47 rfl (lv_at hl 6 rfl) ?_
  refine lv_if_eq (tgt := 71) hx hb dX2_fetch_48 (by decide) (fun c_48 => ?_) (fun c_48 => ?_)
  · refine lv_aload_n hx hb dX2_fetch_71 rfl (lv_at hl 3 rfl) ?_
    refine va_get (ci := 2) (v := .ref (q 3)) (C := RX2) (T := TX2) (N := 9) hx hb hts inX2_fetch_RX2 hown hK hP 0 rfl rfl 2 (by decide) (hts _ lkX2_fetch_23) (fun _ h9 => h9) rfl dX2_fetch_72 ?_
    refine lv_iload_n hx hb dX2_fetch_75 rfl (lv_at hl 4 rfl) ?_
    refine lv_iload hx hb dX2_fetch_76 (lv_at hl 2 rfl) ?_
    refine g_callV (As := [.int p0, .int (xRefOf (u.1 6) p0)]) (rest := []) hx hb hml hown hts (ctX1_pointRef_1 l D cI cZ q (gL (gS (gS u 3 (xReach n (u.1 0) (u.1 1) (u.1 3) (xRefOf (u.1 6) p0) p1).2) 14 (fun _ => (nI (xTalk n (u.1 0) (u.1 1) (u.2 0) (u.2 1)).2))) 1 ((u.2 1) ||| ((xReach n (u.1 0) (u.1 1) (u.1 3) (xRefOf (u.1 6) p0) p1).1 &&& ((xTalk n (u.1 0) (u.1 1) (u.2 0) (u.2 1)).1 ^^^ (-1))))) p0 (xRefOf (u.1 6) p0)) gX2_fetch_X1_pointRef rfl rfl rfl hdX1_pointRef ⟨Nat.le_of_ble_eq_true rfl, Nat.le_of_ble_eq_true rfl⟩ XG_em hE hP hK hD hS hA 3 rfl rfl rfl hl.1 rfl (Nat.le_of_ble_eq_true rfl) dX2_fetch_78 ⟨Nat.zero_le _, Nat.zero_le _⟩ (fun H locs hP hD hS => ?_)
    have hP : va_P D vwCl (XW cI cZ q (gL (gS (gS (gS u 3 (xReach n (u.1 0) (u.1 1) (u.1 3) (xRefOf (u.1 6) p0) p1).2) 8 (xPoint (u.1 8) p0 (xRefOf (u.1 6) p0))) 14 (fun _ => (nI (xTalk n (u.1 0) (u.1 1) (u.2 0) (u.2 1)).2))) 1 ((u.2 1) ||| ((xReach n (u.1 0) (u.1 1) (u.1 3) (xRefOf (u.1 6) p0) p1).1 &&& ((xTalk n (u.1 0) (u.1 1) (u.2 0) (u.2 1)).1 ^^^ (-1)))))) H := hP
    have hD : va_D A (XW cI cZ q (gL (gS (gS (gS u 3 (xReach n (u.1 0) (u.1 1) (u.1 3) (xRefOf (u.1 6) p0) p1).2) 8 (xPoint (u.1 8) p0 (xRefOf (u.1 6) p0))) 14 (fun _ => (nI (xTalk n (u.1 0) (u.1 1) (u.2 0) (u.2 1)).2))) 1 ((u.2 1) ||| ((xReach n (u.1 0) (u.1 1) (u.1 3) (xRefOf (u.1 6) p0) p1).1 &&& ((xTalk n (u.1 0) (u.1 1) (u.2 0) (u.2 1)).1 ^^^ (-1)))))) := hD
    refine W.eq (g2 := F0 m 81 ls []) rfl ?_
    refine lv_lload hx hb dX2_fetch_81 (lv_at hl 0 rfl) ?_
    refine g_callS0 (As := [.long ((xReach n (u.1 0) (u.1 1) (u.1 3) (xRefOf (u.1 6) p0) p1).1 &&& ((xTalk n (u.1 0) (u.1 1) (u.2 0) (u.2 1)).1 ^^^ (-1)))]) (rest := []) hx hb hml hown hts (ctJ13_bitCount_95d88 l D cI cZ q ((xReach n (u.1 0) (u.1 1) (u.1 3) (xRefOf (u.1 6) p0) p1).1 &&& ((xTalk n (u.1 0) (u.1 1) (u.2 0) (u.2 1)).1 ^^^ (-1)))) gX2_fetch_J13_bitCount_95d88 rfl rfl rfl hdJ13_bitCount_95d88 ⟨Nat.le_of_ble_eq_true rfl, Nat.le_of_ble_eq_true rfl⟩ gEM_true trivial hP hK hS hA rfl hl.1 rfl (Nat.le_of_ble_eq_true rfl) dX2_fetch_83 ⟨Nat.zero_le _, Nat.zero_le _⟩ (fun H locs hP hS => ?_)
    refine W.eq (g2 := F0 m 86 ls [.int (xBits ((xReach n (u.1 0) (u.1 1) (u.1 3) (xRefOf (u.1 6) p0) p1).1 &&& ((xTalk n (u.1 0) (u.1 1) (u.2 0) (u.2 1)).1 ^^^ (-1))))]) rfl ?_
    refine g_iret (u1 := (gL (gS (gS (gS u 3 (xReach n (u.1 0) (u.1 1) (u.1 3) (xRefOf (u.1 6) p0) p1).2) 8 (xPoint (u.1 8) p0 (xRefOf (u.1 6) p0))) 14 (fun _ => (nI (xTalk n (u.1 0) (u.1 1) (u.2 0) (u.2 1)).2))) 1 ((u.2 1) ||| ((xReach n (u.1 0) (u.1 1) (u.1 3) (xRefOf (u.1 6) p0) p1).1 &&& ((xTalk n (u.1 0) (u.1 1) (u.2 0) (u.2 1)).1 ^^^ (-1)))))) hx hb hret hlk hQ hP hD hS dX2_fetch_86 ?_ ?_
    · exact rfl
    · exact (by simp only [c_48, ↓reduceIte] <;> rfl)
  · refine lv_aload_n hx hb dX2_fetch_51 rfl (lv_at hl 3 rfl) ?_
    refine va_get (ci := 2) (v := .ref (q 3)) (C := RX2) (T := TX2) (N := 9) hx hb hts inX2_fetch_RX2 hown hK hP 0 rfl rfl 2 (by decide) (hts _ lkX2_fetch_23) (fun _ h9 => h9) rfl dX2_fetch_52 ?_
    refine lv_aload_n hx hb dX2_fetch_55 rfl (lv_at hl 3 rfl) ?_
    refine va_get (ci := 2) (v := .ref (q 1)) (C := RX2) (T := TX2) (N := 9) hx hb hts inX2_fetch_RX2 hown hK hP 0 rfl rfl 0 (by decide) (hts _ lkX2_fetch_10) (fun _ h9 => h9) rfl dX2_fetch_56 ?_
    refine lv_lload hx hb dX2_fetch_59 (lv_at hl 0 rfl) ?_
    refine g_callV (As := [.long ((xReach n (u.1 0) (u.1 1) (u.1 3) (xRefOf (u.1 6) p0) p1).1 &&& ((xTalk n (u.1 0) (u.1 1) (u.2 0) (u.2 1)).1 ^^^ (-1)))]) (rest := [.ref (q 3)]) hx hb hml hown hts (ctX0_filesOf l D cI cZ q (gL (gS (gS u 3 (xReach n (u.1 0) (u.1 1) (u.1 3) (xRefOf (u.1 6) p0) p1).2) 14 (fun _ => (nI (xTalk n (u.1 0) (u.1 1) (u.2 0) (u.2 1)).2))) 1 ((u.2 1) ||| ((xReach n (u.1 0) (u.1 1) (u.1 3) (xRefOf (u.1 6) p0) p1).1 &&& ((xTalk n (u.1 0) (u.1 1) (u.2 0) (u.2 1)).1 ^^^ (-1))))) n hn h60 ((xReach n (u.1 0) (u.1 1) (u.1 3) (xRefOf (u.1 6) p0) p1).1 &&& ((xTalk n (u.1 0) (u.1 1) (u.2 0) (u.2 1)).1 ^^^ (-1)))) gX2_fetch_X0_filesOf rfl rfl rfl hdX0_filesOf ⟨Nat.le_of_ble_eq_true rfl, Nat.le_of_ble_eq_true rfl⟩ XG_em hE hP hK hD hS hA 1 rfl rfl rfl hl.1 rfl (Nat.le_of_ble_eq_true rfl) dX2_fetch_61 ⟨Nat.zero_le _, Nat.zero_le _⟩ (fun H locs hP hD hS => ?_)
    have hP : va_P D vwCl (XW cI cZ q (gL (gS (gS (gS u 3 (xReach n (u.1 0) (u.1 1) (u.1 3) (xRefOf (u.1 6) p0) p1).2) 4 (xFiles n (u.1 2) ((xReach n (u.1 0) (u.1 1) (u.1 3) (xRefOf (u.1 6) p0) p1).1 &&& ((xTalk n (u.1 0) (u.1 1) (u.2 0) (u.2 1)).1 ^^^ (-1))) (u.1 4))) 14 (fun _ => (nI (xTalk n (u.1 0) (u.1 1) (u.2 0) (u.2 1)).2))) 1 ((u.2 1) ||| ((xReach n (u.1 0) (u.1 1) (u.1 3) (xRefOf (u.1 6) p0) p1).1 &&& ((xTalk n (u.1 0) (u.1 1) (u.2 0) (u.2 1)).1 ^^^ (-1)))))) H := hP
    have hD : va_D A (XW cI cZ q (gL (gS (gS (gS u 3 (xReach n (u.1 0) (u.1 1) (u.1 3) (xRefOf (u.1 6) p0) p1).2) 4 (xFiles n (u.1 2) ((xReach n (u.1 0) (u.1 1) (u.1 3) (xRefOf (u.1 6) p0) p1).1 &&& ((xTalk n (u.1 0) (u.1 1) (u.2 0) (u.2 1)).1 ^^^ (-1))) (u.1 4))) 14 (fun _ => (nI (xTalk n (u.1 0) (u.1 1) (u.2 0) (u.2 1)).2))) 1 ((u.2 1) ||| ((xReach n (u.1 0) (u.1 1) (u.1 3) (xRefOf (u.1 6) p0) p1).1 &&& ((xTalk n (u.1 0) (u.1 1) (u.2 0) (u.2 1)).1 ^^^ (-1)))))) := hD
    refine W.eq (g2 := F0 m 64 ls [.ref (q 8), .ref (q 3)]) rfl ?_
    refine lv_aload_n hx hb dX2_fetch_64 rfl (lv_at hl 3 rfl) ?_
    refine va_get (ci := 2) (v := .ref (q 2)) (C := RX2) (T := TX2) (N := 9) hx hb hts inX2_fetch_RX2 hown hK hP 0 rfl rfl 1 (by decide) (hts _ lkX2_fetch_19) (fun _ h9 => h9) rfl dX2_fetch_65 ?_
    refine g_callV (As := [.ref (q 8), .ref (q 2)]) (rest := []) hx hb hml hown hts (ctX1_addFiles_1 l D cI cZ q (gL (gS (gS (gS u 3 (xReach n (u.1 0) (u.1 1) (u.1 3) (xRefOf (u.1 6) p0) p1).2) 4 (xFiles n (u.1 2) ((xReach n (u.1 0) (u.1 1) (u.1 3) (xRefOf (u.1 6) p0) p1).1 &&& ((xTalk n (u.1 0) (u.1 1) (u.2 0) (u.2 1)).1 ^^^ (-1))) (u.1 4))) 14 (fun _ => (nI (xTalk n (u.1 0) (u.1 1) (u.2 0) (u.2 1)).2))) 1 ((u.2 1) ||| ((xReach n (u.1 0) (u.1 1) (u.1 3) (xRefOf (u.1 6) p0) p1).1 &&& ((xTalk n (u.1 0) (u.1 1) (u.2 0) (u.2 1)).1 ^^^ (-1)))))) gX2_fetch_X1_addFiles rfl rfl rfl hdX1_addFiles ⟨Nat.le_of_ble_eq_true rfl, Nat.le_of_ble_eq_true rfl⟩ XG_em hE hP hK hD hS hA 3 rfl rfl rfl hl.1 rfl (Nat.le_of_ble_eq_true rfl) dX2_fetch_68 ⟨Nat.zero_le _, Nat.zero_le _⟩ (fun H locs hP hD hS => ?_)
    have hP : va_P D vwCl (XW cI cZ q (gL (gS (gS (gS (gS u 3 (xReach n (u.1 0) (u.1 1) (u.1 3) (xRefOf (u.1 6) p0) p1).2) 4 (xFiles n (u.1 2) ((xReach n (u.1 0) (u.1 1) (u.1 3) (xRefOf (u.1 6) p0) p1).1 &&& ((xTalk n (u.1 0) (u.1 1) (u.2 0) (u.2 1)).1 ^^^ (-1))) (u.1 4))) 7 (xAddFs (xFiles n (u.1 2) ((xReach n (u.1 0) (u.1 1) (u.1 3) (xRefOf (u.1 6) p0) p1).1 &&& ((xTalk n (u.1 0) (u.1 1) (u.2 0) (u.2 1)).1 ^^^ (-1))) (u.1 4)) (u.1 5) (u.1 7))) 14 (fun _ => (nI (xTalk n (u.1 0) (u.1 1) (u.2 0) (u.2 1)).2))) 1 ((u.2 1) ||| ((xReach n (u.1 0) (u.1 1) (u.1 3) (xRefOf (u.1 6) p0) p1).1 &&& ((xTalk n (u.1 0) (u.1 1) (u.2 0) (u.2 1)).1 ^^^ (-1)))))) H := hP
    have hD : va_D A (XW cI cZ q (gL (gS (gS (gS (gS u 3 (xReach n (u.1 0) (u.1 1) (u.1 3) (xRefOf (u.1 6) p0) p1).2) 4 (xFiles n (u.1 2) ((xReach n (u.1 0) (u.1 1) (u.1 3) (xRefOf (u.1 6) p0) p1).1 &&& ((xTalk n (u.1 0) (u.1 1) (u.2 0) (u.2 1)).1 ^^^ (-1))) (u.1 4))) 7 (xAddFs (xFiles n (u.1 2) ((xReach n (u.1 0) (u.1 1) (u.1 3) (xRefOf (u.1 6) p0) p1).1 &&& ((xTalk n (u.1 0) (u.1 1) (u.2 0) (u.2 1)).1 ^^^ (-1))) (u.1 4)) (u.1 5) (u.1 7))) 14 (fun _ => (nI (xTalk n (u.1 0) (u.1 1) (u.2 0) (u.2 1)).2))) 1 ((u.2 1) ||| ((xReach n (u.1 0) (u.1 1) (u.1 3) (xRefOf (u.1 6) p0) p1).1 &&& ((xTalk n (u.1 0) (u.1 1) (u.2 0) (u.2 1)).1 ^^^ (-1)))))) := hD
    refine W.eq (g2 := F0 m 71 ls []) rfl ?_
    refine lv_aload_n hx hb dX2_fetch_71 rfl (lv_at hl 3 rfl) ?_
    refine va_get (ci := 2) (v := .ref (q 3)) (C := RX2) (T := TX2) (N := 9) hx hb hts inX2_fetch_RX2 hown hK hP 0 rfl rfl 2 (by decide) (hts _ lkX2_fetch_23) (fun _ h9 => h9) rfl dX2_fetch_72 ?_
    refine lv_iload_n hx hb dX2_fetch_75 rfl (lv_at hl 4 rfl) ?_
    refine lv_iload hx hb dX2_fetch_76 (lv_at hl 2 rfl) ?_
    refine g_callV (As := [.int p0, .int (xRefOf (u.1 6) p0)]) (rest := []) hx hb hml hown hts (ctX1_pointRef_1 l D cI cZ q (gL (gS (gS (gS (gS u 3 (xReach n (u.1 0) (u.1 1) (u.1 3) (xRefOf (u.1 6) p0) p1).2) 4 (xFiles n (u.1 2) ((xReach n (u.1 0) (u.1 1) (u.1 3) (xRefOf (u.1 6) p0) p1).1 &&& ((xTalk n (u.1 0) (u.1 1) (u.2 0) (u.2 1)).1 ^^^ (-1))) (u.1 4))) 7 (xAddFs (xFiles n (u.1 2) ((xReach n (u.1 0) (u.1 1) (u.1 3) (xRefOf (u.1 6) p0) p1).1 &&& ((xTalk n (u.1 0) (u.1 1) (u.2 0) (u.2 1)).1 ^^^ (-1))) (u.1 4)) (u.1 5) (u.1 7))) 14 (fun _ => (nI (xTalk n (u.1 0) (u.1 1) (u.2 0) (u.2 1)).2))) 1 ((u.2 1) ||| ((xReach n (u.1 0) (u.1 1) (u.1 3) (xRefOf (u.1 6) p0) p1).1 &&& ((xTalk n (u.1 0) (u.1 1) (u.2 0) (u.2 1)).1 ^^^ (-1))))) p0 (xRefOf (u.1 6) p0)) gX2_fetch_X1_pointRef rfl rfl rfl hdX1_pointRef ⟨Nat.le_of_ble_eq_true rfl, Nat.le_of_ble_eq_true rfl⟩ XG_em hE hP hK hD hS hA 3 rfl rfl rfl hl.1 rfl (Nat.le_of_ble_eq_true rfl) dX2_fetch_78 ⟨Nat.zero_le _, Nat.zero_le _⟩ (fun H locs hP hD hS => ?_)
    have hP : va_P D vwCl (XW cI cZ q (gL (gS (gS (gS (gS (gS u 3 (xReach n (u.1 0) (u.1 1) (u.1 3) (xRefOf (u.1 6) p0) p1).2) 4 (xFiles n (u.1 2) ((xReach n (u.1 0) (u.1 1) (u.1 3) (xRefOf (u.1 6) p0) p1).1 &&& ((xTalk n (u.1 0) (u.1 1) (u.2 0) (u.2 1)).1 ^^^ (-1))) (u.1 4))) 7 (xAddFs (xFiles n (u.1 2) ((xReach n (u.1 0) (u.1 1) (u.1 3) (xRefOf (u.1 6) p0) p1).1 &&& ((xTalk n (u.1 0) (u.1 1) (u.2 0) (u.2 1)).1 ^^^ (-1))) (u.1 4)) (u.1 5) (u.1 7))) 8 (xPoint (u.1 8) p0 (xRefOf (u.1 6) p0))) 14 (fun _ => (nI (xTalk n (u.1 0) (u.1 1) (u.2 0) (u.2 1)).2))) 1 ((u.2 1) ||| ((xReach n (u.1 0) (u.1 1) (u.1 3) (xRefOf (u.1 6) p0) p1).1 &&& ((xTalk n (u.1 0) (u.1 1) (u.2 0) (u.2 1)).1 ^^^ (-1)))))) H := hP
    have hD : va_D A (XW cI cZ q (gL (gS (gS (gS (gS (gS u 3 (xReach n (u.1 0) (u.1 1) (u.1 3) (xRefOf (u.1 6) p0) p1).2) 4 (xFiles n (u.1 2) ((xReach n (u.1 0) (u.1 1) (u.1 3) (xRefOf (u.1 6) p0) p1).1 &&& ((xTalk n (u.1 0) (u.1 1) (u.2 0) (u.2 1)).1 ^^^ (-1))) (u.1 4))) 7 (xAddFs (xFiles n (u.1 2) ((xReach n (u.1 0) (u.1 1) (u.1 3) (xRefOf (u.1 6) p0) p1).1 &&& ((xTalk n (u.1 0) (u.1 1) (u.2 0) (u.2 1)).1 ^^^ (-1))) (u.1 4)) (u.1 5) (u.1 7))) 8 (xPoint (u.1 8) p0 (xRefOf (u.1 6) p0))) 14 (fun _ => (nI (xTalk n (u.1 0) (u.1 1) (u.2 0) (u.2 1)).2))) 1 ((u.2 1) ||| ((xReach n (u.1 0) (u.1 1) (u.1 3) (xRefOf (u.1 6) p0) p1).1 &&& ((xTalk n (u.1 0) (u.1 1) (u.2 0) (u.2 1)).1 ^^^ (-1)))))) := hD
    refine W.eq (g2 := F0 m 81 ls []) rfl ?_
    refine lv_lload hx hb dX2_fetch_81 (lv_at hl 0 rfl) ?_
    refine g_callS0 (As := [.long ((xReach n (u.1 0) (u.1 1) (u.1 3) (xRefOf (u.1 6) p0) p1).1 &&& ((xTalk n (u.1 0) (u.1 1) (u.2 0) (u.2 1)).1 ^^^ (-1)))]) (rest := []) hx hb hml hown hts (ctJ13_bitCount_95d88 l D cI cZ q ((xReach n (u.1 0) (u.1 1) (u.1 3) (xRefOf (u.1 6) p0) p1).1 &&& ((xTalk n (u.1 0) (u.1 1) (u.2 0) (u.2 1)).1 ^^^ (-1)))) gX2_fetch_J13_bitCount_95d88 rfl rfl rfl hdJ13_bitCount_95d88 ⟨Nat.le_of_ble_eq_true rfl, Nat.le_of_ble_eq_true rfl⟩ gEM_true trivial hP hK hS hA rfl hl.1 rfl (Nat.le_of_ble_eq_true rfl) dX2_fetch_83 ⟨Nat.zero_le _, Nat.zero_le _⟩ (fun H locs hP hS => ?_)
    refine W.eq (g2 := F0 m 86 ls [.int (xBits ((xReach n (u.1 0) (u.1 1) (u.1 3) (xRefOf (u.1 6) p0) p1).1 &&& ((xTalk n (u.1 0) (u.1 1) (u.2 0) (u.2 1)).1 ^^^ (-1))))]) rfl ?_
    refine g_iret (u1 := (gL (gS (gS (gS (gS (gS u 3 (xReach n (u.1 0) (u.1 1) (u.1 3) (xRefOf (u.1 6) p0) p1).2) 4 (xFiles n (u.1 2) ((xReach n (u.1 0) (u.1 1) (u.1 3) (xRefOf (u.1 6) p0) p1).1 &&& ((xTalk n (u.1 0) (u.1 1) (u.2 0) (u.2 1)).1 ^^^ (-1))) (u.1 4))) 7 (xAddFs (xFiles n (u.1 2) ((xReach n (u.1 0) (u.1 1) (u.1 3) (xRefOf (u.1 6) p0) p1).1 &&& ((xTalk n (u.1 0) (u.1 1) (u.2 0) (u.2 1)).1 ^^^ (-1))) (u.1 4)) (u.1 5) (u.1 7))) 8 (xPoint (u.1 8) p0 (xRefOf (u.1 6) p0))) 14 (fun _ => (nI (xTalk n (u.1 0) (u.1 1) (u.2 0) (u.2 1)).2))) 1 ((u.2 1) ||| ((xReach n (u.1 0) (u.1 1) (u.1 3) (xRefOf (u.1 6) p0) p1).1 &&& ((xTalk n (u.1 0) (u.1 1) (u.2 0) (u.2 1)).1 ^^^ (-1)))))) hx hb hret hlk hQ hP hD hS dX2_fetch_86 ?_ ?_
    · exact rfl
    · exact (by simp only [c_48, ↓reduceIte] <;> rfl)
theorem lkX2_wouldFetch_10 : Cond.fieldLink RX2 10 "FetchHouse" "history" "LFetchHouse$History;" ∈ wsX2_wouldFetch := List.mem_of_getElem? (i := 1) (by decide +kernel)
theorem lkX2_wouldFetch_115 : Cond.constantLong RX2 115 (-1) ∈ wsX2_wouldFetch := List.mem_of_getElem? (i := 3) (by decide +kernel)
theorem lkX2_wouldFetch_23 : Cond.fieldLink RX2 23 "FetchHouse" "client" "LFetchHouse$Store;" ∈ wsX2_wouldFetch := List.mem_of_getElem? (i := 2) (by decide +kernel)
theorem inX2_wouldFetch_RX2 : ∀ w ∈ u_ws RX2 TX2 9, w ∈ wsX2_wouldFetch := fun w h => List.mem_cons_of_mem _ (List.mem_append_left _ (List.mem_append_left _ (List.mem_append_left _ (List.mem_append_left _ (List.mem_append_left _ (List.mem_append_right _ h))))))
theorem inX2_wouldFetch_RX1 : ∀ w ∈ u_ws RX1 TX1 3, w ∈ wsX2_wouldFetch := fun w h => List.mem_cons_of_mem _ (List.mem_append_left _ (List.mem_append_left _ (List.mem_append_left _ (List.mem_append_left _ (List.mem_append_right _ h)))))
theorem inX2_wouldFetch_RX0 : ∀ w ∈ u_ws RX0 TX0 6, w ∈ wsX2_wouldFetch := fun w h => List.mem_cons_of_mem _ (List.mem_append_left _ (List.mem_append_left _ (List.mem_append_left _ (List.mem_append_right _ h))))
abbrev rmX2_wouldFetch : Room := { frames := 3, cells := 0, slots := 0, locals := 70 }
set_option maxHeartbeats 4000000 in
set_option maxRecDepth 100000 in
theorem ctX2_wouldFetch (l : Launch) (D : va_G) (cI cZ : ClassId) (q : Nat → Nat) (u : SX) (n : Nat) (hn : u.1 15 0 = nI n) (h60 : n ≤ 60) (p0 p1 : Int32) (h1 : ¬ xRange p0 4 = 0) (h2 : ¬ p1 < 0) (h3 : p1 ≤ 60) (h4 : ¬ xRefOf (u.1 6) p0 = -1) : gM l yX2_wouldFetch wsX2_wouldFetch rmX2_wouldFetch D [(cI, .int), (cZ, .boolean)] (XW cI cZ q) XG [.ref (q 0), .int p0, .int p1] u (some (.int (xBits ((xReach n (u.1 0) (u.1 1) (u.1 3) (xRefOf (u.1 6) p0) p1).1 &&& ((u.2 1) ^^^ (-1)))))) (gS u 3 (xReach n (u.1 0) (u.1 1) (u.1 3) (xRefOf (u.1 6) p0) p1).2) := by
  refine g_start (cc := cX2_wouldFetch) (maxL := 4) (ret := (some .int)) (by decide) rfl (Nat.le_of_ble_eq_true rfl) ?_
  intro p e s m below meth c A ls Q hx hb hml hret hts hown hlk hE hP hK hD hA hl hQ hS
  have hown : s.vm.findClass RX2 = some m.cls := hown
  have hl : lv_has ls 4 [(0, .ref (q 0)), (1, .int p0), (2, .int p1)] := hl
  refine lv_aload_n hx hb dX2_wouldFetch_0 rfl (lv_at hl 0 rfl) ?_
  refine lv_iload_n hx hb dX2_wouldFetch_1 rfl (lv_at hl 1 rfl) ?_
  refine lv_iload_n hx hb dX2_wouldFetch_2 rfl (lv_at hl 2 rfl) ?_
  refine g_callV (As := [.int p0, .int p1]) (rest := []) hx hb hml hown hts (ctX2_commitToFetch l D cI cZ q u p0 p1 h1 h2 h3 h4) gX2_wouldFetch_X2_commitToFetch rfl rfl rfl hdX2_commitToFetch ⟨Nat.le_of_ble_eq_true rfl, Nat.le_of_ble_eq_true rfl⟩ XG_em hE hP hK hD hS hA 0 rfl rfl rfl hl.1 rfl (Nat.le_of_ble_eq_true rfl) dX2_wouldFetch_3 ⟨Nat.zero_le _, Nat.zero_le _⟩ (fun H locs hP hD hS => ?_)
  have hP : va_P D vwCl (XW cI cZ q u) H := hP
  have hD : va_D A (XW cI cZ q u) := hD
  refine W.eq (g2 := F0 m 6 ls [.int (xRefOf (u.1 6) p0)]) rfl ?_
  refine lv_istore_n (lv' := [(3, .int (xRefOf (u.1 6) p0)), (0, .ref (q 0)), (1, .int p0), (2, .int p1)]) hx hb dX2_wouldFetch_6 rfl hl (by decide) rfl (fun ls hl => ?_)
  refine lv_aload_n hx hb dX2_wouldFetch_7 rfl (lv_at hl 1 rfl) ?_
  refine va_get (ci := 2) (v := .ref (q 1)) (C := RX2) (T := TX2) (N := 9) hx hb hts inX2_wouldFetch_RX2 hown hK hP 0 rfl rfl 0 (by decide) (hts _ lkX2_wouldFetch_10) (fun _ h9 => h9) rfl dX2_wouldFetch_8 ?_
  refine lv_iload_n hx hb dX2_wouldFetch_11 rfl (lv_at hl 0 rfl) ?_
  refine lv_iload_n hx hb dX2_wouldFetch_12 rfl (lv_at hl 3 rfl) ?_
  refine g_callV (As := [.int (xRefOf (u.1 6) p0), .int p1]) (rest := []) hx hb hml hown hts (ctX0_reachOf l D cI cZ q u n hn h60 (xRefOf (u.1 6) p0) p1) gX2_wouldFetch_X0_reachOf rfl rfl rfl hdX0_reachOf ⟨Nat.le_of_ble_eq_true rfl, Nat.le_of_ble_eq_true rfl⟩ XG_em hE hP hK hD hS hA 1 rfl rfl rfl hl.1 rfl (Nat.le_of_ble_eq_true rfl) dX2_wouldFetch_13 ⟨Nat.zero_le _, Nat.zero_le _⟩ (fun H locs hP hD hS => ?_)
  have hP : va_P D vwCl (XW cI cZ q (gS u 3 (xReach n (u.1 0) (u.1 1) (u.1 3) (xRefOf (u.1 6) p0) p1).2)) H := hP
  have hD : va_D A (XW cI cZ q (gS u 3 (xReach n (u.1 0) (u.1 1) (u.1 3) (xRefOf (u.1 6) p0) p1).2)) := hD
  refine W.eq (g2 := F0 m 16 ls [.long (xReach n (u.1 0) (u.1 1) (u.1 3) (xRefOf (u.1 6) p0) p1).1]) rfl ?_
  refine lv_aload_n hx hb dX2_wouldFetch_16 rfl (lv_at hl 1 rfl) ?_
  refine va_get (ci := 2) (v := .ref (q 3)) (C := RX2) (T := TX2) (N := 9) hx hb hts inX2_wouldFetch_RX2 hown hK hP 0 rfl rfl 2 (by decide) (hts _ lkX2_wouldFetch_23) (fun _ h9 => h9) rfl dX2_wouldFetch_17 ?_
  refine va_getN (host := "FetchHouse") (ci := 1) (v := .long (u.2 1)) (C := RX1) (T := TX1) (N := 3) hx hb hts inX2_wouldFetch_RX1 hown hK hP 3 rfl rfl 0 (by decide) (va_Nw.use rfl (hE.1 _ (List.mem_of_getElem? (i := 0) rfl))) (fun _ h9 => h9) rfl dX2_wouldFetch_20 ?_
  refine lv_ldc2 (v := (-1)) hx hb hown (hts _ lkX2_wouldFetch_115) dX2_wouldFetch_23 ?_
  refine lv_lxor hx hb dX2_wouldFetch_26 ?_
  refine lv_land hx hb dX2_wouldFetch_27 ?_
  refine g_callS0 (As := [.long ((xReach n (u.1 0) (u.1 1) (u.1 3) (xRefOf (u.1 6) p0) p1).1 &&& ((u.2 1) ^^^ (-1)))]) (rest := []) hx hb hml hown hts (ctJ13_bitCount_95d88 l D cI cZ q ((xReach n (u.1 0) (u.1 1) (u.1 3) (xRefOf (u.1 6) p0) p1).1 &&& ((u.2 1) ^^^ (-1)))) gX2_wouldFetch_J13_bitCount_95d88 rfl rfl rfl hdJ13_bitCount_95d88 ⟨Nat.le_of_ble_eq_true rfl, Nat.le_of_ble_eq_true rfl⟩ gEM_true trivial hP hK hS hA rfl hl.1 rfl (Nat.le_of_ble_eq_true rfl) dX2_wouldFetch_28 ⟨Nat.zero_le _, Nat.zero_le _⟩ (fun H locs hP hS => ?_)
  refine W.eq (g2 := F0 m 31 ls [.int (xBits ((xReach n (u.1 0) (u.1 1) (u.1 3) (xRefOf (u.1 6) p0) p1).1 &&& ((u.2 1) ^^^ (-1))))]) rfl ?_
  refine g_iret (u1 := (gS u 3 (xReach n (u.1 0) (u.1 1) (u.1 3) (xRefOf (u.1 6) p0) p1).2)) hx hb hret hlk hQ hP hD hS dX2_wouldFetch_31 ?_ ?_
  · exact rfl
  · exact rfl
theorem lkX2_rounds_131 : Cond.fieldLink RX2 131 "FetchHouse" "latestRounds" "I" ∈ wsX2_rounds := List.mem_of_getElem? (i := 1) (by decide +kernel)
theorem inX2_rounds_RX2 : ∀ w ∈ u_ws RX2 TX2 9, w ∈ wsX2_rounds := fun w h => List.mem_cons_of_mem _ (List.mem_append_right _ h)
abbrev rmX2_rounds : Room := { frames := 0, cells := 0, slots := 0, locals := 0 }
set_option maxHeartbeats 4000000 in
set_option maxRecDepth 100000 in
theorem ctX2_rounds (l : Launch) (D : va_G) (cI cZ : ClassId) (q : Nat → Nat) (u : SX)  : gM l yX2_rounds wsX2_rounds rmX2_rounds D [(cI, .int), (cZ, .boolean)] (XW cI cZ q) XG [.ref (q 0)] u (some (.int (u.1 14 0))) u := by
  refine g_start (cc := cX2_rounds) (maxL := 1) (ret := (some .int)) (by decide) rfl (Nat.le_of_ble_eq_true rfl) ?_
  intro p e s m below meth c A ls Q hx hb hml hret hts hown hlk hE hP hK hD hA hl hQ hS
  have hown : s.vm.findClass RX2 = some m.cls := hown
  have hl : lv_has ls 1 [(0, .ref (q 0))] := hl
  refine lv_aload_n hx hb dX2_rounds_0 rfl (lv_at hl 0 rfl) ?_
  refine va_get (ci := 2) (v := .int (u.1 14 0)) (C := RX2) (T := TX2) (N := 9) hx hb hts inX2_rounds_RX2 hown hK hP 0 rfl rfl 8 (by decide) (hts _ lkX2_rounds_131) (fun _ h9 => h9) rfl dX2_rounds_1 ?_
  refine g_iret (u1 := u) hx hb hret hlk hQ hP hD hS dX2_rounds_4 ?_ ?_
  · exact rfl
  · exact rfl
theorem lkX2_commits_10 : Cond.fieldLink RX2 10 "FetchHouse" "history" "LFetchHouse$History;" ∈ wsX2_commits := List.mem_of_getElem? (i := 1) (by decide +kernel)
theorem inX2_commits_RX2 : ∀ w ∈ u_ws RX2 TX2 9, w ∈ wsX2_commits := fun w h => List.mem_cons_of_mem _ (List.mem_append_left _ (List.mem_append_right _ h))
theorem inX2_commits_RX0 : ∀ w ∈ u_ws RX0 TX0 6, w ∈ wsX2_commits := fun w h => List.mem_cons_of_mem _ (List.mem_append_right _ h)
abbrev rmX2_commits : Room := { frames := 1, cells := 0, slots := 0, locals := 20 }
set_option maxHeartbeats 4000000 in
set_option maxRecDepth 100000 in
theorem ctX2_commits (l : Launch) (D : va_G) (cI cZ : ClassId) (q : Nat → Nat) (u : SX) (n : Nat) (hn : u.1 15 0 = nI n) (h60 : n ≤ 60) : gM l yX2_commits wsX2_commits rmX2_commits D [(cI, .int), (cZ, .boolean)] (XW cI cZ q) XG [.ref (q 0)] u (some (.int (nI n))) u := by
  refine g_start (cc := cX2_commits) (maxL := 1) (ret := (some .int)) (by decide) rfl (Nat.le_of_ble_eq_true rfl) ?_
  intro p e s m below meth c A ls Q hx hb hml hret hts hown hlk hE hP hK hD hA hl hQ hS
  have hown : s.vm.findClass RX2 = some m.cls := hown
  have hl : lv_has ls 1 [(0, .ref (q 0))] := hl
  refine lv_aload_n hx hb dX2_commits_0 rfl (lv_at hl 0 rfl) ?_
  refine va_get (ci := 2) (v := .ref (q 1)) (C := RX2) (T := TX2) (N := 9) hx hb hts inX2_commits_RX2 hown hK hP 0 rfl rfl 0 (by decide) (hts _ lkX2_commits_10) (fun _ h9 => h9) rfl dX2_commits_1 ?_
  refine g_callV (As := []) (rest := []) hx hb hml hown hts (ctX0_size l D cI cZ q u n hn h60) gX2_commits_X0_size rfl rfl rfl hdX0_size ⟨Nat.le_of_ble_eq_true rfl, Nat.le_of_ble_eq_true rfl⟩ XG_em hE hP hK hD hS hA 1 rfl rfl rfl hl.1 rfl (Nat.le_of_ble_eq_true rfl) dX2_commits_4 ⟨Nat.zero_le _, Nat.zero_le _⟩ (fun H locs hP hD hS => ?_)
  have hP : va_P D vwCl (XW cI cZ q u) H := hP
  have hD : va_D A (XW cI cZ q u) := hD
  refine W.eq (g2 := F0 m 7 ls [.int (nI n)]) rfl ?_
  refine g_iret (u1 := u) hx hb hret hlk hQ hP hD hS dX2_commits_7 ?_ ?_
  · exact rfl
  · exact rfl
theorem lkX2_load_19 : Cond.fieldLink RX2 19 "FetchHouse" "server" "LFetchHouse$Store;" ∈ wsX2_load := List.mem_of_getElem? (i := 3) (by decide +kernel)
theorem lkX2_load_23 : Cond.fieldLink RX2 23 "FetchHouse" "client" "LFetchHouse$Store;" ∈ wsX2_load := List.mem_of_getElem? (i := 4) (by decide +kernel)
theorem inX2_load_RX2 : ∀ w ∈ u_ws RX2 TX2 9, w ∈ wsX2_load := fun w h => List.mem_cons_of_mem _ (List.mem_append_left _ (List.mem_append_left _ (List.mem_append_left _ (List.mem_append_right _ h))))
theorem inX2_load_RX1 : ∀ w ∈ u_ws RX1 TX1 3, w ∈ wsX2_load := fun w h => List.mem_cons_of_mem _ (List.mem_append_left _ (List.mem_append_left _ (List.mem_append_right _ h)))
abbrev rmX2_load : Room := { frames := 2, cells := 0, slots := 0, locals := 41 }
set_option maxHeartbeats 4000000 in
set_option maxRecDepth 100000 in
theorem ctX2_load (l : Launch) (D : va_G) (cI cZ : ClassId) (q : Nat → Nat) (u : SX) (p0 : Int32) (h1 : ¬ xRange p0 100 = 0) (h2 : ¬ xHas (u.1 5) p0 = 0) : gM l yX2_load wsX2_load rmX2_load D [(cI, .int), (cZ, .boolean)] (XW cI cZ q) XG [.ref (q 0), .int p0] u (some (.int (if xHas (u.1 7) p0 = 0 then 1 else 0))) (gS u 7 (xAddF (u.1 7) p0)) := by
  refine g_start (cc := cX2_load) (maxL := 3) (ret := (some .boolean)) (by decide) rfl (Nat.le_of_ble_eq_true rfl) ?_
  intro p e s m below meth c A ls Q hx hb hml hret hts hown hlk hE hP hK hD hA hl hQ hS
  have hown : s.vm.findClass RX2 = some m.cls := hown
  have hl : lv_has ls 3 [(0, .ref (q 0)), (1, .int p0)] := hl
  refine lv_iload_n hx hb dX2_load_0 rfl (lv_at hl 1 rfl) ?_
  refine g_callS0 (As := [.int p0]) (rest := []) hx hb hml hown hts (ctX2_checkFile l D cI cZ q p0 h1) gX2_load_X2_checkFile rfl rfl rfl hdX2_checkFile ⟨Nat.le_of_ble_eq_true rfl, Nat.le_of_ble_eq_true rfl⟩ gEM_true trivial hP hK hS hA rfl hl.1 rfl (Nat.le_of_ble_eq_true rfl) dX2_load_1 ⟨Nat.zero_le _, Nat.zero_le _⟩ (fun H locs hP hS => ?_)
  refine W.eq (g2 := F0 m 4 ls []) rfl ?_
  refine lv_aload_n hx hb dX2_load_4 rfl (lv_at hl 0 rfl) ?_
  refine va_get (ci := 2) (v := .ref (q 2)) (C := RX2) (T := TX2) (N := 9) hx hb hts inX2_load_RX2 hown hK hP 0 rfl rfl 1 (by decide) (hts _ lkX2_load_19) (fun _ h9 => h9) rfl dX2_load_5 ?_
  refine lv_iload_n hx hb dX2_load_8 rfl (lv_at hl 1 rfl) ?_
  refine g_callV (As := [.int p0]) (rest := []) hx hb hml hown hts (ctX1_holdsFile_0 l D cI cZ q u p0) gX2_load_X1_holdsFile rfl rfl rfl hdX1_holdsFile ⟨Nat.le_of_ble_eq_true rfl, Nat.le_of_ble_eq_true rfl⟩ XG_em hE hP hK hD hS hA 2 rfl rfl rfl hl.1 rfl (Nat.le_of_ble_eq_true rfl) dX2_load_9 ⟨Nat.zero_le _, Nat.zero_le _⟩ (fun H locs hP hD hS => ?_)
  have hP : va_P D vwCl (XW cI cZ q u) H := hP
  have hD : va_D A (XW cI cZ q u) := hD
  refine W.eq (g2 := F0 m 12 ls [.int (xHas (u.1 5) p0)]) rfl ?_
  refine lv_if_ne (tgt := 25) hx hb dX2_load_12 (by decide) (fun c_12 => ?_) (fun c_12 => ?_)
  · refine lv_aload_n hx hb dX2_load_25 rfl (lv_at hl 0 rfl) ?_
    refine va_get (ci := 2) (v := .ref (q 3)) (C := RX2) (T := TX2) (N := 9) hx hb hts inX2_load_RX2 hown hK hP 0 rfl rfl 2 (by decide) (hts _ lkX2_load_23) (fun _ h9 => h9) rfl dX2_load_26 ?_
    refine lv_iload_n hx hb dX2_load_29 rfl (lv_at hl 1 rfl) ?_
    refine g_callV (As := [.int p0]) (rest := []) hx hb hml hown hts (ctX1_holdsFile_1 l D cI cZ q u p0) gX2_load_X1_holdsFile rfl rfl rfl hdX1_holdsFile ⟨Nat.le_of_ble_eq_true rfl, Nat.le_of_ble_eq_true rfl⟩ XG_em hE hP hK hD hS hA 3 rfl rfl rfl hl.1 rfl (Nat.le_of_ble_eq_true rfl) dX2_load_30 ⟨Nat.zero_le _, Nat.zero_le _⟩ (fun H locs hP hD hS => ?_)
    have hP : va_P D vwCl (XW cI cZ q u) H := hP
    have hD : va_D A (XW cI cZ q u) := hD
    refine W.eq (g2 := F0 m 33 ls [.int (xHas (u.1 7) p0)]) rfl ?_
    refine lv_if_ne (tgt := 40) hx hb dX2_load_33 (by decide) (fun c_33 => ?_) (fun c_33 => ?_)
    · refine lv_iconst (v := 0) hx hb dX2_load_40 (by decide +kernel) ?_
      refine lv_istore_n (lv' := [(2, .int 0), (0, .ref (q 0)), (1, .int p0)]) hx hb dX2_load_41 rfl hl (by decide) rfl (fun ls hl => ?_)
      refine lv_aload_n hx hb dX2_load_42 rfl (lv_at hl 1 rfl) ?_
      refine va_get (ci := 2) (v := .ref (q 3)) (C := RX2) (T := TX2) (N := 9) hx hb hts inX2_load_RX2 hown hK hP 0 rfl rfl 2 (by decide) (hts _ lkX2_load_23) (fun _ h9 => h9) rfl dX2_load_43 ?_
      refine lv_iload_n hx hb dX2_load_46 rfl (lv_at hl 2 rfl) ?_
      refine g_callV (As := [.int p0]) (rest := []) hx hb hml hown hts (ctX1_addFile_1 l D cI cZ q u p0) gX2_load_X1_addFile rfl rfl rfl hdX1_addFile ⟨Nat.le_of_ble_eq_true rfl, Nat.le_of_ble_eq_true rfl⟩ XG_em hE hP hK hD hS hA 3 rfl rfl rfl hl.1 rfl (Nat.le_of_ble_eq_true rfl) dX2_load_47 ⟨Nat.zero_le _, Nat.zero_le _⟩ (fun H locs hP hD hS => ?_)
      have hP : va_P D vwCl (XW cI cZ q (gS u 7 (xAddF (u.1 7) p0))) H := hP
      have hD : va_D A (XW cI cZ q (gS u 7 (xAddF (u.1 7) p0))) := hD
      refine W.eq (g2 := F0 m 50 ls []) rfl ?_
      refine lv_iload_n hx hb dX2_load_50 rfl (lv_at hl 0 rfl) ?_
      refine g_zret (u1 := (gS u 7 (xAddF (u.1 7) p0))) hx hb hret hlk hQ hP hD hS dX2_load_51 ?_ ?_ ?_
      · exact rfl
      · exact (by simp only [c_33, ↓reduceIte])
      · exact rfl
    · refine lv_iconst (v := 1) hx hb dX2_load_36 (by decide +kernel) ?_
      refine lv_goto (tgt := 41) hx hb dX2_load_37 (by decide) ?_
      refine lv_istore_n (lv' := [(2, .int 1), (0, .ref (q 0)), (1, .int p0)]) hx hb dX2_load_41 rfl hl (by decide) rfl (fun ls hl => ?_)
      refine lv_aload_n hx hb dX2_load_42 rfl (lv_at hl 1 rfl) ?_
      refine va_get (ci := 2) (v := .ref (q 3)) (C := RX2) (T := TX2) (N := 9) hx hb hts inX2_load_RX2 hown hK hP 0 rfl rfl 2 (by decide) (hts _ lkX2_load_23) (fun _ h9 => h9) rfl dX2_load_43 ?_
      refine lv_iload_n hx hb dX2_load_46 rfl (lv_at hl 2 rfl) ?_
      refine g_callV (As := [.int p0]) (rest := []) hx hb hml hown hts (ctX1_addFile_1 l D cI cZ q u p0) gX2_load_X1_addFile rfl rfl rfl hdX1_addFile ⟨Nat.le_of_ble_eq_true rfl, Nat.le_of_ble_eq_true rfl⟩ XG_em hE hP hK hD hS hA 3 rfl rfl rfl hl.1 rfl (Nat.le_of_ble_eq_true rfl) dX2_load_47 ⟨Nat.zero_le _, Nat.zero_le _⟩ (fun H locs hP hD hS => ?_)
      have hP : va_P D vwCl (XW cI cZ q (gS u 7 (xAddF (u.1 7) p0))) H := hP
      have hD : va_D A (XW cI cZ q (gS u 7 (xAddF (u.1 7) p0))) := hD
      refine W.eq (g2 := F0 m 50 ls []) rfl ?_
      refine lv_iload_n hx hb dX2_load_50 rfl (lv_at hl 0 rfl) ?_
      refine g_zret (u1 := (gS u 7 (xAddF (u.1 7) p0))) hx hb hret hlk hQ hP hD hS dX2_load_51 ?_ ?_ ?_
      · exact rfl
      · exact (by simp only [c_33, ↓reduceIte])
      · exact rfl
  · exact absurd c_12 h2
theorem lkX2_missing_10 : Cond.fieldLink RX2 10 "FetchHouse" "history" "LFetchHouse$History;" ∈ wsX2_missing := List.mem_of_getElem? (i := 2) (by decide +kernel)
theorem lkX2_missing_23 : Cond.fieldLink RX2 23 "FetchHouse" "client" "LFetchHouse$Store;" ∈ wsX2_missing := List.mem_of_getElem? (i := 1) (by decide +kernel)
theorem inX2_missing_RX2 : ∀ w ∈ u_ws RX2 TX2 9, w ∈ wsX2_missing := fun w h => List.mem_cons_of_mem _ (List.mem_append_left _ (List.mem_append_left _ (List.mem_append_right _ h)))
theorem inX2_missing_RX1 : ∀ w ∈ u_ws RX1 TX1 3, w ∈ wsX2_missing := fun w h => List.mem_cons_of_mem _ (List.mem_append_left _ (List.mem_append_right _ h))
theorem inX2_missing_RX0 : ∀ w ∈ u_ws RX0 TX0 6, w ∈ wsX2_missing := fun w h => List.mem_cons_of_mem _ (List.mem_append_right _ h)
abbrev rmX2_missing : Room := { frames := 4, cells := 0, slots := 0, locals := 89 }
set_option maxHeartbeats 4000000 in
set_option maxRecDepth 100000 in
theorem ctX2_missing (l : Launch) (D : va_G) (cI cZ : ClassId) (q : Nat → Nat) (u : SX) (n : Nat) (hn : u.1 15 0 = nI n) (h60 : n ≤ 60) : gM l yX2_missing wsX2_missing rmX2_missing D [(cI, .int), (cZ, .boolean)] (XW cI cZ q) XG [.ref (q 0)] u (some (.int (xLack (xFiles n (u.1 2) (u.2 1) (u.1 4)) (u.1 7)))) (gS u 4 (xFiles n (u.1 2) (u.2 1) (u.1 4))) := by
  refine g_start (cc := cX2_missing) (maxL := 1) (ret := (some .int)) (by decide) rfl (Nat.le_of_ble_eq_true rfl) ?_
  intro p e s m below meth c A ls Q hx hb hml hret hts hown hlk hE hP hK hD hA hl hQ hS
  have hown : s.vm.findClass RX2 = some m.cls := hown
  have hl : lv_has ls 1 [(0, .ref (q 0))] := hl
  refine lv_aload_n hx hb dX2_missing_0 rfl (lv_at hl 0 rfl) ?_
  refine va_get (ci := 2) (v := .ref (q 3)) (C := RX2) (T := TX2) (N := 9) hx hb hts inX2_missing_RX2 hown hK hP 0 rfl rfl 2 (by decide) (hts _ lkX2_missing_23) (fun _ h9 => h9) rfl dX2_missing_1 ?_
  refine lv_aload_n hx hb dX2_missing_4 rfl (lv_at hl 0 rfl) ?_
  refine va_get (ci := 2) (v := .ref (q 1)) (C := RX2) (T := TX2) (N := 9) hx hb hts inX2_missing_RX2 hown hK hP 0 rfl rfl 0 (by decide) (hts _ lkX2_missing_10) (fun _ h9 => h9) rfl dX2_missing_5 ?_
  refine lv_aload_n hx hb dX2_missing_8 rfl (lv_at hl 0 rfl) ?_
  refine va_get (ci := 2) (v := .ref (q 3)) (C := RX2) (T := TX2) (N := 9) hx hb hts inX2_missing_RX2 hown hK hP 0 rfl rfl 2 (by decide) (hts _ lkX2_missing_23) (fun _ h9 => h9) rfl dX2_missing_9 ?_
  refine va_getN (host := "FetchHouse") (ci := 1) (v := .long (u.2 1)) (C := RX1) (T := TX1) (N := 3) hx hb hts inX2_missing_RX1 hown hK hP 3 rfl rfl 0 (by decide) (va_Nw.use rfl (hE.1 _ (List.mem_of_getElem? (i := 0) rfl))) (fun _ h9 => h9) rfl dX2_missing_12 ?_
  refine g_callV (As := [.long (u.2 1)]) (rest := [.ref (q 3)]) hx hb hml hown hts (ctX0_filesOf l D cI cZ q u n hn h60 (u.2 1)) gX2_missing_X0_filesOf rfl rfl rfl hdX0_filesOf ⟨Nat.le_of_ble_eq_true rfl, Nat.le_of_ble_eq_true rfl⟩ XG_em hE hP hK hD hS hA 1 rfl rfl rfl hl.1 rfl (Nat.le_of_ble_eq_true rfl) dX2_missing_15 ⟨Nat.zero_le _, Nat.zero_le _⟩ (fun H locs hP hD hS => ?_)
  have hP : va_P D vwCl (XW cI cZ q (gS u 4 (xFiles n (u.1 2) (u.2 1) (u.1 4)))) H := hP
  have hD : va_D A (XW cI cZ q (gS u 4 (xFiles n (u.1 2) (u.2 1) (u.1 4)))) := hD
  refine W.eq (g2 := F0 m 18 ls [.ref (q 8), .ref (q 3)]) rfl ?_
  refine g_callV (As := [.ref (q 8)]) (rest := []) hx hb hml hown hts (ctX1_countLacking_1 l D cI cZ q (gS u 4 (xFiles n (u.1 2) (u.2 1) (u.1 4)))) gX2_missing_X1_countLacking rfl rfl rfl hdX1_countLacking ⟨Nat.le_of_ble_eq_true rfl, Nat.le_of_ble_eq_true rfl⟩ XG_em hE hP hK hD hS hA 3 rfl rfl rfl hl.1 rfl (Nat.le_of_ble_eq_true rfl) dX2_missing_18 ⟨Nat.zero_le _, Nat.zero_le _⟩ (fun H locs hP hD hS => ?_)
  have hP : va_P D vwCl (XW cI cZ q (gS u 4 (xFiles n (u.1 2) (u.2 1) (u.1 4)))) H := hP
  have hD : va_D A (XW cI cZ q (gS u 4 (xFiles n (u.1 2) (u.2 1) (u.1 4)))) := hD
  refine W.eq (g2 := F0 m 21 ls [.int (xLack (xFiles n (u.1 2) (u.2 1) (u.1 4)) (u.1 7))]) rfl ?_
  refine g_iret (u1 := (gS u 4 (xFiles n (u.1 2) (u.2 1) (u.1 4)))) hx hb hret hlk hQ hP hD hS dX2_missing_21 ?_ ?_
  · exact rfl
  · exact rfl
theorem lkX2_protect_26 : Cond.fieldLink RX2 26 "FetchHouse" "protectedRefs" "[Z" ∈ wsX2_protect := List.mem_of_getElem? (i := 1) (by decide +kernel)
theorem inX2_protect_RX2 : ∀ w ∈ u_ws RX2 TX2 9, w ∈ wsX2_protect := fun w h => List.mem_cons_of_mem _ (List.mem_append_left _ (List.mem_append_right _ h))
abbrev rmX2_protect : Room := { frames := 2, cells := 0, slots := 0, locals := 40 }
set_option maxHeartbeats 4000000 in
set_option maxRecDepth 100000 in
theorem ctX2_protect (l : Launch) (D : va_G) (cI cZ : ClassId) (q : Nat → Nat) (u : SX) (p0 p1 : Int32) (h1 : ¬ xRange p0 4 = 0) (h2 : vp_nar .boolean p1 = p1) : gM l yX2_protect wsX2_protect rmX2_protect D [(cI, .int), (cZ, .boolean)] (XW cI cZ q) XG [.ref (q 0), .int p0, .int p1] u (some (.int (if u.1 9 p0.toNatClampNeg = p1 then 0 else 1))) (gS u 9 (upd (u.1 9) p0.toNatClampNeg p1)) := by
  refine g_start (cc := cX2_protect) (maxL := 4) (ret := (some .boolean)) (by decide) rfl (Nat.le_of_ble_eq_true rfl) ?_
  intro p e s m below meth c A ls Q hx hb hml hret hts hown hlk hE hP hK hD hA hl hQ hS
  have hown : s.vm.findClass RX2 = some m.cls := hown
  have hl : lv_has ls 4 [(0, .ref (q 0)), (1, .int p0), (2, .int p1)] := hl
  obtain ⟨j, hj, hj2⟩ := xRange_ne (n := 4) rfl (by omega) h1
  have hj3 : p0.toNatClampNeg = j := by rw [hj2, nI_clamp (by omega)]
  refine lv_iload_n hx hb dX2_protect_0 rfl (lv_at hl 1 rfl) ?_
  refine g_callS0 (As := [.int p0]) (rest := []) hx hb hml hown hts (ctX2_checkRef l D cI cZ q p0 h1) gX2_protect_X2_checkRef rfl rfl rfl hdX2_checkRef ⟨Nat.le_of_ble_eq_true rfl, Nat.le_of_ble_eq_true rfl⟩ gEM_true trivial hP hK hS hA rfl hl.1 rfl (Nat.le_of_ble_eq_true rfl) dX2_protect_1 ⟨Nat.zero_le _, Nat.zero_le _⟩ (fun H locs hP hS => ?_)
  refine W.eq (g2 := F0 m 4 ls []) rfl ?_
  refine lv_aload_n hx hb dX2_protect_4 rfl (lv_at hl 0 rfl) ?_
  refine va_get (ci := 2) (v := .ref (q 13)) (C := RX2) (T := TX2) (N := 9) hx hb hts inX2_protect_RX2 hown hK hP 0 rfl rfl 3 (by decide) (hts _ lkX2_protect_26) (fun _ h9 => h9) rfl dX2_protect_5 ?_
  refine lv_iload_n hx hb dX2_protect_8 rfl (lv_at hl 1 rfl) ?_
  refine g_zald (n := 4) (f := (u.1 9)) hx hb hK hP 13 1 rfl rfl j (by omega) (by omega) hj2 dX2_protect_9 ?_
  refine lv_iload_n hx hb dX2_protect_10 rfl (lv_at hl 2 rfl) ?_
  refine lv_icmp_eq (tgt := 18) hx hb dX2_protect_11 (by decide) (fun c_11 => ?_) (fun c_11 => ?_)
  · refine lv_iconst (v := 0) hx hb dX2_protect_18 (by decide +kernel) ?_
    refine lv_istore_n (lv' := [(3, .int 0), (0, .ref (q 0)), (1, .int p0), (2, .int p1)]) hx hb dX2_protect_19 rfl hl (by decide) rfl (fun ls hl => ?_)
    refine lv_aload_n hx hb dX2_protect_20 rfl (lv_at hl 1 rfl) ?_
    refine va_get (ci := 2) (v := .ref (q 13)) (C := RX2) (T := TX2) (N := 9) hx hb hts inX2_protect_RX2 hown hK hP 0 rfl rfl 3 (by decide) (hts _ lkX2_protect_26) (fun _ h9 => h9) rfl dX2_protect_21 ?_
    refine lv_iload_n hx hb dX2_protect_24 rfl (lv_at hl 2 rfl) ?_
    refine lv_iload_n hx hb dX2_protect_25 rfl (lv_at hl 3 rfl) ?_
    refine g_zast (n := 4) (f := (u.1 9)) (u' := (gS u 9 (upd (u.1 9) j p1))) hx hb hK hP hD hS 13 1 rfl rfl j (by omega) (by omega) hj2 h2 rfl dX2_protect_26 (fun H locs hP hD hS => ?_)
    refine lv_iload_n hx hb dX2_protect_27 rfl (lv_at hl 0 rfl) ?_
    refine g_zret (u1 := (gS u 9 (upd (u.1 9) j p1))) hx hb hret hlk hQ hP hD hS dX2_protect_28 ?_ ?_ ?_
    · exact rfl
    · exact (by rw [hj3, if_pos c_11])
    · exact (by rw [hj3])
  · refine lv_iconst (v := 1) hx hb dX2_protect_14 (by decide +kernel) ?_
    refine lv_goto (tgt := 19) hx hb dX2_protect_15 (by decide) ?_
    refine lv_istore_n (lv' := [(3, .int 1), (0, .ref (q 0)), (1, .int p0), (2, .int p1)]) hx hb dX2_protect_19 rfl hl (by decide) rfl (fun ls hl => ?_)
    refine lv_aload_n hx hb dX2_protect_20 rfl (lv_at hl 1 rfl) ?_
    refine va_get (ci := 2) (v := .ref (q 13)) (C := RX2) (T := TX2) (N := 9) hx hb hts inX2_protect_RX2 hown hK hP 0 rfl rfl 3 (by decide) (hts _ lkX2_protect_26) (fun _ h9 => h9) rfl dX2_protect_21 ?_
    refine lv_iload_n hx hb dX2_protect_24 rfl (lv_at hl 2 rfl) ?_
    refine lv_iload_n hx hb dX2_protect_25 rfl (lv_at hl 3 rfl) ?_
    refine g_zast (n := 4) (f := (u.1 9)) (u' := (gS u 9 (upd (u.1 9) j p1))) hx hb hK hP hD hS 13 1 rfl rfl j (by omega) (by omega) hj2 h2 rfl dX2_protect_26 (fun H locs hP hD hS => ?_)
    refine lv_iload_n hx hb dX2_protect_27 rfl (lv_at hl 0 rfl) ?_
    refine g_zret (u1 := (gS u 9 (upd (u.1 9) j p1))) hx hb hret hlk hQ hP hD hS dX2_protect_28 ?_ ?_ ?_
    · exact rfl
    · exact (by rw [hj3, if_neg c_11])
    · exact (by rw [hj3])
theorem lkX2_move_148 : Cond.fieldLink RX2 148 "FetchHouse" "waitingMoves" "I" ∈ wsX2_move := List.mem_of_getElem? (i := 3) (by decide +kernel)
theorem lkX2_move_30 : Cond.fieldLink RX2 30 "FetchHouse" "movedRefs" "[I" ∈ wsX2_move := List.mem_of_getElem? (i := 4) (by decide +kernel)
theorem lkX2_move_34 : Cond.fieldLink RX2 34 "FetchHouse" "oldCommits" "[I" ∈ wsX2_move := List.mem_of_getElem? (i := 5) (by decide +kernel)
theorem lkX2_move_37 : Cond.fieldLink RX2 37 "FetchHouse" "newCommits" "[I" ∈ wsX2_move := List.mem_of_getElem? (i := 6) (by decide +kernel)
theorem inX2_move_RX2 : ∀ w ∈ u_ws RX2 TX2 9, w ∈ wsX2_move := fun w h => List.mem_cons_of_mem _ (List.mem_append_left _ (List.mem_append_left _ (List.mem_append_left _ (List.mem_append_right _ h))))
theorem inX2_move_RX0 : ∀ w ∈ u_ws RX0 TX0 6, w ∈ wsX2_move := fun w h => List.mem_cons_of_mem _ (List.mem_append_left _ (List.mem_append_left _ (List.mem_append_right _ h)))
abbrev rmX2_move : Room := { frames := 3, cells := 0, slots := 0, locals := 63 }
set_option maxHeartbeats 4000000 in
set_option maxRecDepth 100000 in
theorem ctX2_move (l : Launch) (D : va_G) (cI cZ : ClassId) (q : Nat → Nat) (u : SX) (n : Nat) (hn : u.1 15 0 = nI n) (h60 : n ≤ 60) (w : Nat) (hw : u.1 13 0 = nI w) (hw3 : w < 3) (p0 p1 p2 : Int32) (h1 : ¬ xRange p0 4 = 0) (h2 : p1 = -1 ∨ ¬ xRange p1 (nI n) = 0) (h3 : p2 = -1 ∨ ¬ xRange p2 (nI n) = 0) : gM l yX2_move wsX2_move rmX2_move D [(cI, .int), (cZ, .boolean)] (XW cI cZ q) XG [.ref (q 0), .int p0, .int p1, .int p2] u (some (.int (nI w + 1))) (gS (gS (gS (gS u 10 (upd (u.1 10) w p0)) 11 (upd (u.1 11) w p1)) 12 (upd (u.1 12) w p2)) 13 (fun _ => (nI w + 1))) := by
  refine g_start (cc := cX2_move) (maxL := 4) (ret := (some .int)) (by decide) rfl (Nat.le_of_ble_eq_true rfl) ?_
  intro p e s m below meth c A ls Q hx hb hml hret hts hown hlk hE hP hK hD hA hl hQ hS
  have hown : s.vm.findClass RX2 = some m.cls := hown
  have hl : lv_has ls 4 [(0, .ref (q 0)), (1, .int p0), (2, .int p1), (3, .int p2)] := hl
  refine lv_iload_n hx hb dX2_move_0 rfl (lv_at hl 1 rfl) ?_
  refine g_callS0 (As := [.int p0]) (rest := []) hx hb hml hown hts (ctX2_checkRef l D cI cZ q p0 h1) gX2_move_X2_checkRef rfl rfl rfl hdX2_checkRef ⟨Nat.le_of_ble_eq_true rfl, Nat.le_of_ble_eq_true rfl⟩ gEM_true trivial hP hK hS hA rfl hl.1 rfl (Nat.le_of_ble_eq_true rfl) dX2_move_1 ⟨Nat.zero_le _, Nat.zero_le _⟩ (fun H locs hP hS => ?_)
  refine W.eq (g2 := F0 m 4 ls []) rfl ?_
  refine lv_aload_n hx hb dX2_move_4 rfl (lv_at hl 0 rfl) ?_
  refine lv_iload_n hx hb dX2_move_5 rfl (lv_at hl 2 rfl) ?_
  refine g_callV (As := [.int p1]) (rest := []) hx hb hml hown hts (ctX2_checkCommitOrNone l D cI cZ q u n hn h60 p1 h2) gX2_move_X2_checkCommitOrNone rfl rfl rfl hdX2_checkCommitOrNone ⟨Nat.le_of_ble_eq_true rfl, Nat.le_of_ble_eq_true rfl⟩ XG_em hE hP hK hD hS hA 0 rfl rfl rfl hl.1 rfl (Nat.le_of_ble_eq_true rfl) dX2_move_6 ⟨Nat.zero_le _, Nat.zero_le _⟩ (fun H locs hP hD hS => ?_)
  have hP : va_P D vwCl (XW cI cZ q u) H := hP
  have hD : va_D A (XW cI cZ q u) := hD
  refine W.eq (g2 := F0 m 9 ls []) rfl ?_
  refine lv_aload_n hx hb dX2_move_9 rfl (lv_at hl 0 rfl) ?_
  refine lv_iload_n hx hb dX2_move_10 rfl (lv_at hl 3 rfl) ?_
  refine g_callV (As := [.int p2]) (rest := []) hx hb hml hown hts (ctX2_checkCommitOrNone l D cI cZ q u n hn h60 p2 h3) gX2_move_X2_checkCommitOrNone rfl rfl rfl hdX2_checkCommitOrNone ⟨Nat.le_of_ble_eq_true rfl, Nat.le_of_ble_eq_true rfl⟩ XG_em hE hP hK hD hS hA 0 rfl rfl rfl hl.1 rfl (Nat.le_of_ble_eq_true rfl) dX2_move_11 ⟨Nat.zero_le _, Nat.zero_le _⟩ (fun H locs hP hD hS => ?_)
  have hP : va_P D vwCl (XW cI cZ q u) H := hP
  have hD : va_D A (XW cI cZ q u) := hD
  refine W.eq (g2 := F0 m 14 ls []) rfl ?_
  refine lv_aload_n hx hb dX2_move_14 rfl (lv_at hl 0 rfl) ?_
  refine va_get (ci := 2) (v := .int (nI w)) (C := RX2) (T := TX2) (N := 9) hx hb hts inX2_move_RX2 hown hK hP 0 rfl rfl 7 (by decide) (hts _ lkX2_move_148) (fun _ h9 => h9) (congrArg (fun z => some (Value.int z)) hw) dX2_move_15 ?_
  refine lv_iconst (v := 3) hx hb dX2_move_18 (by decide +kernel) ?_
  refine lv_icmp_lt (tgt := 32) hx hb dX2_move_19 (by decide) (fun c_19 => ?_) (fun c_19 => ?_)
  · have n_19 : w < 3 := (g_ltI (a := w) (b := 3) rfl rfl (by omega) (by omega)).mp c_19
    refine lv_aload_n hx hb dX2_move_32 rfl (lv_at hl 0 rfl) ?_
    refine va_get (ci := 2) (v := .ref (q 14)) (C := RX2) (T := TX2) (N := 9) hx hb hts inX2_move_RX2 hown hK hP 0 rfl rfl 4 (by decide) (hts _ lkX2_move_30) (fun _ h9 => h9) rfl dX2_move_33 ?_
    refine lv_aload_n hx hb dX2_move_36 rfl (lv_at hl 0 rfl) ?_
    refine va_get (ci := 2) (v := .int (nI w)) (C := RX2) (T := TX2) (N := 9) hx hb hts inX2_move_RX2 hown hK hP 0 rfl rfl 7 (by decide) (hts _ lkX2_move_148) (fun _ h9 => h9) (congrArg (fun z => some (Value.int z)) hw) dX2_move_37 ?_
    refine lv_iload_n hx hb dX2_move_40 rfl (lv_at hl 1 rfl) ?_
    refine g_iast (n := 3) (f := (u.1 10)) (u' := (gS u 10 (upd (u.1 10) w p0))) hx hb hK hP hD hS 14 0 rfl rfl w (by omega) (by omega) rfl rfl dX2_move_41 (fun H locs hP hD hS => ?_)
    refine lv_aload_n hx hb dX2_move_42 rfl (lv_at hl 0 rfl) ?_
    refine va_get (ci := 2) (v := .ref (q 15)) (C := RX2) (T := TX2) (N := 9) hx hb hts inX2_move_RX2 hown hK hP 0 rfl rfl 5 (by decide) (hts _ lkX2_move_34) (fun _ h9 => h9) rfl dX2_move_43 ?_
    refine lv_aload_n hx hb dX2_move_46 rfl (lv_at hl 0 rfl) ?_
    refine va_get (ci := 2) (v := .int (nI w)) (C := RX2) (T := TX2) (N := 9) hx hb hts inX2_move_RX2 hown hK hP 0 rfl rfl 7 (by decide) (hts _ lkX2_move_148) (fun _ h9 => h9) (congrArg (fun z => some (Value.int z)) hw) dX2_move_47 ?_
    refine lv_iload_n hx hb dX2_move_50 rfl (lv_at hl 2 rfl) ?_
    refine g_iast (n := 3) (f := (u.1 11)) (u' := (gS (gS u 10 (upd (u.1 10) w p0)) 11 (upd (u.1 11) w p1))) hx hb hK hP hD hS 15 0 rfl rfl w (by omega) (by omega) rfl rfl dX2_move_51 (fun H locs hP hD hS => ?_)
    refine lv_aload_n hx hb dX2_move_52 rfl (lv_at hl 0 rfl) ?_
    refine va_get (ci := 2) (v := .ref (q 16)) (C := RX2) (T := TX2) (N := 9) hx hb hts inX2_move_RX2 hown hK hP 0 rfl rfl 6 (by decide) (hts _ lkX2_move_37) (fun _ h9 => h9) rfl dX2_move_53 ?_
    refine lv_aload_n hx hb dX2_move_56 rfl (lv_at hl 0 rfl) ?_
    refine va_get (ci := 2) (v := .int (nI w)) (C := RX2) (T := TX2) (N := 9) hx hb hts inX2_move_RX2 hown hK hP 0 rfl rfl 7 (by decide) (hts _ lkX2_move_148) (fun _ h9 => h9) (congrArg (fun z => some (Value.int z)) hw) dX2_move_57 ?_
    refine lv_iload_n hx hb dX2_move_60 rfl (lv_at hl 3 rfl) ?_
    refine g_iast (n := 3) (f := (u.1 12)) (u' := (gS (gS (gS u 10 (upd (u.1 10) w p0)) 11 (upd (u.1 11) w p1)) 12 (upd (u.1 12) w p2))) hx hb hK hP hD hS 16 0 rfl rfl w (by omega) (by omega) rfl rfl dX2_move_61 (fun H locs hP hD hS => ?_)
    refine lv_aload_n hx hb dX2_move_62 rfl (lv_at hl 0 rfl) ?_
    refine lv_dup hx hb dX2_move_63 rfl ?_
    refine va_get (ci := 2) (v := .int (nI w)) (C := RX2) (T := TX2) (N := 9) hx hb hts inX2_move_RX2 hown hK hP 0 rfl rfl 7 (by decide) (hts _ lkX2_move_148) (fun _ h9 => h9) (congrArg (fun z => some (Value.int z)) hw) dX2_move_64 ?_
    refine lv_iconst (v := 1) hx hb dX2_move_67 (by decide +kernel) ?_
    refine lv_iadd hx hb dX2_move_68 ?_
    refine va_put (ci := 2) (v := .int ((nI w) + 1)) (ty := .int) (C := RX2) (T := TX2) (N := 9) hx hb hts inX2_move_RX2 tyX2 tyX2_ok nmX2 hown hK hP hD hS 0 rfl rfl 7 (by decide) (hts _ lkX2_move_148) (fun _ h9 => h9) rfl (by decide +kernel) rfl rfl (Nat.le_of_ble_eq_true rfl) dX2_move_69 (fun H locs hP hD hS => ?_)
    have hP : va_P D vwCl (XW cI cZ q (gS (gS (gS (gS u 10 (upd (u.1 10) w p0)) 11 (upd (u.1 11) w p1)) 12 (upd (u.1 12) w p2)) 13 (fun _ => ((nI w) + 1)))) H := hP
    have hD : va_D A (XW cI cZ q (gS (gS (gS (gS u 10 (upd (u.1 10) w p0)) 11 (upd (u.1 11) w p1)) 12 (upd (u.1 12) w p2)) 13 (fun _ => ((nI w) + 1)))) := hD
    refine lv_aload_n hx hb dX2_move_72 rfl (lv_at hl 0 rfl) ?_
    refine va_get (ci := 2) (v := .int ((nI w) + 1)) (C := RX2) (T := TX2) (N := 9) hx hb hts inX2_move_RX2 hown hK hP 0 rfl rfl 7 (by decide) (hts _ lkX2_move_148) (fun _ h9 => h9) rfl dX2_move_73 ?_
    refine g_iret (u1 := (gS (gS (gS (gS u 10 (upd (u.1 10) w p0)) 11 (upd (u.1 11) w p1)) 12 (upd (u.1 12) w p2)) 13 (fun _ => ((nI w) + 1)))) hx hb hret hlk hQ hP hD hS dX2_move_76 ?_ ?_
    · exact rfl
    · exact rfl
  · have n_19 : ¬ w < 3 := fun h => c_19 ((g_ltI (a := w) (b := 3) rfl rfl (by omega) (by omega)).mpr h)
    exfalso; omega
theorem lkX2_push_148 : Cond.fieldLink RX2 148 "FetchHouse" "waitingMoves" "I" ∈ wsX2_push := List.mem_of_getElem? (i := 1) (by decide +kernel)
theorem inX2_push_RX2 : ∀ w ∈ u_ws RX2 TX2 9, w ∈ wsX2_push := fun w h => List.mem_cons_of_mem _ (List.mem_append_left _ (List.mem_append_left _ (List.mem_append_right _ h)))
theorem inX2_push_RX1 : ∀ w ∈ u_ws RX1 TX1 3, w ∈ wsX2_push := fun w h => List.mem_cons_of_mem _ (List.mem_append_left _ (List.mem_append_right _ h))
theorem inX2_push_RX0 : ∀ w ∈ u_ws RX0 TX0 6, w ∈ wsX2_push := fun w h => List.mem_cons_of_mem _ (List.mem_append_right _ h)
abbrev rmX2_push : Room := { frames := 6, cells := 0, slots := 0, locals := 143 }
set_option maxHeartbeats 4000000 in
set_option maxRecDepth 100000 in
theorem ctX2_push (l : Launch) (D : va_G) (cI cZ : ClassId) (q : Nat → Nat) (u : SX) (n : Nat) (hn : u.1 15 0 = nI n) (h60 : n ≤ 60) (w : Nat) (hw : u.1 13 0 = nI w) (h3 : w ≤ 3) : gM l yX2_push wsX2_push rmX2_push D [(cI, .int), (cZ, .boolean)] (XW cI cZ q) XG [.ref (q 0)] u (some (.int (if (xFirst n (u.1 0) (u.1 1) (u.1 6) (u.1 9) (u.2 0) (u.2 1) (u.1 10) (u.1 11) (u.1 12) w) = 0 then (xBits ((xAnc n (u.1 0) (u.1 1) (xMv (u.1 10) (u.1 12) (u.1 6) w).1 (u.2 1)) &&& ((u.2 0) ^^^ (-1)))) else (xFirst n (u.1 0) (u.1 1) (u.1 6) (u.1 9) (u.2 0) (u.2 1) (u.1 10) (u.1 11) (u.1 12) w)))) (gL (gS (gS (gS (gS u 4 (if (xFirst n (u.1 0) (u.1 1) (u.1 6) (u.1 9) (u.2 0) (u.2 1) (u.1 10) (u.1 11) (u.1 12) w) = 0 then (xFiles n (u.1 2) (xAnc n (u.1 0) (u.1 1) (xMv (u.1 10) (u.1 12) (u.1 6) w).1 (u.2 1)) (u.1 4)) else (u.1 4))) 5 (if (xFirst n (u.1 0) (u.1 1) (u.1 6) (u.1 9) (u.2 0) (u.2 1) (u.1 10) (u.1 11) (u.1 12) w) = 0 then (xAddFs (xFiles n (u.1 2) (xAnc n (u.1 0) (u.1 1) (xMv (u.1 10) (u.1 12) (u.1 6) w).1 (u.2 1)) (u.1 4)) (u.1 7) (u.1 5)) else (u.1 5))) 6 (if (xFirst n (u.1 0) (u.1 1) (u.1 6) (u.1 9) (u.2 0) (u.2 1) (u.1 10) (u.1 11) (u.1 12) w) = 0 then (xMv (u.1 10) (u.1 12) (u.1 6) w).2 else (u.1 6))) 13 (fun _ => 0)) 0 (if (xFirst n (u.1 0) (u.1 1) (u.1 6) (u.1 9) (u.2 0) (u.2 1) (u.1 10) (u.1 11) (u.1 12) w) = 0 then ((u.2 0) ||| (xAnc n (u.1 0) (u.1 1) (xMv (u.1 10) (u.1 12) (u.1 6) w).1 (u.2 1))) else (u.2 0))) := by
  refine g_start (cc := cX2_push) (maxL := 3) (ret := (some .int)) (by decide) rfl (Nat.le_of_ble_eq_true rfl) ?_
  intro p e s m below meth c A ls Q hx hb hml hret hts hown hlk hE hP hK hD hA hl hQ hS
  have hown : s.vm.findClass RX2 = some m.cls := hown
  have hl : lv_has ls 3 [(0, .ref (q 0))] := hl
  refine lv_aload_n hx hb dX2_push_0 rfl (lv_at hl 0 rfl) ?_
  refine g_callV (As := []) (rest := []) hx hb hml hown hts (ctX2_firstRefusal l D cI cZ q u n hn h60 w hw h3) gX2_push_X2_firstRefusal rfl rfl rfl hdX2_firstRefusal ⟨Nat.le_of_ble_eq_true rfl, Nat.le_of_ble_eq_true rfl⟩ XG_em hE hP hK hD hS hA 0 rfl rfl rfl hl.1 rfl (Nat.le_of_ble_eq_true rfl) dX2_push_1 ⟨Nat.zero_le _, Nat.zero_le _⟩ (fun H locs hP hD hS => ?_)
  have hP : va_P D vwCl (XW cI cZ q u) H := hP
  have hD : va_D A (XW cI cZ q u) := hD
  refine W.eq (g2 := F0 m 4 ls [.int (xFirst n (u.1 0) (u.1 1) (u.1 6) (u.1 9) (u.2 0) (u.2 1) (u.1 10) (u.1 11) (u.1 12) w)]) rfl ?_
  refine lv_istore_n (lv' := [(1, .int (xFirst n (u.1 0) (u.1 1) (u.1 6) (u.1 9) (u.2 0) (u.2 1) (u.1 10) (u.1 11) (u.1 12) w)), (0, .ref (q 0))]) hx hb dX2_push_4 rfl hl (by decide) rfl (fun ls hl => ?_)
  refine lv_iload_n hx hb dX2_push_5 rfl (lv_at hl 0 rfl) ?_
  refine lv_if_ne (tgt := 16) hx hb dX2_push_6 (by decide) (fun c_6 => ?_) (fun c_6 => ?_)
  · refine lv_iload_n hx hb dX2_push_16 rfl (lv_at hl 0 rfl) ?_
    refine lv_istore_n (lv' := [(2, .int (xFirst n (u.1 0) (u.1 1) (u.1 6) (u.1 9) (u.2 0) (u.2 1) (u.1 10) (u.1 11) (u.1 12) w)), (1, .int (xFirst n (u.1 0) (u.1 1) (u.1 6) (u.1 9) (u.2 0) (u.2 1) (u.1 10) (u.1 11) (u.1 12) w)), (0, .ref (q 0))]) hx hb dX2_push_17 rfl hl (by decide) rfl (fun ls hl => ?_)
    refine lv_aload_n hx hb dX2_push_18 rfl (lv_at hl 2 rfl) ?_
    refine lv_iconst (v := 0) hx hb dX2_push_19 (by decide +kernel) ?_
    refine va_put (ci := 2) (v := .int 0) (ty := .int) (C := RX2) (T := TX2) (N := 9) hx hb hts inX2_push_RX2 tyX2 tyX2_ok nmX2 hown hK hP hD hS 0 rfl rfl 7 (by decide) (hts _ lkX2_push_148) (fun _ h9 => h9) rfl (by decide +kernel) rfl rfl (Nat.le_of_ble_eq_true rfl) dX2_push_20 (fun H locs hP hD hS => ?_)
    have hP : va_P D vwCl (XW cI cZ q (gS u 13 (fun _ => 0))) H := hP
    have hD : va_D A (XW cI cZ q (gS u 13 (fun _ => 0))) := hD
    refine lv_iload_n hx hb dX2_push_23 rfl (lv_at hl 0 rfl) ?_
    refine g_iret (u1 := (gS u 13 (fun _ => 0))) hx hb hret hlk hQ hP hD hS dX2_push_24 ?_ ?_
    · exact (by simp only [c_6, ↓reduceIte])
    · exact (by simp only [c_6, ↓reduceIte] <;> rfl)
  · refine lv_aload_n hx hb dX2_push_9 rfl (lv_at hl 1 rfl) ?_
    refine g_callV (As := []) (rest := []) hx hb hml hown hts (ctX2_doMoves l D cI cZ q u n hn h60 w hw h3) gX2_push_X2_doMoves rfl rfl rfl hdX2_doMoves ⟨Nat.le_of_ble_eq_true rfl, Nat.le_of_ble_eq_true rfl⟩ XG_em hE hP hK hD hS hA 0 rfl rfl rfl hl.1 rfl (Nat.le_of_ble_eq_true rfl) dX2_push_10 ⟨Nat.zero_le _, Nat.zero_le _⟩ (fun H locs hP hD hS => ?_)
    have hP : va_P D vwCl (XW cI cZ q (gL (gS (gS (gS u 4 (xFiles n (u.1 2) (xAnc n (u.1 0) (u.1 1) (xMv (u.1 10) (u.1 12) (u.1 6) w).1 (u.2 1)) (u.1 4))) 5 (xAddFs (xFiles n (u.1 2) (xAnc n (u.1 0) (u.1 1) (xMv (u.1 10) (u.1 12) (u.1 6) w).1 (u.2 1)) (u.1 4)) (u.1 7) (u.1 5))) 6 (xMv (u.1 10) (u.1 12) (u.1 6) w).2) 0 ((u.2 0) ||| (xAnc n (u.1 0) (u.1 1) (xMv (u.1 10) (u.1 12) (u.1 6) w).1 (u.2 1))))) H := hP
    have hD : va_D A (XW cI cZ q (gL (gS (gS (gS u 4 (xFiles n (u.1 2) (xAnc n (u.1 0) (u.1 1) (xMv (u.1 10) (u.1 12) (u.1 6) w).1 (u.2 1)) (u.1 4))) 5 (xAddFs (xFiles n (u.1 2) (xAnc n (u.1 0) (u.1 1) (xMv (u.1 10) (u.1 12) (u.1 6) w).1 (u.2 1)) (u.1 4)) (u.1 7) (u.1 5))) 6 (xMv (u.1 10) (u.1 12) (u.1 6) w).2) 0 ((u.2 0) ||| (xAnc n (u.1 0) (u.1 1) (xMv (u.1 10) (u.1 12) (u.1 6) w).1 (u.2 1))))) := hD
    refine W.eq (g2 := F0 m 13 ls [.int (xBits ((xAnc n (u.1 0) (u.1 1) (xMv (u.1 10) (u.1 12) (u.1 6) w).1 (u.2 1)) &&& ((u.2 0) ^^^ (-1))))]) rfl ?_
    refine lv_goto (tgt := 17) hx hb dX2_push_13 (by decide) ?_
    refine lv_istore_n (lv' := [(2, .int (xBits ((xAnc n (u.1 0) (u.1 1) (xMv (u.1 10) (u.1 12) (u.1 6) w).1 (u.2 1)) &&& ((u.2 0) ^^^ (-1))))), (1, .int (xFirst n (u.1 0) (u.1 1) (u.1 6) (u.1 9) (u.2 0) (u.2 1) (u.1 10) (u.1 11) (u.1 12) w)), (0, .ref (q 0))]) hx hb dX2_push_17 rfl hl (by decide) rfl (fun ls hl => ?_)
    refine lv_aload_n hx hb dX2_push_18 rfl (lv_at hl 2 rfl) ?_
    refine lv_iconst (v := 0) hx hb dX2_push_19 (by decide +kernel) ?_
    refine va_put (ci := 2) (v := .int 0) (ty := .int) (C := RX2) (T := TX2) (N := 9) hx hb hts inX2_push_RX2 tyX2 tyX2_ok nmX2 hown hK hP hD hS 0 rfl rfl 7 (by decide) (hts _ lkX2_push_148) (fun _ h9 => h9) rfl (by decide +kernel) rfl rfl (Nat.le_of_ble_eq_true rfl) dX2_push_20 (fun H locs hP hD hS => ?_)
    have hP : va_P D vwCl (XW cI cZ q (gL (gS (gS (gS (gS u 4 (xFiles n (u.1 2) (xAnc n (u.1 0) (u.1 1) (xMv (u.1 10) (u.1 12) (u.1 6) w).1 (u.2 1)) (u.1 4))) 5 (xAddFs (xFiles n (u.1 2) (xAnc n (u.1 0) (u.1 1) (xMv (u.1 10) (u.1 12) (u.1 6) w).1 (u.2 1)) (u.1 4)) (u.1 7) (u.1 5))) 6 (xMv (u.1 10) (u.1 12) (u.1 6) w).2) 13 (fun _ => 0)) 0 ((u.2 0) ||| (xAnc n (u.1 0) (u.1 1) (xMv (u.1 10) (u.1 12) (u.1 6) w).1 (u.2 1))))) H := hP
    have hD : va_D A (XW cI cZ q (gL (gS (gS (gS (gS u 4 (xFiles n (u.1 2) (xAnc n (u.1 0) (u.1 1) (xMv (u.1 10) (u.1 12) (u.1 6) w).1 (u.2 1)) (u.1 4))) 5 (xAddFs (xFiles n (u.1 2) (xAnc n (u.1 0) (u.1 1) (xMv (u.1 10) (u.1 12) (u.1 6) w).1 (u.2 1)) (u.1 4)) (u.1 7) (u.1 5))) 6 (xMv (u.1 10) (u.1 12) (u.1 6) w).2) 13 (fun _ => 0)) 0 ((u.2 0) ||| (xAnc n (u.1 0) (u.1 1) (xMv (u.1 10) (u.1 12) (u.1 6) w).1 (u.2 1))))) := hD
    refine lv_iload_n hx hb dX2_push_23 rfl (lv_at hl 0 rfl) ?_
    refine g_iret (u1 := (gL (gS (gS (gS (gS u 4 (xFiles n (u.1 2) (xAnc n (u.1 0) (u.1 1) (xMv (u.1 10) (u.1 12) (u.1 6) w).1 (u.2 1)) (u.1 4))) 5 (xAddFs (xFiles n (u.1 2) (xAnc n (u.1 0) (u.1 1) (xMv (u.1 10) (u.1 12) (u.1 6) w).1 (u.2 1)) (u.1 4)) (u.1 7) (u.1 5))) 6 (xMv (u.1 10) (u.1 12) (u.1 6) w).2) 13 (fun _ => 0)) 0 ((u.2 0) ||| (xAnc n (u.1 0) (u.1 1) (xMv (u.1 10) (u.1 12) (u.1 6) w).1 (u.2 1))))) hx hb hret hlk hQ hP hD hS dX2_push_24 ?_ ?_
    · exact (by simp only [c_6, ↓reduceIte])
    · exact (by simp only [c_6, ↓reduceIte] <;> rfl)
theorem lkX2_isShallow_10 : Cond.fieldLink RX2 10 "FetchHouse" "history" "LFetchHouse$History;" ∈ wsX2_isShallow := List.mem_of_getElem? (i := 1) (by decide +kernel)
theorem lkX2_isShallow_23 : Cond.fieldLink RX2 23 "FetchHouse" "client" "LFetchHouse$Store;" ∈ wsX2_isShallow := List.mem_of_getElem? (i := 2) (by decide +kernel)
theorem inX2_isShallow_RX2 : ∀ w ∈ u_ws RX2 TX2 9, w ∈ wsX2_isShallow := fun w h => List.mem_cons_of_mem _ (List.mem_append_left _ (List.mem_append_left _ (List.mem_append_left _ (List.mem_append_right _ h))))
theorem inX2_isShallow_RX1 : ∀ w ∈ u_ws RX1 TX1 3, w ∈ wsX2_isShallow := fun w h => List.mem_cons_of_mem _ (List.mem_append_left _ (List.mem_append_left _ (List.mem_append_right _ h)))
theorem inX2_isShallow_RX0 : ∀ w ∈ u_ws RX0 TX0 6, w ∈ wsX2_isShallow := fun w h => List.mem_cons_of_mem _ (List.mem_append_left _ (List.mem_append_right _ h))
abbrev rmX2_isShallow : Room := { frames := 3, cells := 0, slots := 0, locals := 67 }
set_option maxHeartbeats 4000000 in
set_option maxRecDepth 100000 in
theorem ctX2_isShallow (l : Launch) (D : va_G) (cI cZ : ClassId) (q : Nat → Nat) (u : SX) (n : Nat) (hn : u.1 15 0 = nI n) (h60 : n ≤ 60) (p0 : Int32) (h1 : ¬ xRange p0 (nI n) = 0) : gM l yX2_isShallow wsX2_isShallow rmX2_isShallow D [(cI, .int), (cZ, .boolean)] (XW cI cZ q) XG [.ref (q 0), .int p0] u (some (.int (xCon (xShallow n (u.1 0) (u.1 1) (u.2 1)) p0))) u := by
  refine g_start (cc := cX2_isShallow) (maxL := 2) (ret := (some .boolean)) (by decide) rfl (Nat.le_of_ble_eq_true rfl) ?_
  intro p e s m below meth c A ls Q hx hb hml hret hts hown hlk hE hP hK hD hA hl hQ hS
  have hown : s.vm.findClass RX2 = some m.cls := hown
  have hl : lv_has ls 2 [(0, .ref (q 0)), (1, .int p0)] := hl
  refine lv_aload_n hx hb dX2_isShallow_0 rfl (lv_at hl 0 rfl) ?_
  refine lv_iload_n hx hb dX2_isShallow_1 rfl (lv_at hl 1 rfl) ?_
  refine g_callV (As := [.int p0]) (rest := []) hx hb hml hown hts (ctX2_checkCommit l D cI cZ q u n hn h60 p0 h1) gX2_isShallow_X2_checkCommit rfl rfl rfl hdX2_checkCommit ⟨Nat.le_of_ble_eq_true rfl, Nat.le_of_ble_eq_true rfl⟩ XG_em hE hP hK hD hS hA 0 rfl rfl rfl hl.1 rfl (Nat.le_of_ble_eq_true rfl) dX2_isShallow_2 ⟨Nat.zero_le _, Nat.zero_le _⟩ (fun H locs hP hD hS => ?_)
  have hP : va_P D vwCl (XW cI cZ q u) H := hP
  have hD : va_D A (XW cI cZ q u) := hD
  refine W.eq (g2 := F0 m 5 ls []) rfl ?_
  refine lv_aload_n hx hb dX2_isShallow_5 rfl (lv_at hl 0 rfl) ?_
  refine va_get (ci := 2) (v := .ref (q 1)) (C := RX2) (T := TX2) (N := 9) hx hb hts inX2_isShallow_RX2 hown hK hP 0 rfl rfl 0 (by decide) (hts _ lkX2_isShallow_10) (fun _ h9 => h9) rfl dX2_isShallow_6 ?_
  refine lv_aload_n hx hb dX2_isShallow_9 rfl (lv_at hl 0 rfl) ?_
  refine va_get (ci := 2) (v := .ref (q 3)) (C := RX2) (T := TX2) (N := 9) hx hb hts inX2_isShallow_RX2 hown hK hP 0 rfl rfl 2 (by decide) (hts _ lkX2_isShallow_23) (fun _ h9 => h9) rfl dX2_isShallow_10 ?_
  refine va_getN (host := "FetchHouse") (ci := 1) (v := .long (u.2 1)) (C := RX1) (T := TX1) (N := 3) hx hb hts inX2_isShallow_RX1 hown hK hP 3 rfl rfl 0 (by decide) (va_Nw.use rfl (hE.1 _ (List.mem_of_getElem? (i := 0) rfl))) (fun _ h9 => h9) rfl dX2_isShallow_13 ?_
  refine g_callV (As := [.long (u.2 1)]) (rest := []) hx hb hml hown hts (ctX0_shallowOf l D cI cZ q u n hn h60 (u.2 1)) gX2_isShallow_X0_shallowOf rfl rfl rfl hdX0_shallowOf ⟨Nat.le_of_ble_eq_true rfl, Nat.le_of_ble_eq_true rfl⟩ XG_em hE hP hK hD hS hA 1 rfl rfl rfl hl.1 rfl (Nat.le_of_ble_eq_true rfl) dX2_isShallow_16 ⟨Nat.zero_le _, Nat.zero_le _⟩ (fun H locs hP hD hS => ?_)
  have hP : va_P D vwCl (XW cI cZ q u) H := hP
  have hD : va_D A (XW cI cZ q u) := hD
  refine W.eq (g2 := F0 m 19 ls [.long (xShallow n (u.1 0) (u.1 1) (u.2 1))]) rfl ?_
  refine lv_iload_n hx hb dX2_isShallow_19 rfl (lv_at hl 1 rfl) ?_
  refine g_callS0 (As := [.long (xShallow n (u.1 0) (u.1 1) (u.2 1)), .int p0]) (rest := []) hx hb hml hown hts (ctX2_contains l D cI cZ q (xShallow n (u.1 0) (u.1 1) (u.2 1)) p0) gX2_isShallow_X2_contains rfl rfl rfl hdX2_contains ⟨Nat.le_of_ble_eq_true rfl, Nat.le_of_ble_eq_true rfl⟩ gEM_true trivial hP hK hS hA rfl hl.1 rfl (Nat.le_of_ble_eq_true rfl) dX2_isShallow_20 ⟨Nat.zero_le _, Nat.zero_le _⟩ (fun H locs hP hS => ?_)
  refine W.eq (g2 := F0 m 23 ls [.int (xCon (xShallow n (u.1 0) (u.1 1) (u.2 1)) p0)]) rfl ?_
  refine g_zret (u1 := u) hx hb hret hlk hQ hP hD hS dX2_isShallow_23 ?_ ?_ ?_
  · exact g_nar01 _ (xCon_01 _ _)
  · exact rfl
  · exact rfl
