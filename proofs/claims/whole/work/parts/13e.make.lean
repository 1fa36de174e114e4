theorem lkX3_make_61 : Cond.fieldLink RX3 61 "FetchHouseModel" "made" "I" ∈ wsX3_make := List.mem_of_getElem? (i := 1) (by decide +kernel)
theorem inX3_make_RX3 : ∀ w ∈ u_ws RX3 TX3 18, w ∈ wsX3_make := fun w h => List.mem_cons_of_mem _ (List.mem_append_right _ h)
abbrev rmX3_make_r0 : Room := { frames := 4, cells := 0, slots := 0, locals := 87 }
set_option maxHeartbeats 4000000 in
set_option maxRecDepth 100000 in
theorem ctX3_make_r0 (l : Launch) (D : va_G) (cI cZ : ClassId) (q : Nat → Nat) (u : SM) (n : Nat) (hn : u 15 0 = nI n) (h60 : n ≤ 60) (p1 p2 p3 p4 : Int32) (z : Int32) (hz : (mMakeC n (u 3) 0 p1 p2 p3 p4) = z) (hz0 : ¬ z = 0) : gM l yX3_make wsX3_make rmX3_make_r0 D [(cI, .int), (cZ, .boolean)] (MW cI cZ q) (fun _ => True) [.ref (q 0), .int 0, .int p1, .int p2, .int p3, .int p4] u (some (.int 0)) (mS u 14 (fun _ => z)) := by
  refine g_start (cc := cX3_make) (maxL := 9) (ret := (some .int)) (by decide) rfl (Nat.le_of_ble_eq_true rfl) ?_
  intro p e s m below meth c A ls Q hx hb hml hret hts hown hlk hE hP hK hD hA hl hQ hS
  have hown : s.vm.findClass RX3 = some m.cls := hown
  have hl : lv_has ls 9 [(0, .ref (q 0)), (1, .int 0), (2, .int p1), (3, .int p2), (4, .int p3), (5, .int p4)] := hl
  have hs : ¬ xRange 0 2 = 0 := by decide +kernel
  have c42 : ∀ (va : Int32) (H : Heap) (locs : List Loc) (ls : Array Slot) (hP : va_P D vwCl (MW cI cZ q u) H) (hD : va_D A (MW cI cZ q u)) (hS : va_S A s.heap H locs) (hl : lv_has ls 9 [(0, .ref (q 0)), (1, .int 0), (2, .int p1), (3, .int p2), (4, .int p3), (5, .int p4), (6, .int va)]) (hva : (mMkA n (u 3) 0 p1 p2 p3) = va), W p l e rmX3_make_r0 s m ([.ref (q 0), .int 0, .int p1, .int p2, .int p3, .int p4] : List Value).toArray below meth c H locs 0 0 Q (F0 m 42 ls []) := by
    intro va H locs ls hP hD hS hl hva
    have c75 : ∀ (vf : Int32) (H : Heap) (locs : List Loc) (ls : Array Slot) (hP : va_P D vwCl (MW cI cZ q u) H) (hD : va_D A (MW cI cZ q u)) (hS : va_S A s.heap H locs) (hl : lv_has ls 9 [(0, .ref (q 0)), (1, .int 0), (2, .int p1), (3, .int p2), (4, .int p3), (5, .int p4), (6, .int va), (7, .int vf)]) (hvf : (mMkF p1 p2 p4) = vf), W p l e rmX3_make_r0 s m ([.ref (q 0), .int 0, .int p1, .int p2, .int p3, .int p4] : List Value).toArray below meth c H locs 0 0 Q (F0 m 75 ls []) := by
      intro vf H locs ls hP hD hS hl hvf
      refine lv_aload_n hx hb dX3_make_75 rfl (lv_at hl 0 rfl) ?_
      refine lv_iload hx hb dX3_make_76 (lv_at hl 6 rfl) ?_
      refine lv_if_ne (tgt := 85) hx hb dX3_make_78 (by decide) (fun c_78 => ?_) (fun c_78 => ?_)
      · refine lv_iload hx hb dX3_make_85 (lv_at hl 7 rfl) ?_
        refine lv_if_ne (tgt := 94) hx hb dX3_make_87 (by decide) (fun c_87 => ?_) (fun c_87 => ?_)
        · refine lv_aload_n hx hb dX3_make_94 rfl (lv_at hl 0 rfl) ?_
          refine va_get (ci := 3) (v := .int (nI n)) (C := RX3) (T := TX3) (N := 18) hx hb hts inX3_make_RX3 hown hK hP 0 rfl rfl 1 (by decide) (hts _ lkX3_make_61) (fun _ h9 => h9) (congrArg (fun z => some (Value.int z)) hn) dX3_make_95 ?_
          refine lv_bipush (v := 60) hx hb dX3_make_98 (by decide +kernel) ?_
          refine lv_icmp_ne (tgt := 107) hx hb dX3_make_100 (by decide) (fun c_100 => ?_) (fun c_100 => ?_)
          · have n_100 : ¬ n = 60 := fun h => c_100 ((g_eqI (a := n) (b := 60) rfl rfl (by omega) (by decide)).mpr h)
            refine lv_iconst (v := 0) hx hb dX3_make_107 (by decide +kernel) ?_
            refine g_callV (As := [.int 0]) (rest := []) hx hb hml hown hts (ctX3_refused l D cI cZ q u 0) gX3_make_X3_refused rfl rfl rfl hdX3_refused ⟨Nat.le_of_ble_eq_true rfl, Nat.le_of_ble_eq_true rfl⟩ gEM_true trivial hP hK hD hS hA 0 rfl rfl rfl hl.1 rfl (Nat.le_of_ble_eq_true rfl) dX3_make_108 ⟨Nat.zero_le _, Nat.zero_le _⟩ (fun H locs hP hD hS => ?_)
            obtain ⟨hP, hD⟩ := g_toPD hP hD (MW_ext (Y := (mS u 14 (fun _ => 0))) (by refine ⟨?_, ?_, ?_, ?_, ?_, ?_, ?_, ?_, ?_, ?_, ?_, ?_, ?_, ?_, ?_, ?_, ?_, ?_⟩ <;> simp only [mS_at, ↓reduceIte, Nat.reduceEqDiff] <;> rfl))
            refine W.eq (g2 := F0 m 111 ls [.int (if 0 = 0 then 0 else 1)]) rfl ?_
            refine lv_if_eq (tgt := 116) hx hb dX3_make_111 (by decide) (fun c_111 => ?_) (fun c_111 => ?_)
            · exact absurd (hz.symm.trans (by unfold mMakeC; rw [hva, if_neg c_78, hvf, if_neg c_87, if_neg n_100])) hz0
            · exact absurd (show (0 : Int32) = 0 from rfl) c_111
          · have n_100 : n = 60 := (g_eqI (a := n) (b := 60) rfl rfl (by omega) (by decide)).mp c_100
            refine lv_iconst (v := 3) hx hb dX3_make_103 (by decide +kernel) ?_
            refine lv_goto (tgt := 108) hx hb dX3_make_104 (by decide) ?_
            refine g_callV (As := [.int 3]) (rest := []) hx hb hml hown hts (ctX3_refused l D cI cZ q u 3) gX3_make_X3_refused rfl rfl rfl hdX3_refused ⟨Nat.le_of_ble_eq_true rfl, Nat.le_of_ble_eq_true rfl⟩ gEM_true trivial hP hK hD hS hA 0 rfl rfl rfl hl.1 rfl (Nat.le_of_ble_eq_true rfl) dX3_make_108 ⟨Nat.zero_le _, Nat.zero_le _⟩ (fun H locs hP hD hS => ?_)
            obtain ⟨hP, hD⟩ := g_toPD hP hD (MW_ext (Y := (mS u 14 (fun _ => 3))) (by refine ⟨?_, ?_, ?_, ?_, ?_, ?_, ?_, ?_, ?_, ?_, ?_, ?_, ?_, ?_, ?_, ?_, ?_, ?_⟩ <;> simp only [mS_at, ↓reduceIte, Nat.reduceEqDiff] <;> rfl))
            refine W.eq (g2 := F0 m 111 ls [.int (if 3 = 0 then 0 else 1)]) rfl ?_
            refine lv_if_eq (tgt := 116) hx hb dX3_make_111 (by decide) (fun c_111 => ?_) (fun c_111 => ?_)
            · exact absurd c_111 (by decide)
            · refine lv_iconst (v := 0) hx hb dX3_make_114 (by decide +kernel) ?_
              refine g_iret (u1 := (mS u 14 (fun _ => 3))) hx hb hret hlk hQ hP hD hS dX3_make_115 ?_ ?_
              · exact rfl
              · exact (by rw [← hz, show (mMakeC n (u 3) 0 p1 p2 p3 p4) = 3 from by unfold mMakeC; rw [hva, if_neg c_78, hvf, if_neg c_87, if_pos n_100]])
        · refine lv_iconst (v := 2) hx hb dX3_make_90 (by decide +kernel) ?_
          refine lv_goto (tgt := 108) hx hb dX3_make_91 (by decide) ?_
          refine g_callV (As := [.int 2]) (rest := []) hx hb hml hown hts (ctX3_refused l D cI cZ q u 2) gX3_make_X3_refused rfl rfl rfl hdX3_refused ⟨Nat.le_of_ble_eq_true rfl, Nat.le_of_ble_eq_true rfl⟩ gEM_true trivial hP hK hD hS hA 0 rfl rfl rfl hl.1 rfl (Nat.le_of_ble_eq_true rfl) dX3_make_108 ⟨Nat.zero_le _, Nat.zero_le _⟩ (fun H locs hP hD hS => ?_)
          obtain ⟨hP, hD⟩ := g_toPD hP hD (MW_ext (Y := (mS u 14 (fun _ => 2))) (by refine ⟨?_, ?_, ?_, ?_, ?_, ?_, ?_, ?_, ?_, ?_, ?_, ?_, ?_, ?_, ?_, ?_, ?_, ?_⟩ <;> simp only [mS_at, ↓reduceIte, Nat.reduceEqDiff] <;> rfl))
          refine W.eq (g2 := F0 m 111 ls [.int (if 2 = 0 then 0 else 1)]) rfl ?_
          refine lv_if_eq (tgt := 116) hx hb dX3_make_111 (by decide) (fun c_111 => ?_) (fun c_111 => ?_)
          · exact absurd c_111 (by decide)
          · refine lv_iconst (v := 0) hx hb dX3_make_114 (by decide +kernel) ?_
            refine g_iret (u1 := (mS u 14 (fun _ => 2))) hx hb hret hlk hQ hP hD hS dX3_make_115 ?_ ?_
            · exact rfl
            · exact (by rw [← hz, show (mMakeC n (u 3) 0 p1 p2 p3 p4) = 2 from by unfold mMakeC; rw [hva, if_neg c_78, hvf, if_pos c_87]])
      · refine lv_iconst (v := 1) hx hb dX3_make_81 (by decide +kernel) ?_
        refine lv_goto (tgt := 108) hx hb dX3_make_82 (by decide) ?_
        refine g_callV (As := [.int 1]) (rest := []) hx hb hml hown hts (ctX3_refused l D cI cZ q u 1) gX3_make_X3_refused rfl rfl rfl hdX3_refused ⟨Nat.le_of_ble_eq_true rfl, Nat.le_of_ble_eq_true rfl⟩ gEM_true trivial hP hK hD hS hA 0 rfl rfl rfl hl.1 rfl (Nat.le_of_ble_eq_true rfl) dX3_make_108 ⟨Nat.zero_le _, Nat.zero_le _⟩ (fun H locs hP hD hS => ?_)
        obtain ⟨hP, hD⟩ := g_toPD hP hD (MW_ext (Y := (mS u 14 (fun _ => 1))) (by refine ⟨?_, ?_, ?_, ?_, ?_, ?_, ?_, ?_, ?_, ?_, ?_, ?_, ?_, ?_, ?_, ?_, ?_, ?_⟩ <;> simp only [mS_at, ↓reduceIte, Nat.reduceEqDiff] <;> rfl))
        refine W.eq (g2 := F0 m 111 ls [.int (if 1 = 0 then 0 else 1)]) rfl ?_
        refine lv_if_eq (tgt := 116) hx hb dX3_make_111 (by decide) (fun c_111 => ?_) (fun c_111 => ?_)
        · exact absurd c_111 (by decide)
        · refine lv_iconst (v := 0) hx hb dX3_make_114 (by decide +kernel) ?_
          refine g_iret (u1 := (mS u 14 (fun _ => 1))) hx hb hret hlk hQ hP hD hS dX3_make_115 ?_ ?_
          · exact rfl
          · exact (by rw [← hz, show (mMakeC n (u 3) 0 p1 p2 p3 p4) = 1 from by unfold mMakeC; rw [hva, if_pos c_78]])
    refine lv_iload hx hb dX3_make_42 (lv_at hl 5 rfl) ?_
    refine lv_iconst (v := (-1)) hx hb dX3_make_44 (by decide +kernel) ?_
    refine lv_bipush (v := 99) hx hb dX3_make_45 (by decide +kernel) ?_
    refine g_callS0 (As := [.int p4, .int (-1), .int 99]) (rest := []) hx hb hml hown hts (ctX3_in l D cI cZ q p4 (-1) 99) gX3_make_X3_in rfl rfl rfl hdX3_in ⟨Nat.le_of_ble_eq_true rfl, Nat.le_of_ble_eq_true rfl⟩ gEM_true trivial hP hK hS hA rfl hl.1 rfl (Nat.le_of_ble_eq_true rfl) dX3_make_47 ⟨Nat.zero_le _, Nat.zero_le _⟩ (fun H locs hP hS => ?_)
    refine W.eq (g2 := F0 m 50 ls [.int (mIn p4 (-1) 99)]) rfl ?_
    refine lv_if_eq (tgt := 72) hx hb dX3_make_50 (by decide) (fun c_50 => ?_) (fun c_50 => ?_)
    · refine lv_iconst (v := 0) hx hb dX3_make_72 (by decide +kernel) ?_
      refine lv_istore (lv' := [(7, .int 0), (0, .ref (q 0)), (1, .int 0), (2, .int p1), (3, .int p2), (4, .int p3), (5, .int p4), (6, .int va)]) hx hb dX3_make_73 hl (by decide) rfl (fun ls hl => ?_)
      exact c75 0 _ _ _ hP hD hS (lv_sub hl [1, 2, 3, 4, 5, 6, 7, 0] rfl) (by unfold mMkF; rw [if_pos c_50])
    · refine lv_iload_n hx hb dX3_make_53 rfl (lv_at hl 3 rfl) ?_
      refine lv_iconst (v := (-1)) hx hb dX3_make_54 (by decide +kernel) ?_
      refine lv_icmp_eq (tgt := 68) hx hb dX3_make_55 (by decide) (fun c_55 => ?_) (fun c_55 => ?_)
      · refine lv_iconst (v := 1) hx hb dX3_make_68 (by decide +kernel) ?_
        refine lv_goto (tgt := 73) hx hb dX3_make_69 (by decide) ?_
        refine lv_istore (lv' := [(7, .int 1), (0, .ref (q 0)), (1, .int 0), (2, .int p1), (3, .int p2), (4, .int p3), (5, .int p4), (6, .int va)]) hx hb dX3_make_73 hl (by decide) rfl (fun ls hl => ?_)
        exact c75 1 _ _ _ hP hD hS (lv_sub hl [1, 2, 3, 4, 5, 6, 7, 0] rfl) (by unfold mMkF; rw [if_neg c_50, if_pos c_55])
      · refine lv_iload_n hx hb dX3_make_58 rfl (lv_at hl 2 rfl) ?_
        refine lv_iconst (v := (-1)) hx hb dX3_make_59 (by decide +kernel) ?_
        refine lv_icmp_eq (tgt := 72) hx hb dX3_make_60 (by decide) (fun c_60 => ?_) (fun c_60 => ?_)
        · refine lv_iconst (v := 0) hx hb dX3_make_72 (by decide +kernel) ?_
          refine lv_istore (lv' := [(7, .int 0), (0, .ref (q 0)), (1, .int 0), (2, .int p1), (3, .int p2), (4, .int p3), (5, .int p4), (6, .int va)]) hx hb dX3_make_73 hl (by decide) rfl (fun ls hl => ?_)
          exact c75 0 _ _ _ hP hD hS (lv_sub hl [1, 2, 3, 4, 5, 6, 7, 0] rfl) (by unfold mMkF; rw [if_neg c_50, if_neg c_55, if_pos c_60])
        · refine lv_iload_n hx hb dX3_make_63 rfl (lv_at hl 2 rfl) ?_
          refine lv_iload_n hx hb dX3_make_64 rfl (lv_at hl 3 rfl) ?_
          refine lv_icmp_eq (tgt := 72) hx hb dX3_make_65 (by decide) (fun c_65 => ?_) (fun c_65 => ?_)
          · refine lv_iconst (v := 0) hx hb dX3_make_72 (by decide +kernel) ?_
            refine lv_istore (lv' := [(7, .int 0), (0, .ref (q 0)), (1, .int 0), (2, .int p1), (3, .int p2), (4, .int p3), (5, .int p4), (6, .int va)]) hx hb dX3_make_73 hl (by decide) rfl (fun ls hl => ?_)
            exact c75 0 _ _ _ hP hD hS (lv_sub hl [1, 2, 3, 4, 5, 6, 7, 0] rfl) (by unfold mMkF; rw [if_neg c_50, if_neg c_55, if_neg c_60, if_pos c_65])
          · refine lv_iconst (v := 1) hx hb dX3_make_68 (by decide +kernel) ?_
            refine lv_goto (tgt := 73) hx hb dX3_make_69 (by decide) ?_
            refine lv_istore (lv' := [(7, .int 1), (0, .ref (q 0)), (1, .int 0), (2, .int p1), (3, .int p2), (4, .int p3), (5, .int p4), (6, .int va)]) hx hb dX3_make_73 hl (by decide) rfl (fun ls hl => ?_)
            exact c75 1 _ _ _ hP hD hS (lv_sub hl [1, 2, 3, 4, 5, 6, 7, 0] rfl) (by unfold mMkF; rw [if_neg c_50, if_neg c_55, if_neg c_60, if_neg c_65])
  refine lv_iload_n hx hb dX3_make_0 rfl (lv_at hl 1 rfl) ?_
  refine g_callS0 (As := [.int 0]) (rest := []) hx hb hml hown hts (ctX3_isStore l D cI cZ q 0) gX3_make_X3_isStore rfl rfl rfl hdX3_isStore ⟨Nat.le_of_ble_eq_true rfl, Nat.le_of_ble_eq_true rfl⟩ gEM_true trivial hP hK hS hA rfl hl.1 rfl (Nat.le_of_ble_eq_true rfl) dX3_make_1 ⟨Nat.zero_le _, Nat.zero_le _⟩ (fun H locs hP hS => ?_)
  refine W.eq (g2 := F0 m 4 ls [.int (xRange 0 2)]) rfl ?_
  refine lv_if_eq (tgt := 39) hx hb dX3_make_4 (by decide) (fun c_4 => ?_) (fun c_4 => ?_)
  · exact absurd c_4 hs
  · refine lv_iload hx hb dX3_make_7 (lv_at hl 4 rfl) ?_
    refine lv_iconst (v := 0) hx hb dX3_make_9 (by decide +kernel) ?_
    refine lv_iconst (v := 3) hx hb dX3_make_10 (by decide +kernel) ?_
    refine g_callS0 (As := [.int p3, .int 0, .int 3]) (rest := []) hx hb hml hown hts (ctX3_in_4 l D cI cZ q p3) gX3_make_X3_in rfl rfl rfl hdX3_in ⟨Nat.le_of_ble_eq_true rfl, Nat.le_of_ble_eq_true rfl⟩ gEM_true trivial hP hK hS hA rfl hl.1 rfl (Nat.le_of_ble_eq_true rfl) dX3_make_11 ⟨Nat.zero_le _, Nat.zero_le _⟩ (fun H locs hP hS => ?_)
    refine W.eq (g2 := F0 m 14 ls [.int (xRange p3 4)]) rfl ?_
    refine lv_if_eq (tgt := 39) hx hb dX3_make_14 (by decide) (fun c_14 => ?_) (fun c_14 => ?_)
    · refine lv_iconst (v := 0) hx hb dX3_make_39 (by decide +kernel) ?_
      refine lv_istore (lv' := [(6, .int 0), (0, .ref (q 0)), (1, .int 0), (2, .int p1), (3, .int p2), (4, .int p3), (5, .int p4)]) hx hb dX3_make_40 hl (by decide) rfl (fun ls hl => ?_)
      exact c42 0 _ _ _ hP hD hS (lv_sub hl [1, 2, 3, 4, 5, 6, 0] rfl) (by unfold mMkA; rw [if_pos c_14])
    · refine lv_aload_n hx hb dX3_make_17 rfl (lv_at hl 0 rfl) ?_
      refine lv_iload_n hx hb dX3_make_18 rfl (lv_at hl 1 rfl) ?_
      refine lv_iload_n hx hb dX3_make_19 rfl (lv_at hl 2 rfl) ?_
      refine g_callV (As := [.int 0, .int p1]) (rest := []) hx hb hml hown hts (ctX3_isInOrNone_0 l D cI cZ q u n hn h60 p1) gX3_make_X3_isInOrNone rfl rfl rfl hdX3_isInOrNone ⟨Nat.le_of_ble_eq_true rfl, Nat.le_of_ble_eq_true rfl⟩ gEM_true trivial hP hK hD hS hA 0 rfl rfl rfl hl.1 rfl (Nat.le_of_ble_eq_true rfl) dX3_make_20 ⟨Nat.zero_le _, Nat.zero_le _⟩ (fun H locs hP hD hS => ?_)
      refine W.eq (g2 := F0 m 23 ls [.int (mHasN n (u 3) 0 p1)]) rfl ?_
      refine lv_if_eq (tgt := 39) hx hb dX3_make_23 (by decide) (fun c_23 => ?_) (fun c_23 => ?_)
      · refine lv_iconst (v := 0) hx hb dX3_make_39 (by decide +kernel) ?_
        refine lv_istore (lv' := [(6, .int 0), (0, .ref (q 0)), (1, .int 0), (2, .int p1), (3, .int p2), (4, .int p3), (5, .int p4)]) hx hb dX3_make_40 hl (by decide) rfl (fun ls hl => ?_)
        exact c42 0 _ _ _ hP hD hS (lv_sub hl [1, 2, 3, 4, 5, 6, 0] rfl) (by unfold mMkA; rw [if_neg c_14, if_pos c_23])
      · refine lv_aload_n hx hb dX3_make_26 rfl (lv_at hl 0 rfl) ?_
        refine lv_iload_n hx hb dX3_make_27 rfl (lv_at hl 1 rfl) ?_
        refine lv_iload_n hx hb dX3_make_28 rfl (lv_at hl 3 rfl) ?_
        refine g_callV (As := [.int 0, .int p2]) (rest := []) hx hb hml hown hts (ctX3_isInOrNone_0 l D cI cZ q u n hn h60 p2) gX3_make_X3_isInOrNone rfl rfl rfl hdX3_isInOrNone ⟨Nat.le_of_ble_eq_true rfl, Nat.le_of_ble_eq_true rfl⟩ gEM_true trivial hP hK hD hS hA 0 rfl rfl rfl hl.1 rfl (Nat.le_of_ble_eq_true rfl) dX3_make_29 ⟨Nat.zero_le _, Nat.zero_le _⟩ (fun H locs hP hD hS => ?_)
        refine W.eq (g2 := F0 m 32 ls [.int (mHasN n (u 3) 0 p2)]) rfl ?_
        refine lv_if_eq (tgt := 39) hx hb dX3_make_32 (by decide) (fun c_32 => ?_) (fun c_32 => ?_)
        · refine lv_iconst (v := 0) hx hb dX3_make_39 (by decide +kernel) ?_
          refine lv_istore (lv' := [(6, .int 0), (0, .ref (q 0)), (1, .int 0), (2, .int p1), (3, .int p2), (4, .int p3), (5, .int p4)]) hx hb dX3_make_40 hl (by decide) rfl (fun ls hl => ?_)
          exact c42 0 _ _ _ hP hD hS (lv_sub hl [1, 2, 3, 4, 5, 6, 0] rfl) (by unfold mMkA; rw [if_neg c_14, if_neg c_23, if_pos c_32])
        · refine lv_iconst (v := 1) hx hb dX3_make_35 (by decide +kernel) ?_
          refine lv_goto (tgt := 40) hx hb dX3_make_36 (by decide) ?_
          refine lv_istore (lv' := [(6, .int 1), (0, .ref (q 0)), (1, .int 0), (2, .int p1), (3, .int p2), (4, .int p3), (5, .int p4)]) hx hb dX3_make_40 hl (by decide) rfl (fun ls hl => ?_)
          exact c42 1 _ _ _ hP hD hS (lv_sub hl [1, 2, 3, 4, 5, 6, 0] rfl) (by unfold mMkA; rw [if_neg c_14, if_neg c_23, if_neg c_32])
theorem lkX3_make_13 : Cond.fieldLink RX3 13 "FetchHouseModel" "seconds" "[I" ∈ wsX3_make := List.mem_of_getElem? (i := 3) (by decide +kernel)
theorem lkX3_make_16 : Cond.fieldLink RX3 16 "FetchHouseModel" "slots" "[I" ∈ wsX3_make := List.mem_of_getElem? (i := 4) (by decide +kernel)
theorem lkX3_make_19 : Cond.fieldLink RX3 19 "FetchHouseModel" "hasCommit" "[Z" ∈ wsX3_make := List.mem_of_getElem? (i := 5) (by decide +kernel)
theorem lkX3_make_23 : Cond.fieldLink RX3 23 "FetchHouseModel" "hasFile" "[Z" ∈ wsX3_make := List.mem_of_getElem? (i := 6) (by decide +kernel)
theorem lkX3_make_7 : Cond.fieldLink RX3 7 "FetchHouseModel" "firsts" "[I" ∈ wsX3_make := List.mem_of_getElem? (i := 2) (by decide +kernel)
abbrev rmX3_make_0 : Room := { frames := 4, cells := 0, slots := 0, locals := 87 }
set_option maxHeartbeats 4000000 in
set_option maxRecDepth 100000 in
theorem ctX3_make_0 (l : Launch) (D : va_G) (cI cZ : ClassId) (q : Nat → Nat) (u : SM) (n : Nat) (hn : u 15 0 = nI n) (h60 : n ≤ 60) (p1 p2 p3 p4 : Int32) (hz : (mMakeC n (u 3) 0 p1 p2 p3 p4) = 0) : gM l yX3_make wsX3_make rmX3_make_0 D [(cI, .int), (cZ, .boolean)] (MW cI cZ q) (fun _ => True) [.ref (q 0), .int 0, .int p1, .int p2, .int p3, .int p4] u (some (.int (nI n))) (mS (mS (mS (mS (mS (mS (mS u 14 (fun _ => 0)) 0 (upd (u 0) n p1)) 1 (upd (u 1) n p2)) 2 (mMakeS n p1 p3 p4 (u 2))) 3 (upd (u 3) (60 * 0 + n) 1)) 4 (mMakeF 0 p4 (u 4))) 15 (fun _ => (nI (n + 1)))) := by
  refine g_start (cc := cX3_make) (maxL := 9) (ret := (some .int)) (by decide) rfl (Nat.le_of_ble_eq_true rfl) ?_
  intro p e s m below meth c A ls Q hx hb hml hret hts hown hlk hE hP hK hD hA hl hQ hS
  have hown : s.vm.findClass RX3 = some m.cls := hown
  have hl : lv_has ls 9 [(0, .ref (q 0)), (1, .int 0), (2, .int p1), (3, .int p2), (4, .int p3), (5, .int p4)] := hl
  have hs : ¬ xRange 0 2 = 0 := by decide +kernel
  have c42 : ∀ (va : Int32) (H : Heap) (locs : List Loc) (ls : Array Slot) (hP : va_P D vwCl (MW cI cZ q u) H) (hD : va_D A (MW cI cZ q u)) (hS : va_S A s.heap H locs) (hl : lv_has ls 9 [(0, .ref (q 0)), (1, .int 0), (2, .int p1), (3, .int p2), (4, .int p3), (5, .int p4), (6, .int va)]) (hva : (mMkA n (u 3) 0 p1 p2 p3) = va), W p l e rmX3_make_0 s m ([.ref (q 0), .int 0, .int p1, .int p2, .int p3, .int p4] : List Value).toArray below meth c H locs 0 0 Q (F0 m 42 ls []) := by
    intro va H locs ls hP hD hS hl hva
    have c75 : ∀ (vf : Int32) (H : Heap) (locs : List Loc) (ls : Array Slot) (hP : va_P D vwCl (MW cI cZ q u) H) (hD : va_D A (MW cI cZ q u)) (hS : va_S A s.heap H locs) (hl : lv_has ls 9 [(0, .ref (q 0)), (1, .int 0), (2, .int p1), (3, .int p2), (4, .int p3), (5, .int p4), (6, .int va), (7, .int vf)]) (hvf : (mMkF p1 p2 p4) = vf), W p l e rmX3_make_0 s m ([.ref (q 0), .int 0, .int p1, .int p2, .int p3, .int p4] : List Value).toArray below meth c H locs 0 0 Q (F0 m 75 ls []) := by
      intro vf H locs ls hP hD hS hl hvf
      refine lv_aload_n hx hb dX3_make_75 rfl (lv_at hl 0 rfl) ?_
      refine lv_iload hx hb dX3_make_76 (lv_at hl 6 rfl) ?_
      refine lv_if_ne (tgt := 85) hx hb dX3_make_78 (by decide) (fun c_78 => ?_) (fun c_78 => ?_)
      · refine lv_iload hx hb dX3_make_85 (lv_at hl 7 rfl) ?_
        refine lv_if_ne (tgt := 94) hx hb dX3_make_87 (by decide) (fun c_87 => ?_) (fun c_87 => ?_)
        · refine lv_aload_n hx hb dX3_make_94 rfl (lv_at hl 0 rfl) ?_
          refine va_get (ci := 3) (v := .int (nI n)) (C := RX3) (T := TX3) (N := 18) hx hb hts inX3_make_RX3 hown hK hP 0 rfl rfl 1 (by decide) (hts _ lkX3_make_61) (fun _ h9 => h9) (congrArg (fun z => some (Value.int z)) hn) dX3_make_95 ?_
          refine lv_bipush (v := 60) hx hb dX3_make_98 (by decide +kernel) ?_
          refine lv_icmp_ne (tgt := 107) hx hb dX3_make_100 (by decide) (fun c_100 => ?_) (fun c_100 => ?_)
          · have n_100 : ¬ n = 60 := fun h => c_100 ((g_eqI (a := n) (b := 60) rfl rfl (by omega) (by decide)).mpr h)
            refine lv_iconst (v := 0) hx hb dX3_make_107 (by decide +kernel) ?_
            refine g_callV (As := [.int 0]) (rest := []) hx hb hml hown hts (ctX3_refused l D cI cZ q u 0) gX3_make_X3_refused rfl rfl rfl hdX3_refused ⟨Nat.le_of_ble_eq_true rfl, Nat.le_of_ble_eq_true rfl⟩ gEM_true trivial hP hK hD hS hA 0 rfl rfl rfl hl.1 rfl (Nat.le_of_ble_eq_true rfl) dX3_make_108 ⟨Nat.zero_le _, Nat.zero_le _⟩ (fun H locs hP hD hS => ?_)
            obtain ⟨hP, hD⟩ := g_toPD hP hD (MW_ext (Y := (mS u 14 (fun _ => 0))) (by refine ⟨?_, ?_, ?_, ?_, ?_, ?_, ?_, ?_, ?_, ?_, ?_, ?_, ?_, ?_, ?_, ?_, ?_, ?_⟩ <;> simp only [mS_at, ↓reduceIte, Nat.reduceEqDiff] <;> rfl))
            refine W.eq (g2 := F0 m 111 ls [.int (if 0 = 0 then 0 else 1)]) rfl ?_
            refine lv_if_eq (tgt := 116) hx hb dX3_make_111 (by decide) (fun c_111 => ?_) (fun c_111 => ?_)
            · have hn60 : n < 60 := by omega
              obtain ⟨ha1, ha2⟩ := mMkA_ne (h := fun e => c_78 (hva.symm.trans e))
              have hf1 := mMkF_ne (h := fun e => c_87 (hvf.symm.trans e))
              refine lv_aload_n hx hb dX3_make_116 rfl (lv_at hl 0 rfl) ?_
              refine va_get (ci := 3) (v := .ref (q 1)) (C := RX3) (T := TX3) (N := 18) hx hb hts inX3_make_RX3 hown hK hP 0 rfl rfl 2 (by decide) (hts _ lkX3_make_7) (fun _ h9 => h9) rfl dX3_make_117 ?_
              refine lv_aload_n hx hb dX3_make_120 rfl (lv_at hl 0 rfl) ?_
              refine va_get (ci := 3) (v := .int (nI n)) (C := RX3) (T := TX3) (N := 18) hx hb hts inX3_make_RX3 hown hK hP 0 rfl rfl 1 (by decide) (hts _ lkX3_make_61) (fun _ h9 => h9) (congrArg (fun z => some (Value.int z)) hn) dX3_make_121 ?_
              refine lv_iload_n hx hb dX3_make_124 rfl (lv_at hl 2 rfl) ?_
              refine g_iast (n := 60) (f := (u 0)) (u' := (mS (mS u 14 (fun _ => 0)) 0 (upd (u 0) n p1))) hx hb hK hP hD hS 1 0 (by rw [MW_get_0, show (mS u 14 (fun _ => 0)) 0 = (u 0) from by simp only [mS_at, ↓reduceIte, Nat.reduceEqDiff]]) rfl n (by omega) (by omega) rfl (MW_set_0 _ _) dX3_make_125 (fun H locs hP hD hS => ?_)
              refine lv_aload_n hx hb dX3_make_126 rfl (lv_at hl 0 rfl) ?_
              refine va_get (ci := 3) (v := .ref (q 2)) (C := RX3) (T := TX3) (N := 18) hx hb hts inX3_make_RX3 hown hK hP 0 rfl rfl 3 (by decide) (hts _ lkX3_make_13) (fun _ h9 => h9) rfl dX3_make_127 ?_
              refine lv_aload_n hx hb dX3_make_130 rfl (lv_at hl 0 rfl) ?_
              refine va_get (ci := 3) (v := .int (nI n)) (C := RX3) (T := TX3) (N := 18) hx hb hts inX3_make_RX3 hown hK hP 0 rfl rfl 1 (by decide) (hts _ lkX3_make_61) (fun _ h9 => h9) (congrArg (fun z => some (Value.int z)) hn) dX3_make_131 ?_
              refine lv_iload_n hx hb dX3_make_134 rfl (lv_at hl 3 rfl) ?_
              refine g_iast (n := 60) (f := (u 1)) (u' := (mS (mS (mS u 14 (fun _ => 0)) 0 (upd (u 0) n p1)) 1 (upd (u 1) n p2))) hx hb hK hP hD hS 2 0 (by rw [MW_get_1, show (mS (mS u 14 (fun _ => 0)) 0 (upd (u 0) n p1)) 1 = (u 1) from by simp only [mS_at, ↓reduceIte, Nat.reduceEqDiff]]) rfl n (by omega) (by omega) rfl (MW_set_1 _ _) dX3_make_135 (fun H locs hP hD hS => ?_)
              refine lv_iconst (v := (nI 0)) hx hb dX3_make_136 (by decide +kernel) ?_
              refine lv_istore (lv' := [(8, .int (nI 0)), (0, .ref (q 0)), (1, .int 0), (2, .int p1), (3, .int p2), (4, .int p3), (5, .int p4), (6, .int va), (7, .int vf)]) hx hb dX3_make_137 hl (by decide) rfl (fun ls hl => ?_)
              have loop : ∀ (d k : Nat) (sl : Nat → Int32) (H : Heap) (locs : List Loc) (ls : Array Slot) (hP : va_P D vwCl (MW cI cZ q (mS (mS (mS (mS u 0 (upd (u 0) n p1)) 1 (upd (u 1) n p2)) 2 sl) 14 (fun _ => 0))) H) (hD : va_D A (MW cI cZ q (mS (mS (mS (mS u 0 (upd (u 0) n p1)) 1 (upd (u 1) n p2)) 2 sl) 14 (fun _ => 0)))) (hS : va_S A s.heap H locs) (hl : lv_has ls 9 [(0, .ref (q 0)), (1, .int 0), (2, .int p1), (3, .int p2), (4, .int p3), (5, .int p4), (6, .int va), (7, .int vf), (8, .int (nI k))]) (hk : k + d = 4) (hr : itU (mMakeStep n p1 p3 p4) d k sl = (mMakeS n p1 p3 p4 (u 2))), W p l e rmX3_make_0 s m ([.ref (q 0), .int 0, .int p1, .int p2, .int p3, .int p4] : List Value).toArray below meth c H locs 0 0 Q (F0 m 139 ls []) := by
                intro d
                induction d with
                | zero =>
                  intro k sl H locs ls hP hD hS hl hk hr
                  refine lv_iload hx hb dX3_make_139 (lv_at hl 8 rfl) ?_
                  refine lv_iconst (v := 4) hx hb dX3_make_141 (by decide +kernel) ?_
                  refine lv_icmp_ge (tgt := 197) hx hb dX3_make_142 (by decide) (fun c_142 => ?_) (fun c_142 => ?_)
                  · have n_142 : 4 ≤ k := (g_leI (a := 4) (b := k) rfl rfl (by decide) (by omega)).mp c_142
                    refine lv_aload_n hx hb dX3_make_197 rfl (lv_at hl 0 rfl) ?_
                    refine va_get (ci := 3) (v := .ref (q 4)) (C := RX3) (T := TX3) (N := 18) hx hb hts inX3_make_RX3 hown hK hP 0 rfl rfl 5 (by decide) (hts _ lkX3_make_19) (fun _ h9 => h9) rfl dX3_make_198 ?_
                    refine lv_bipush (v := 60) hx hb dX3_make_201 (by decide +kernel) ?_
                    refine lv_iload_n hx hb dX3_make_203 rfl (lv_at hl 1 rfl) ?_
                    refine lv_imul hx hb dX3_make_204 ?_
                    refine lv_aload_n hx hb dX3_make_205 rfl (lv_at hl 0 rfl) ?_
                    refine va_get (ci := 3) (v := .int (nI n)) (C := RX3) (T := TX3) (N := 18) hx hb hts inX3_make_RX3 hown hK hP 0 rfl rfl 1 (by decide) (hts _ lkX3_make_61) (fun _ h9 => h9) (congrArg (fun z => some (Value.int z)) hn) dX3_make_206 ?_
                    refine lv_iadd hx hb dX3_make_209 ?_
                    refine lv_iconst (v := 1) hx hb dX3_make_210 (by decide +kernel) ?_
                    refine g_zast (n := 120) (f := (u 3)) (u' := (mS (mS (mS (mS (mS u 0 (upd (u 0) n p1)) 1 (upd (u 1) n p2)) 2 sl) 14 (fun _ => 0)) 3 (upd (u 3) (60 * 0 + n) 1))) hx hb hK hP hD hS 4 1 (by rw [MW_get_3, show (mS (mS (mS (mS u 0 (upd (u 0) n p1)) 1 (upd (u 1) n p2)) 2 sl) 14 (fun _ => 0)) 3 = (u 3) from by simp only [mS_at, ↓reduceIte, Nat.reduceEqDiff]]) rfl (60 * 0 + n) (by omega) (by omega) (g_addE (g_mulE rfl rfl) rfl) rfl (MW_set_3 _ _) dX3_make_211 (fun H locs hP hD hS => ?_)
                    refine lv_iload hx hb dX3_make_212 (lv_at hl 5 rfl) ?_
                    refine lv_iconst (v := (-1)) hx hb dX3_make_214 (by decide +kernel) ?_
                    refine lv_icmp_eq (tgt := 231) hx hb dX3_make_215 (by decide) (fun c_215 => ?_) (fun c_215 => ?_)
                    · refine lv_aload_n hx hb dX3_make_231 rfl (lv_at hl 0 rfl) ?_
                      refine lv_dup hx hb dX3_make_232 rfl ?_
                      refine va_get (ci := 3) (v := .int (nI n)) (C := RX3) (T := TX3) (N := 18) hx hb hts inX3_make_RX3 hown hK hP 0 rfl rfl 1 (by decide) (hts _ lkX3_make_61) (fun _ h9 => h9) (congrArg (fun z => some (Value.int z)) hn) dX3_make_233 ?_
                      refine lv_iconst (v := 1) hx hb dX3_make_236 (by decide +kernel) ?_
                      refine lv_iadd hx hb dX3_make_237 ?_
                      refine W.eq (g2 := F0 m 238 ls [.int (nI (n + 1)), .ref (q 0)]) (by rw [nI_1]) ?_
                      refine va_put (ci := 3) (v := .int (nI (n + 1))) (ty := .int) (C := RX3) (T := TX3) (N := 18) hx hb hts inX3_make_RX3 tyX3 tyX3_ok nmX3 hown hK hP hD hS 0 rfl rfl 1 (by decide) (hts _ lkX3_make_61) (fun _ h9 => h9) rfl (by decide +kernel) rfl rfl (Nat.le_of_ble_eq_true rfl) dX3_make_238 (fun H locs hP hD hS => ?_)
                      obtain ⟨hP, hD⟩ := g_toPD hP hD (MW_put_15 (u := (mS (mS (mS (mS (mS u 0 (upd (u 0) n p1)) 1 (upd (u 1) n p2)) 2 sl) 14 (fun _ => 0)) 3 (upd (u 3) (60 * 0 + n) 1))) (nI (n + 1)))
                      refine lv_aload_n hx hb dX3_make_241 rfl (lv_at hl 0 rfl) ?_
                      refine va_get (ci := 3) (v := .int (nI (n + 1))) (C := RX3) (T := TX3) (N := 18) hx hb hts inX3_make_RX3 hown hK hP 0 rfl rfl 1 (by decide) (hts _ lkX3_make_61) (fun _ h9 => h9) rfl dX3_make_242 ?_
                      refine lv_iconst (v := 1) hx hb dX3_make_245 (by decide +kernel) ?_
                      refine lv_isub hx hb dX3_make_246 ?_
                      refine g_iret (u1 := (mS (mS (mS (mS (mS (mS u 0 (upd (u 0) n p1)) 1 (upd (u 1) n p2)) 2 sl) 14 (fun _ => 0)) 3 (upd (u 3) (60 * 0 + n) 1)) 15 (fun _ => (nI (n + 1))))) hx hb hret hlk hQ hP hD hS dX3_make_247 ?_ ?_
                      · exact (by rw [nI_pred])
                      · exact (by rw [← hr, show (mMakeF 0 p4 (u 4)) = (u 4) from by unfold mMakeF; rw [if_pos c_215]] <;> exact (MW_ext (by refine ⟨?_, ?_, ?_, ?_, ?_, ?_, ?_, ?_, ?_, ?_, ?_, ?_, ?_, ?_, ?_, ?_, ?_, ?_⟩ <;> simp only [mS_at, ↓reduceIte, Nat.reduceEqDiff] <;> rfl)))
                    · obtain ⟨f, hf, hf2⟩ := mIn_m1 hf1 c_215
                      have hfc : p4.toNatClampNeg = f := by rw [hf2, nI_clamp (by omega)]
                      have hfl : p4.toNatClampNeg < 100 := by rw [hfc]; exact hf
                      have hfe : p4 = nI p4.toNatClampNeg := by rw [hfc]; exact hf2
                      refine lv_aload_n hx hb dX3_make_218 rfl (lv_at hl 0 rfl) ?_
                      refine va_get (ci := 3) (v := .ref (q 5)) (C := RX3) (T := TX3) (N := 18) hx hb hts inX3_make_RX3 hown hK hP 0 rfl rfl 6 (by decide) (hts _ lkX3_make_23) (fun _ h9 => h9) rfl dX3_make_219 ?_
                      refine lv_bipush (v := 100) hx hb dX3_make_222 (by decide +kernel) ?_
                      refine lv_iload_n hx hb dX3_make_224 rfl (lv_at hl 1 rfl) ?_
                      refine lv_imul hx hb dX3_make_225 ?_
                      refine lv_iload hx hb dX3_make_226 (lv_at hl 5 rfl) ?_
                      refine lv_iadd hx hb dX3_make_228 ?_
                      refine lv_iconst (v := 1) hx hb dX3_make_229 (by decide +kernel) ?_
                      refine g_zast (n := 200) (f := (u 4)) (u' := (mS (mS (mS (mS (mS (mS u 0 (upd (u 0) n p1)) 1 (upd (u 1) n p2)) 2 sl) 14 (fun _ => 0)) 3 (upd (u 3) (60 * 0 + n) 1)) 4 (upd (u 4) (100 * 0 + p4.toNatClampNeg) 1))) hx hb hK hP hD hS 5 1 (by rw [MW_get_4, show (mS (mS (mS (mS (mS u 0 (upd (u 0) n p1)) 1 (upd (u 1) n p2)) 2 sl) 14 (fun _ => 0)) 3 (upd (u 3) (60 * 0 + n) 1)) 4 = (u 4) from by simp only [mS_at, ↓reduceIte, Nat.reduceEqDiff]]) rfl (100 * 0 + p4.toNatClampNeg) (by omega) (by omega) (g_addE (g_mulE rfl rfl) hfe) rfl (MW_set_4 _ _) dX3_make_230 (fun H locs hP hD hS => ?_)
                      refine lv_aload_n hx hb dX3_make_231 rfl (lv_at hl 0 rfl) ?_
                      refine lv_dup hx hb dX3_make_232 rfl ?_
                      refine va_get (ci := 3) (v := .int (nI n)) (C := RX3) (T := TX3) (N := 18) hx hb hts inX3_make_RX3 hown hK hP 0 rfl rfl 1 (by decide) (hts _ lkX3_make_61) (fun _ h9 => h9) (congrArg (fun z => some (Value.int z)) hn) dX3_make_233 ?_
                      refine lv_iconst (v := 1) hx hb dX3_make_236 (by decide +kernel) ?_
                      refine lv_iadd hx hb dX3_make_237 ?_
                      refine W.eq (g2 := F0 m 238 ls [.int (nI (n + 1)), .ref (q 0)]) (by rw [nI_1]) ?_
                      refine va_put (ci := 3) (v := .int (nI (n + 1))) (ty := .int) (C := RX3) (T := TX3) (N := 18) hx hb hts inX3_make_RX3 tyX3 tyX3_ok nmX3 hown hK hP hD hS 0 rfl rfl 1 (by decide) (hts _ lkX3_make_61) (fun _ h9 => h9) rfl (by decide +kernel) rfl rfl (Nat.le_of_ble_eq_true rfl) dX3_make_238 (fun H locs hP hD hS => ?_)
                      obtain ⟨hP, hD⟩ := g_toPD hP hD (MW_put_15 (u := (mS (mS (mS (mS (mS (mS u 0 (upd (u 0) n p1)) 1 (upd (u 1) n p2)) 2 sl) 14 (fun _ => 0)) 3 (upd (u 3) (60 * 0 + n) 1)) 4 (upd (u 4) (100 * 0 + p4.toNatClampNeg) 1))) (nI (n + 1)))
                      refine lv_aload_n hx hb dX3_make_241 rfl (lv_at hl 0 rfl) ?_
                      refine va_get (ci := 3) (v := .int (nI (n + 1))) (C := RX3) (T := TX3) (N := 18) hx hb hts inX3_make_RX3 hown hK hP 0 rfl rfl 1 (by decide) (hts _ lkX3_make_61) (fun _ h9 => h9) rfl dX3_make_242 ?_
                      refine lv_iconst (v := 1) hx hb dX3_make_245 (by decide +kernel) ?_
                      refine lv_isub hx hb dX3_make_246 ?_
                      refine g_iret (u1 := (mS (mS (mS (mS (mS (mS (mS u 0 (upd (u 0) n p1)) 1 (upd (u 1) n p2)) 2 sl) 14 (fun _ => 0)) 3 (upd (u 3) (60 * 0 + n) 1)) 4 (upd (u 4) (100 * 0 + p4.toNatClampNeg) 1)) 15 (fun _ => (nI (n + 1))))) hx hb hret hlk hQ hP hD hS dX3_make_247 ?_ ?_
                      · exact (by rw [nI_pred])
                      · exact (by rw [← hr, show (mMakeF 0 p4 (u 4)) = (upd (u 4) (100 * 0 + p4.toNatClampNeg) 1) from by unfold mMakeF; rw [if_neg c_215]] <;> exact (MW_ext (by refine ⟨?_, ?_, ?_, ?_, ?_, ?_, ?_, ?_, ?_, ?_, ?_, ?_, ?_, ?_, ?_, ?_, ?_, ?_⟩ <;> simp only [mS_at, ↓reduceIte, Nat.reduceEqDiff] <;> rfl)))
                  · have n_142 : ¬ 4 ≤ k := fun h => c_142 ((g_leI (a := 4) (b := k) rfl rfl (by decide) (by omega)).mpr h)
                    exfalso; omega
                | succ d ih =>
                  intro k sl H locs ls hP hD hS hl hk hr
                  refine lv_iload hx hb dX3_make_139 (lv_at hl 8 rfl) ?_
                  refine lv_iconst (v := 4) hx hb dX3_make_141 (by decide +kernel) ?_
                  refine lv_icmp_ge (tgt := 197) hx hb dX3_make_142 (by decide) (fun c_142 => ?_) (fun c_142 => ?_)
                  · have n_142 : 4 ≤ k := (g_leI (a := 4) (b := k) rfl rfl (by decide) (by omega)).mp c_142
                    exfalso; omega
                  · have n_142 : ¬ 4 ≤ k := fun h => c_142 ((g_leI (a := 4) (b := k) rfl rfl (by decide) (by omega)).mpr h)
                    refine lv_aload_n hx hb dX3_make_145 rfl (lv_at hl 0 rfl) ?_
                    refine va_get (ci := 3) (v := .ref (q 3)) (C := RX3) (T := TX3) (N := 18) hx hb hts inX3_make_RX3 hown hK hP 0 rfl rfl 4 (by decide) (hts _ lkX3_make_16) (fun _ h9 => h9) rfl dX3_make_146 ?_
                    refine lv_iconst (v := 4) hx hb dX3_make_149 (by decide +kernel) ?_
                    refine lv_aload_n hx hb dX3_make_150 rfl (lv_at hl 0 rfl) ?_
                    refine va_get (ci := 3) (v := .int (nI n)) (C := RX3) (T := TX3) (N := 18) hx hb hts inX3_make_RX3 hown hK hP 0 rfl rfl 1 (by decide) (hts _ lkX3_make_61) (fun _ h9 => h9) (congrArg (fun z => some (Value.int z)) hn) dX3_make_151 ?_
                    refine lv_imul hx hb dX3_make_154 ?_
                    refine lv_iload hx hb dX3_make_155 (lv_at hl 8 rfl) ?_
                    refine lv_iadd hx hb dX3_make_157 ?_
                    refine lv_iload hx hb dX3_make_158 (lv_at hl 8 rfl) ?_
                    refine lv_iload hx hb dX3_make_160 (lv_at hl 4 rfl) ?_
                    refine lv_icmp_ne (tgt := 170) hx hb dX3_make_162 (by decide) (fun c_162 => ?_) (fun c_162 => ?_)
                    · refine lv_iload_n hx hb dX3_make_170 rfl (lv_at hl 2 rfl) ?_
                      refine lv_iconst (v := (-1)) hx hb dX3_make_171 (by decide +kernel) ?_
                      refine lv_icmp_ne (tgt := 179) hx hb dX3_make_172 (by decide) (fun c_172 => ?_) (fun c_172 => ?_)
                      · obtain ⟨j, hj, hj2⟩ := mHasN_ne (by omega) ha1 c_172
                        have hjc : p1.toNatClampNeg = j := by rw [hj2, nI_clamp (by omega)]
                        have hjl : p1.toNatClampNeg < 60 := by rw [hjc]; omega
                        have hje : p1 = nI p1.toNatClampNeg := by rw [hjc]; exact hj2
                        refine lv_aload_n hx hb dX3_make_179 rfl (lv_at hl 0 rfl) ?_
                        refine va_get (ci := 3) (v := .ref (q 3)) (C := RX3) (T := TX3) (N := 18) hx hb hts inX3_make_RX3 hown hK hP 0 rfl rfl 4 (by decide) (hts _ lkX3_make_16) (fun _ h9 => h9) rfl dX3_make_180 ?_
                        refine lv_iconst (v := 4) hx hb dX3_make_183 (by decide +kernel) ?_
                        refine lv_iload_n hx hb dX3_make_184 rfl (lv_at hl 2 rfl) ?_
                        refine lv_imul hx hb dX3_make_185 ?_
                        refine lv_iload hx hb dX3_make_186 (lv_at hl 8 rfl) ?_
                        refine lv_iadd hx hb dX3_make_188 ?_
                        refine g_iald (n := 240) (f := sl) hx hb hK hP 3 0 (by rw [MW_get_2, show (mS (mS (mS (mS u 0 (upd (u 0) n p1)) 1 (upd (u 1) n p2)) 2 sl) 14 (fun _ => 0)) 2 = sl from by simp only [mS_at, ↓reduceIte, Nat.reduceEqDiff]]) rfl (4 * p1.toNatClampNeg + k) (by omega) (by omega) (g_addE (g_mulE rfl hje) rfl) dX3_make_189 ?_
                        refine g_iast (n := 240) (f := sl) (u' := (mS (mS (mS (mS (mS u 0 (upd (u 0) n p1)) 1 (upd (u 1) n p2)) 2 sl) 14 (fun _ => 0)) 2 (upd sl (4 * n + k) (sl (4 * p1.toNatClampNeg + k))))) hx hb hK hP hD hS 3 0 (by rw [MW_get_2, show (mS (mS (mS (mS u 0 (upd (u 0) n p1)) 1 (upd (u 1) n p2)) 2 sl) 14 (fun _ => 0)) 2 = sl from by simp only [mS_at, ↓reduceIte, Nat.reduceEqDiff]]) rfl (4 * n + k) (by omega) (by omega) (g_addE (g_mulE rfl rfl) rfl) (MW_set_2 _ _) dX3_make_190 (fun H locs hP hD hS => ?_)
                        refine lv_iinc (v := (nI (k + 1))) (lv' := [(8, .int (nI (k + 1))), (0, .ref (q 0)), (1, .int 0), (2, .int p1), (3, .int p2), (4, .int p3), (5, .int p4), (6, .int va), (7, .int vf)]) hx hb dX3_make_191 hl (k := 8) rfl (nI_1 _) (by decide) rfl (fun ls hl => ?_)
                        refine lv_goto (tgt := 139) hx hb dX3_make_194 (by decide) ?_
                        rw [show MW cI cZ q (mS (mS (mS (mS (mS u 0 (upd (u 0) n p1)) 1 (upd (u 1) n p2)) 2 sl) 14 (fun _ => 0)) 2 (upd sl (4 * n + k) (sl (4 * p1.toNatClampNeg + k)))) = MW cI cZ q (mS (mS (mS (mS u 0 (upd (u 0) n p1)) 1 (upd (u 1) n p2)) 2 (upd sl (4 * n + k) (sl (4 * p1.toNatClampNeg + k)))) 14 (fun _ => 0)) from (MW_ext (by refine ⟨?_, ?_, ?_, ?_, ?_, ?_, ?_, ?_, ?_, ?_, ?_, ?_, ?_, ?_, ?_, ?_, ?_, ?_⟩ <;> simp only [mS_at, ↓reduceIte, Nat.reduceEqDiff] <;> rfl))] at hP hD
                        exact ih (k + 1) (upd sl (4 * n + k) (sl (4 * p1.toNatClampNeg + k))) _ _ _ hP hD hS (lv_sub hl [1, 2, 3, 4, 5, 6, 7, 8, 0] rfl) (by omega) (by rw [← hr]; show _ = itU _ d (k + 1) (mMakeStep n p1 p3 p4 k sl); rw [show mMakeStep n p1 p3 p4 k sl = (upd sl (4 * n + k) (sl (4 * p1.toNatClampNeg + k))) from by unfold mMakeStep; rw [if_neg c_162, if_neg c_172]])
                      · refine lv_iconst (v := (-1)) hx hb dX3_make_175 (by decide +kernel) ?_
                        refine lv_goto (tgt := 190) hx hb dX3_make_176 (by decide) ?_
                        refine g_iast (n := 240) (f := sl) (u' := (mS (mS (mS (mS (mS u 0 (upd (u 0) n p1)) 1 (upd (u 1) n p2)) 2 sl) 14 (fun _ => 0)) 2 (upd sl (4 * n + k) (-1)))) hx hb hK hP hD hS 3 0 (by rw [MW_get_2, show (mS (mS (mS (mS u 0 (upd (u 0) n p1)) 1 (upd (u 1) n p2)) 2 sl) 14 (fun _ => 0)) 2 = sl from by simp only [mS_at, ↓reduceIte, Nat.reduceEqDiff]]) rfl (4 * n + k) (by omega) (by omega) (g_addE (g_mulE rfl rfl) rfl) (MW_set_2 _ _) dX3_make_190 (fun H locs hP hD hS => ?_)
                        refine lv_iinc (v := (nI (k + 1))) (lv' := [(8, .int (nI (k + 1))), (0, .ref (q 0)), (1, .int 0), (2, .int p1), (3, .int p2), (4, .int p3), (5, .int p4), (6, .int va), (7, .int vf)]) hx hb dX3_make_191 hl (k := 8) rfl (nI_1 _) (by decide) rfl (fun ls hl => ?_)
                        refine lv_goto (tgt := 139) hx hb dX3_make_194 (by decide) ?_
                        rw [show MW cI cZ q (mS (mS (mS (mS (mS u 0 (upd (u 0) n p1)) 1 (upd (u 1) n p2)) 2 sl) 14 (fun _ => 0)) 2 (upd sl (4 * n + k) (-1))) = MW cI cZ q (mS (mS (mS (mS u 0 (upd (u 0) n p1)) 1 (upd (u 1) n p2)) 2 (upd sl (4 * n + k) (-1))) 14 (fun _ => 0)) from (MW_ext (by refine ⟨?_, ?_, ?_, ?_, ?_, ?_, ?_, ?_, ?_, ?_, ?_, ?_, ?_, ?_, ?_, ?_, ?_, ?_⟩ <;> simp only [mS_at, ↓reduceIte, Nat.reduceEqDiff] <;> rfl))] at hP hD
                        exact ih (k + 1) (upd sl (4 * n + k) (-1)) _ _ _ hP hD hS (lv_sub hl [1, 2, 3, 4, 5, 6, 7, 8, 0] rfl) (by omega) (by rw [← hr]; show _ = itU _ d (k + 1) (mMakeStep n p1 p3 p4 k sl); rw [show mMakeStep n p1 p3 p4 k sl = (upd sl (4 * n + k) (-1)) from by unfold mMakeStep; rw [if_neg c_162, if_pos c_172]])
                    · refine lv_iload hx hb dX3_make_165 (lv_at hl 5 rfl) ?_
                      refine lv_goto (tgt := 190) hx hb dX3_make_167 (by decide) ?_
                      refine g_iast (n := 240) (f := sl) (u' := (mS (mS (mS (mS (mS u 0 (upd (u 0) n p1)) 1 (upd (u 1) n p2)) 2 sl) 14 (fun _ => 0)) 2 (upd sl (4 * n + k) p4))) hx hb hK hP hD hS 3 0 (by rw [MW_get_2, show (mS (mS (mS (mS u 0 (upd (u 0) n p1)) 1 (upd (u 1) n p2)) 2 sl) 14 (fun _ => 0)) 2 = sl from by simp only [mS_at, ↓reduceIte, Nat.reduceEqDiff]]) rfl (4 * n + k) (by omega) (by omega) (g_addE (g_mulE rfl rfl) rfl) (MW_set_2 _ _) dX3_make_190 (fun H locs hP hD hS => ?_)
                      refine lv_iinc (v := (nI (k + 1))) (lv' := [(8, .int (nI (k + 1))), (0, .ref (q 0)), (1, .int 0), (2, .int p1), (3, .int p2), (4, .int p3), (5, .int p4), (6, .int va), (7, .int vf)]) hx hb dX3_make_191 hl (k := 8) rfl (nI_1 _) (by decide) rfl (fun ls hl => ?_)
                      refine lv_goto (tgt := 139) hx hb dX3_make_194 (by decide) ?_
                      rw [show MW cI cZ q (mS (mS (mS (mS (mS u 0 (upd (u 0) n p1)) 1 (upd (u 1) n p2)) 2 sl) 14 (fun _ => 0)) 2 (upd sl (4 * n + k) p4)) = MW cI cZ q (mS (mS (mS (mS u 0 (upd (u 0) n p1)) 1 (upd (u 1) n p2)) 2 (upd sl (4 * n + k) p4)) 14 (fun _ => 0)) from (MW_ext (by refine ⟨?_, ?_, ?_, ?_, ?_, ?_, ?_, ?_, ?_, ?_, ?_, ?_, ?_, ?_, ?_, ?_, ?_, ?_⟩ <;> simp only [mS_at, ↓reduceIte, Nat.reduceEqDiff] <;> rfl))] at hP hD
                      exact ih (k + 1) (upd sl (4 * n + k) p4) _ _ _ hP hD hS (lv_sub hl [1, 2, 3, 4, 5, 6, 7, 8, 0] rfl) (by omega) (by rw [← hr]; show _ = itU _ d (k + 1) (mMakeStep n p1 p3 p4 k sl); rw [show mMakeStep n p1 p3 p4 k sl = (upd sl (4 * n + k) p4) from by unfold mMakeStep; rw [if_pos c_162]])
              rw [show MW cI cZ q (mS (mS (mS u 14 (fun _ => 0)) 0 (upd (u 0) n p1)) 1 (upd (u 1) n p2)) = MW cI cZ q (mS (mS (mS (mS u 0 (upd (u 0) n p1)) 1 (upd (u 1) n p2)) 2 (u 2)) 14 (fun _ => 0)) from (MW_ext (by refine ⟨?_, ?_, ?_, ?_, ?_, ?_, ?_, ?_, ?_, ?_, ?_, ?_, ?_, ?_, ?_, ?_, ?_, ?_⟩ <;> simp only [mS_at, ↓reduceIte, Nat.reduceEqDiff] <;> rfl))] at hP hD
              exact loop 4 0 (u 2) _ _ _ hP hD hS (lv_sub hl [1, 2, 3, 4, 5, 6, 7, 8, 0] rfl) (by omega) (opq_eq _).symm
            · exact absurd (show (0 : Int32) = 0 from rfl) c_111
          · have n_100 : n = 60 := (g_eqI (a := n) (b := 60) rfl rfl (by omega) (by decide)).mp c_100
            exact absurd (hz.symm.trans (by unfold mMakeC; rw [hva, if_neg c_78, hvf, if_neg c_87, if_pos n_100])) (by decide)
        · exact absurd (hz.symm.trans (by unfold mMakeC; rw [hva, if_neg c_78, hvf, if_pos c_87])) (by decide)
      · exact absurd (hz.symm.trans (by unfold mMakeC; rw [hva, if_pos c_78])) (by decide)
    refine lv_iload hx hb dX3_make_42 (lv_at hl 5 rfl) ?_
    refine lv_iconst (v := (-1)) hx hb dX3_make_44 (by decide +kernel) ?_
    refine lv_bipush (v := 99) hx hb dX3_make_45 (by decide +kernel) ?_
    refine g_callS0 (As := [.int p4, .int (-1), .int 99]) (rest := []) hx hb hml hown hts (ctX3_in l D cI cZ q p4 (-1) 99) gX3_make_X3_in rfl rfl rfl hdX3_in ⟨Nat.le_of_ble_eq_true rfl, Nat.le_of_ble_eq_true rfl⟩ gEM_true trivial hP hK hS hA rfl hl.1 rfl (Nat.le_of_ble_eq_true rfl) dX3_make_47 ⟨Nat.zero_le _, Nat.zero_le _⟩ (fun H locs hP hS => ?_)
    refine W.eq (g2 := F0 m 50 ls [.int (mIn p4 (-1) 99)]) rfl ?_
    refine lv_if_eq (tgt := 72) hx hb dX3_make_50 (by decide) (fun c_50 => ?_) (fun c_50 => ?_)
    · refine lv_iconst (v := 0) hx hb dX3_make_72 (by decide +kernel) ?_
      refine lv_istore (lv' := [(7, .int 0), (0, .ref (q 0)), (1, .int 0), (2, .int p1), (3, .int p2), (4, .int p3), (5, .int p4), (6, .int va)]) hx hb dX3_make_73 hl (by decide) rfl (fun ls hl => ?_)
      exact c75 0 _ _ _ hP hD hS (lv_sub hl [1, 2, 3, 4, 5, 6, 7, 0] rfl) (by unfold mMkF; rw [if_pos c_50])
    · refine lv_iload_n hx hb dX3_make_53 rfl (lv_at hl 3 rfl) ?_
      refine lv_iconst (v := (-1)) hx hb dX3_make_54 (by decide +kernel) ?_
      refine lv_icmp_eq (tgt := 68) hx hb dX3_make_55 (by decide) (fun c_55 => ?_) (fun c_55 => ?_)
      · refine lv_iconst (v := 1) hx hb dX3_make_68 (by decide +kernel) ?_
        refine lv_goto (tgt := 73) hx hb dX3_make_69 (by decide) ?_
        refine lv_istore (lv' := [(7, .int 1), (0, .ref (q 0)), (1, .int 0), (2, .int p1), (3, .int p2), (4, .int p3), (5, .int p4), (6, .int va)]) hx hb dX3_make_73 hl (by decide) rfl (fun ls hl => ?_)
        exact c75 1 _ _ _ hP hD hS (lv_sub hl [1, 2, 3, 4, 5, 6, 7, 0] rfl) (by unfold mMkF; rw [if_neg c_50, if_pos c_55])
      · refine lv_iload_n hx hb dX3_make_58 rfl (lv_at hl 2 rfl) ?_
        refine lv_iconst (v := (-1)) hx hb dX3_make_59 (by decide +kernel) ?_
        refine lv_icmp_eq (tgt := 72) hx hb dX3_make_60 (by decide) (fun c_60 => ?_) (fun c_60 => ?_)
        · refine lv_iconst (v := 0) hx hb dX3_make_72 (by decide +kernel) ?_
          refine lv_istore (lv' := [(7, .int 0), (0, .ref (q 0)), (1, .int 0), (2, .int p1), (3, .int p2), (4, .int p3), (5, .int p4), (6, .int va)]) hx hb dX3_make_73 hl (by decide) rfl (fun ls hl => ?_)
          exact c75 0 _ _ _ hP hD hS (lv_sub hl [1, 2, 3, 4, 5, 6, 7, 0] rfl) (by unfold mMkF; rw [if_neg c_50, if_neg c_55, if_pos c_60])
        · refine lv_iload_n hx hb dX3_make_63 rfl (lv_at hl 2 rfl) ?_
          refine lv_iload_n hx hb dX3_make_64 rfl (lv_at hl 3 rfl) ?_
          refine lv_icmp_eq (tgt := 72) hx hb dX3_make_65 (by decide) (fun c_65 => ?_) (fun c_65 => ?_)
          · refine lv_iconst (v := 0) hx hb dX3_make_72 (by decide +kernel) ?_
            refine lv_istore (lv' := [(7, .int 0), (0, .ref (q 0)), (1, .int 0), (2, .int p1), (3, .int p2), (4, .int p3), (5, .int p4), (6, .int va)]) hx hb dX3_make_73 hl (by decide) rfl (fun ls hl => ?_)
            exact c75 0 _ _ _ hP hD hS (lv_sub hl [1, 2, 3, 4, 5, 6, 7, 0] rfl) (by unfold mMkF; rw [if_neg c_50, if_neg c_55, if_neg c_60, if_pos c_65])
          · refine lv_iconst (v := 1) hx hb dX3_make_68 (by decide +kernel) ?_
            refine lv_goto (tgt := 73) hx hb dX3_make_69 (by decide) ?_
            refine lv_istore (lv' := [(7, .int 1), (0, .ref (q 0)), (1, .int 0), (2, .int p1), (3, .int p2), (4, .int p3), (5, .int p4), (6, .int va)]) hx hb dX3_make_73 hl (by decide) rfl (fun ls hl => ?_)
            exact c75 1 _ _ _ hP hD hS (lv_sub hl [1, 2, 3, 4, 5, 6, 7, 0] rfl) (by unfold mMkF; rw [if_neg c_50, if_neg c_55, if_neg c_60, if_neg c_65])
  refine lv_iload_n hx hb dX3_make_0 rfl (lv_at hl 1 rfl) ?_
  refine g_callS0 (As := [.int 0]) (rest := []) hx hb hml hown hts (ctX3_isStore l D cI cZ q 0) gX3_make_X3_isStore rfl rfl rfl hdX3_isStore ⟨Nat.le_of_ble_eq_true rfl, Nat.le_of_ble_eq_true rfl⟩ gEM_true trivial hP hK hS hA rfl hl.1 rfl (Nat.le_of_ble_eq_true rfl) dX3_make_1 ⟨Nat.zero_le _, Nat.zero_le _⟩ (fun H locs hP hS => ?_)
  refine W.eq (g2 := F0 m 4 ls [.int (xRange 0 2)]) rfl ?_
  refine lv_if_eq (tgt := 39) hx hb dX3_make_4 (by decide) (fun c_4 => ?_) (fun c_4 => ?_)
  · exact absurd c_4 hs
  · refine lv_iload hx hb dX3_make_7 (lv_at hl 4 rfl) ?_
    refine lv_iconst (v := 0) hx hb dX3_make_9 (by decide +kernel) ?_
    refine lv_iconst (v := 3) hx hb dX3_make_10 (by decide +kernel) ?_
    refine g_callS0 (As := [.int p3, .int 0, .int 3]) (rest := []) hx hb hml hown hts (ctX3_in_4 l D cI cZ q p3) gX3_make_X3_in rfl rfl rfl hdX3_in ⟨Nat.le_of_ble_eq_true rfl, Nat.le_of_ble_eq_true rfl⟩ gEM_true trivial hP hK hS hA rfl hl.1 rfl (Nat.le_of_ble_eq_true rfl) dX3_make_11 ⟨Nat.zero_le _, Nat.zero_le _⟩ (fun H locs hP hS => ?_)
    refine W.eq (g2 := F0 m 14 ls [.int (xRange p3 4)]) rfl ?_
    refine lv_if_eq (tgt := 39) hx hb dX3_make_14 (by decide) (fun c_14 => ?_) (fun c_14 => ?_)
    · refine lv_iconst (v := 0) hx hb dX3_make_39 (by decide +kernel) ?_
      refine lv_istore (lv' := [(6, .int 0), (0, .ref (q 0)), (1, .int 0), (2, .int p1), (3, .int p2), (4, .int p3), (5, .int p4)]) hx hb dX3_make_40 hl (by decide) rfl (fun ls hl => ?_)
      exact c42 0 _ _ _ hP hD hS (lv_sub hl [1, 2, 3, 4, 5, 6, 0] rfl) (by unfold mMkA; rw [if_pos c_14])
    · refine lv_aload_n hx hb dX3_make_17 rfl (lv_at hl 0 rfl) ?_
      refine lv_iload_n hx hb dX3_make_18 rfl (lv_at hl 1 rfl) ?_
      refine lv_iload_n hx hb dX3_make_19 rfl (lv_at hl 2 rfl) ?_
      refine g_callV (As := [.int 0, .int p1]) (rest := []) hx hb hml hown hts (ctX3_isInOrNone_0 l D cI cZ q u n hn h60 p1) gX3_make_X3_isInOrNone rfl rfl rfl hdX3_isInOrNone ⟨Nat.le_of_ble_eq_true rfl, Nat.le_of_ble_eq_true rfl⟩ gEM_true trivial hP hK hD hS hA 0 rfl rfl rfl hl.1 rfl (Nat.le_of_ble_eq_true rfl) dX3_make_20 ⟨Nat.zero_le _, Nat.zero_le _⟩ (fun H locs hP hD hS => ?_)
      refine W.eq (g2 := F0 m 23 ls [.int (mHasN n (u 3) 0 p1)]) rfl ?_
      refine lv_if_eq (tgt := 39) hx hb dX3_make_23 (by decide) (fun c_23 => ?_) (fun c_23 => ?_)
      · refine lv_iconst (v := 0) hx hb dX3_make_39 (by decide +kernel) ?_
        refine lv_istore (lv' := [(6, .int 0), (0, .ref (q 0)), (1, .int 0), (2, .int p1), (3, .int p2), (4, .int p3), (5, .int p4)]) hx hb dX3_make_40 hl (by decide) rfl (fun ls hl => ?_)
        exact c42 0 _ _ _ hP hD hS (lv_sub hl [1, 2, 3, 4, 5, 6, 0] rfl) (by unfold mMkA; rw [if_neg c_14, if_pos c_23])
      · refine lv_aload_n hx hb dX3_make_26 rfl (lv_at hl 0 rfl) ?_
        refine lv_iload_n hx hb dX3_make_27 rfl (lv_at hl 1 rfl) ?_
        refine lv_iload_n hx hb dX3_make_28 rfl (lv_at hl 3 rfl) ?_
        refine g_callV (As := [.int 0, .int p2]) (rest := []) hx hb hml hown hts (ctX3_isInOrNone_0 l D cI cZ q u n hn h60 p2) gX3_make_X3_isInOrNone rfl rfl rfl hdX3_isInOrNone ⟨Nat.le_of_ble_eq_true rfl, Nat.le_of_ble_eq_true rfl⟩ gEM_true trivial hP hK hD hS hA 0 rfl rfl rfl hl.1 rfl (Nat.le_of_ble_eq_true rfl) dX3_make_29 ⟨Nat.zero_le _, Nat.zero_le _⟩ (fun H locs hP hD hS => ?_)
        refine W.eq (g2 := F0 m 32 ls [.int (mHasN n (u 3) 0 p2)]) rfl ?_
        refine lv_if_eq (tgt := 39) hx hb dX3_make_32 (by decide) (fun c_32 => ?_) (fun c_32 => ?_)
        · refine lv_iconst (v := 0) hx hb dX3_make_39 (by decide +kernel) ?_
          refine lv_istore (lv' := [(6, .int 0), (0, .ref (q 0)), (1, .int 0), (2, .int p1), (3, .int p2), (4, .int p3), (5, .int p4)]) hx hb dX3_make_40 hl (by decide) rfl (fun ls hl => ?_)
          exact c42 0 _ _ _ hP hD hS (lv_sub hl [1, 2, 3, 4, 5, 6, 0] rfl) (by unfold mMkA; rw [if_neg c_14, if_neg c_23, if_pos c_32])
        · refine lv_iconst (v := 1) hx hb dX3_make_35 (by decide +kernel) ?_
          refine lv_goto (tgt := 40) hx hb dX3_make_36 (by decide) ?_
          refine lv_istore (lv' := [(6, .int 1), (0, .ref (q 0)), (1, .int 0), (2, .int p1), (3, .int p2), (4, .int p3), (5, .int p4)]) hx hb dX3_make_40 hl (by decide) rfl (fun ls hl => ?_)
          exact c42 1 _ _ _ hP hD hS (lv_sub hl [1, 2, 3, 4, 5, 6, 0] rfl) (by unfold mMkA; rw [if_neg c_14, if_neg c_23, if_neg c_32])
abbrev rmX3_make_r1 : Room := { frames := 4, cells := 0, slots := 0, locals := 87 }
set_option maxHeartbeats 4000000 in
set_option maxRecDepth 100000 in
theorem ctX3_make_r1 (l : Launch) (D : va_G) (cI cZ : ClassId) (q : Nat → Nat) (u : SM) (n : Nat) (hn : u 15 0 = nI n) (h60 : n ≤ 60) (p1 p2 p3 p4 : Int32) (z : Int32) (hz : (mMakeC n (u 3) 1 p1 p2 p3 p4) = z) (hz0 : ¬ z = 0) : gM l yX3_make wsX3_make rmX3_make_r1 D [(cI, .int), (cZ, .boolean)] (MW cI cZ q) (fun _ => True) [.ref (q 0), .int 1, .int p1, .int p2, .int p3, .int p4] u (some (.int 0)) (mS u 14 (fun _ => z)) := by
  refine g_start (cc := cX3_make) (maxL := 9) (ret := (some .int)) (by decide) rfl (Nat.le_of_ble_eq_true rfl) ?_
  intro p e s m below meth c A ls Q hx hb hml hret hts hown hlk hE hP hK hD hA hl hQ hS
  have hown : s.vm.findClass RX3 = some m.cls := hown
  have hl : lv_has ls 9 [(0, .ref (q 0)), (1, .int 1), (2, .int p1), (3, .int p2), (4, .int p3), (5, .int p4)] := hl
  have hs : ¬ xRange 1 2 = 0 := by decide +kernel
  have c42 : ∀ (va : Int32) (H : Heap) (locs : List Loc) (ls : Array Slot) (hP : va_P D vwCl (MW cI cZ q u) H) (hD : va_D A (MW cI cZ q u)) (hS : va_S A s.heap H locs) (hl : lv_has ls 9 [(0, .ref (q 0)), (1, .int 1), (2, .int p1), (3, .int p2), (4, .int p3), (5, .int p4), (6, .int va)]) (hva : (mMkA n (u 3) 1 p1 p2 p3) = va), W p l e rmX3_make_r1 s m ([.ref (q 0), .int 1, .int p1, .int p2, .int p3, .int p4] : List Value).toArray below meth c H locs 0 0 Q (F0 m 42 ls []) := by
    intro va H locs ls hP hD hS hl hva
    have c75 : ∀ (vf : Int32) (H : Heap) (locs : List Loc) (ls : Array Slot) (hP : va_P D vwCl (MW cI cZ q u) H) (hD : va_D A (MW cI cZ q u)) (hS : va_S A s.heap H locs) (hl : lv_has ls 9 [(0, .ref (q 0)), (1, .int 1), (2, .int p1), (3, .int p2), (4, .int p3), (5, .int p4), (6, .int va), (7, .int vf)]) (hvf : (mMkF p1 p2 p4) = vf), W p l e rmX3_make_r1 s m ([.ref (q 0), .int 1, .int p1, .int p2, .int p3, .int p4] : List Value).toArray below meth c H locs 0 0 Q (F0 m 75 ls []) := by
      intro vf H locs ls hP hD hS hl hvf
      refine lv_aload_n hx hb dX3_make_75 rfl (lv_at hl 0 rfl) ?_
      refine lv_iload hx hb dX3_make_76 (lv_at hl 6 rfl) ?_
      refine lv_if_ne (tgt := 85) hx hb dX3_make_78 (by decide) (fun c_78 => ?_) (fun c_78 => ?_)
      · refine lv_iload hx hb dX3_make_85 (lv_at hl 7 rfl) ?_
        refine lv_if_ne (tgt := 94) hx hb dX3_make_87 (by decide) (fun c_87 => ?_) (fun c_87 => ?_)
        · refine lv_aload_n hx hb dX3_make_94 rfl (lv_at hl 0 rfl) ?_
          refine va_get (ci := 3) (v := .int (nI n)) (C := RX3) (T := TX3) (N := 18) hx hb hts inX3_make_RX3 hown hK hP 0 rfl rfl 1 (by decide) (hts _ lkX3_make_61) (fun _ h9 => h9) (congrArg (fun z => some (Value.int z)) hn) dX3_make_95 ?_
          refine lv_bipush (v := 60) hx hb dX3_make_98 (by decide +kernel) ?_
          refine lv_icmp_ne (tgt := 107) hx hb dX3_make_100 (by decide) (fun c_100 => ?_) (fun c_100 => ?_)
          · have n_100 : ¬ n = 60 := fun h => c_100 ((g_eqI (a := n) (b := 60) rfl rfl (by omega) (by decide)).mpr h)
            refine lv_iconst (v := 0) hx hb dX3_make_107 (by decide +kernel) ?_
            refine g_callV (As := [.int 0]) (rest := []) hx hb hml hown hts (ctX3_refused l D cI cZ q u 0) gX3_make_X3_refused rfl rfl rfl hdX3_refused ⟨Nat.le_of_ble_eq_true rfl, Nat.le_of_ble_eq_true rfl⟩ gEM_true trivial hP hK hD hS hA 0 rfl rfl rfl hl.1 rfl (Nat.le_of_ble_eq_true rfl) dX3_make_108 ⟨Nat.zero_le _, Nat.zero_le _⟩ (fun H locs hP hD hS => ?_)
            obtain ⟨hP, hD⟩ := g_toPD hP hD (MW_ext (Y := (mS u 14 (fun _ => 0))) (by refine ⟨?_, ?_, ?_, ?_, ?_, ?_, ?_, ?_, ?_, ?_, ?_, ?_, ?_, ?_, ?_, ?_, ?_, ?_⟩ <;> simp only [mS_at, ↓reduceIte, Nat.reduceEqDiff] <;> rfl))
            refine W.eq (g2 := F0 m 111 ls [.int (if 0 = 0 then 0 else 1)]) rfl ?_
            refine lv_if_eq (tgt := 116) hx hb dX3_make_111 (by decide) (fun c_111 => ?_) (fun c_111 => ?_)
            · exact absurd (hz.symm.trans (by unfold mMakeC; rw [hva, if_neg c_78, hvf, if_neg c_87, if_neg n_100])) hz0
            · exact absurd (show (0 : Int32) = 0 from rfl) c_111
          · have n_100 : n = 60 := (g_eqI (a := n) (b := 60) rfl rfl (by omega) (by decide)).mp c_100
            refine lv_iconst (v := 3) hx hb dX3_make_103 (by decide +kernel) ?_
            refine lv_goto (tgt := 108) hx hb dX3_make_104 (by decide) ?_
            refine g_callV (As := [.int 3]) (rest := []) hx hb hml hown hts (ctX3_refused l D cI cZ q u 3) gX3_make_X3_refused rfl rfl rfl hdX3_refused ⟨Nat.le_of_ble_eq_true rfl, Nat.le_of_ble_eq_true rfl⟩ gEM_true trivial hP hK hD hS hA 0 rfl rfl rfl hl.1 rfl (Nat.le_of_ble_eq_true rfl) dX3_make_108 ⟨Nat.zero_le _, Nat.zero_le _⟩ (fun H locs hP hD hS => ?_)
            obtain ⟨hP, hD⟩ := g_toPD hP hD (MW_ext (Y := (mS u 14 (fun _ => 3))) (by refine ⟨?_, ?_, ?_, ?_, ?_, ?_, ?_, ?_, ?_, ?_, ?_, ?_, ?_, ?_, ?_, ?_, ?_, ?_⟩ <;> simp only [mS_at, ↓reduceIte, Nat.reduceEqDiff] <;> rfl))
            refine W.eq (g2 := F0 m 111 ls [.int (if 3 = 0 then 0 else 1)]) rfl ?_
            refine lv_if_eq (tgt := 116) hx hb dX3_make_111 (by decide) (fun c_111 => ?_) (fun c_111 => ?_)
            · exact absurd c_111 (by decide)
            · refine lv_iconst (v := 0) hx hb dX3_make_114 (by decide +kernel) ?_
              refine g_iret (u1 := (mS u 14 (fun _ => 3))) hx hb hret hlk hQ hP hD hS dX3_make_115 ?_ ?_
              · exact rfl
              · exact (by rw [← hz, show (mMakeC n (u 3) 1 p1 p2 p3 p4) = 3 from by unfold mMakeC; rw [hva, if_neg c_78, hvf, if_neg c_87, if_pos n_100]])
        · refine lv_iconst (v := 2) hx hb dX3_make_90 (by decide +kernel) ?_
          refine lv_goto (tgt := 108) hx hb dX3_make_91 (by decide) ?_
          refine g_callV (As := [.int 2]) (rest := []) hx hb hml hown hts (ctX3_refused l D cI cZ q u 2) gX3_make_X3_refused rfl rfl rfl hdX3_refused ⟨Nat.le_of_ble_eq_true rfl, Nat.le_of_ble_eq_true rfl⟩ gEM_true trivial hP hK hD hS hA 0 rfl rfl rfl hl.1 rfl (Nat.le_of_ble_eq_true rfl) dX3_make_108 ⟨Nat.zero_le _, Nat.zero_le _⟩ (fun H locs hP hD hS => ?_)
          obtain ⟨hP, hD⟩ := g_toPD hP hD (MW_ext (Y := (mS u 14 (fun _ => 2))) (by refine ⟨?_, ?_, ?_, ?_, ?_, ?_, ?_, ?_, ?_, ?_, ?_, ?_, ?_, ?_, ?_, ?_, ?_, ?_⟩ <;> simp only [mS_at, ↓reduceIte, Nat.reduceEqDiff] <;> rfl))
          refine W.eq (g2 := F0 m 111 ls [.int (if 2 = 0 then 0 else 1)]) rfl ?_
          refine lv_if_eq (tgt := 116) hx hb dX3_make_111 (by decide) (fun c_111 => ?_) (fun c_111 => ?_)
          · exact absurd c_111 (by decide)
          · refine lv_iconst (v := 0) hx hb dX3_make_114 (by decide +kernel) ?_
            refine g_iret (u1 := (mS u 14 (fun _ => 2))) hx hb hret hlk hQ hP hD hS dX3_make_115 ?_ ?_
            · exact rfl
            · exact (by rw [← hz, show (mMakeC n (u 3) 1 p1 p2 p3 p4) = 2 from by unfold mMakeC; rw [hva, if_neg c_78, hvf, if_pos c_87]])
      · refine lv_iconst (v := 1) hx hb dX3_make_81 (by decide +kernel) ?_
        refine lv_goto (tgt := 108) hx hb dX3_make_82 (by decide) ?_
        refine g_callV (As := [.int 1]) (rest := []) hx hb hml hown hts (ctX3_refused l D cI cZ q u 1) gX3_make_X3_refused rfl rfl rfl hdX3_refused ⟨Nat.le_of_ble_eq_true rfl, Nat.le_of_ble_eq_true rfl⟩ gEM_true trivial hP hK hD hS hA 0 rfl rfl rfl hl.1 rfl (Nat.le_of_ble_eq_true rfl) dX3_make_108 ⟨Nat.zero_le _, Nat.zero_le _⟩ (fun H locs hP hD hS => ?_)
        obtain ⟨hP, hD⟩ := g_toPD hP hD (MW_ext (Y := (mS u 14 (fun _ => 1))) (by refine ⟨?_, ?_, ?_, ?_, ?_, ?_, ?_, ?_, ?_, ?_, ?_, ?_, ?_, ?_, ?_, ?_, ?_, ?_⟩ <;> simp only [mS_at, ↓reduceIte, Nat.reduceEqDiff] <;> rfl))
        refine W.eq (g2 := F0 m 111 ls [.int (if 1 = 0 then 0 else 1)]) rfl ?_
        refine lv_if_eq (tgt := 116) hx hb dX3_make_111 (by decide) (fun c_111 => ?_) (fun c_111 => ?_)
        · exact absurd c_111 (by decide)
        · refine lv_iconst (v := 0) hx hb dX3_make_114 (by decide +kernel) ?_
          refine g_iret (u1 := (mS u 14 (fun _ => 1))) hx hb hret hlk hQ hP hD hS dX3_make_115 ?_ ?_
          · exact rfl
          · exact (by rw [← hz, show (mMakeC n (u 3) 1 p1 p2 p3 p4) = 1 from by unfold mMakeC; rw [hva, if_pos c_78]])
    refine lv_iload hx hb dX3_make_42 (lv_at hl 5 rfl) ?_
    refine lv_iconst (v := (-1)) hx hb dX3_make_44 (by decide +kernel) ?_
    refine lv_bipush (v := 99) hx hb dX3_make_45 (by decide +kernel) ?_
    refine g_callS0 (As := [.int p4, .int (-1), .int 99]) (rest := []) hx hb hml hown hts (ctX3_in l D cI cZ q p4 (-1) 99) gX3_make_X3_in rfl rfl rfl hdX3_in ⟨Nat.le_of_ble_eq_true rfl, Nat.le_of_ble_eq_true rfl⟩ gEM_true trivial hP hK hS hA rfl hl.1 rfl (Nat.le_of_ble_eq_true rfl) dX3_make_47 ⟨Nat.zero_le _, Nat.zero_le _⟩ (fun H locs hP hS => ?_)
    refine W.eq (g2 := F0 m 50 ls [.int (mIn p4 (-1) 99)]) rfl ?_
    refine lv_if_eq (tgt := 72) hx hb dX3_make_50 (by decide) (fun c_50 => ?_) (fun c_50 => ?_)
    · refine lv_iconst (v := 0) hx hb dX3_make_72 (by decide +kernel) ?_
      refine lv_istore (lv' := [(7, .int 0), (0, .ref (q 0)), (1, .int 1), (2, .int p1), (3, .int p2), (4, .int p3), (5, .int p4), (6, .int va)]) hx hb dX3_make_73 hl (by decide) rfl (fun ls hl => ?_)
      exact c75 0 _ _ _ hP hD hS (lv_sub hl [1, 2, 3, 4, 5, 6, 7, 0] rfl) (by unfold mMkF; rw [if_pos c_50])
    · refine lv_iload_n hx hb dX3_make_53 rfl (lv_at hl 3 rfl) ?_
      refine lv_iconst (v := (-1)) hx hb dX3_make_54 (by decide +kernel) ?_
      refine lv_icmp_eq (tgt := 68) hx hb dX3_make_55 (by decide) (fun c_55 => ?_) (fun c_55 => ?_)
      · refine lv_iconst (v := 1) hx hb dX3_make_68 (by decide +kernel) ?_
        refine lv_goto (tgt := 73) hx hb dX3_make_69 (by decide) ?_
        refine lv_istore (lv' := [(7, .int 1), (0, .ref (q 0)), (1, .int 1), (2, .int p1), (3, .int p2), (4, .int p3), (5, .int p4), (6, .int va)]) hx hb dX3_make_73 hl (by decide) rfl (fun ls hl => ?_)
        exact c75 1 _ _ _ hP hD hS (lv_sub hl [1, 2, 3, 4, 5, 6, 7, 0] rfl) (by unfold mMkF; rw [if_neg c_50, if_pos c_55])
      · refine lv_iload_n hx hb dX3_make_58 rfl (lv_at hl 2 rfl) ?_
        refine lv_iconst (v := (-1)) hx hb dX3_make_59 (by decide +kernel) ?_
        refine lv_icmp_eq (tgt := 72) hx hb dX3_make_60 (by decide) (fun c_60 => ?_) (fun c_60 => ?_)
        · refine lv_iconst (v := 0) hx hb dX3_make_72 (by decide +kernel) ?_
          refine lv_istore (lv' := [(7, .int 0), (0, .ref (q 0)), (1, .int 1), (2, .int p1), (3, .int p2), (4, .int p3), (5, .int p4), (6, .int va)]) hx hb dX3_make_73 hl (by decide) rfl (fun ls hl => ?_)
          exact c75 0 _ _ _ hP hD hS (lv_sub hl [1, 2, 3, 4, 5, 6, 7, 0] rfl) (by unfold mMkF; rw [if_neg c_50, if_neg c_55, if_pos c_60])
        · refine lv_iload_n hx hb dX3_make_63 rfl (lv_at hl 2 rfl) ?_
          refine lv_iload_n hx hb dX3_make_64 rfl (lv_at hl 3 rfl) ?_
          refine lv_icmp_eq (tgt := 72) hx hb dX3_make_65 (by decide) (fun c_65 => ?_) (fun c_65 => ?_)
          · refine lv_iconst (v := 0) hx hb dX3_make_72 (by decide +kernel) ?_
            refine lv_istore (lv' := [(7, .int 0), (0, .ref (q 0)), (1, .int 1), (2, .int p1), (3, .int p2), (4, .int p3), (5, .int p4), (6, .int va)]) hx hb dX3_make_73 hl (by decide) rfl (fun ls hl => ?_)
            exact c75 0 _ _ _ hP hD hS (lv_sub hl [1, 2, 3, 4, 5, 6, 7, 0] rfl) (by unfold mMkF; rw [if_neg c_50, if_neg c_55, if_neg c_60, if_pos c_65])
          · refine lv_iconst (v := 1) hx hb dX3_make_68 (by decide +kernel) ?_
            refine lv_goto (tgt := 73) hx hb dX3_make_69 (by decide) ?_
            refine lv_istore (lv' := [(7, .int 1), (0, .ref (q 0)), (1, .int 1), (2, .int p1), (3, .int p2), (4, .int p3), (5, .int p4), (6, .int va)]) hx hb dX3_make_73 hl (by decide) rfl (fun ls hl => ?_)
            exact c75 1 _ _ _ hP hD hS (lv_sub hl [1, 2, 3, 4, 5, 6, 7, 0] rfl) (by unfold mMkF; rw [if_neg c_50, if_neg c_55, if_neg c_60, if_neg c_65])
  refine lv_iload_n hx hb dX3_make_0 rfl (lv_at hl 1 rfl) ?_
  refine g_callS0 (As := [.int 1]) (rest := []) hx hb hml hown hts (ctX3_isStore l D cI cZ q 1) gX3_make_X3_isStore rfl rfl rfl hdX3_isStore ⟨Nat.le_of_ble_eq_true rfl, Nat.le_of_ble_eq_true rfl⟩ gEM_true trivial hP hK hS hA rfl hl.1 rfl (Nat.le_of_ble_eq_true rfl) dX3_make_1 ⟨Nat.zero_le _, Nat.zero_le _⟩ (fun H locs hP hS => ?_)
  refine W.eq (g2 := F0 m 4 ls [.int (xRange 1 2)]) rfl ?_
  refine lv_if_eq (tgt := 39) hx hb dX3_make_4 (by decide) (fun c_4 => ?_) (fun c_4 => ?_)
  · exact absurd c_4 hs
  · refine lv_iload hx hb dX3_make_7 (lv_at hl 4 rfl) ?_
    refine lv_iconst (v := 0) hx hb dX3_make_9 (by decide +kernel) ?_
    refine lv_iconst (v := 3) hx hb dX3_make_10 (by decide +kernel) ?_
    refine g_callS0 (As := [.int p3, .int 0, .int 3]) (rest := []) hx hb hml hown hts (ctX3_in_4 l D cI cZ q p3) gX3_make_X3_in rfl rfl rfl hdX3_in ⟨Nat.le_of_ble_eq_true rfl, Nat.le_of_ble_eq_true rfl⟩ gEM_true trivial hP hK hS hA rfl hl.1 rfl (Nat.le_of_ble_eq_true rfl) dX3_make_11 ⟨Nat.zero_le _, Nat.zero_le _⟩ (fun H locs hP hS => ?_)
    refine W.eq (g2 := F0 m 14 ls [.int (xRange p3 4)]) rfl ?_
    refine lv_if_eq (tgt := 39) hx hb dX3_make_14 (by decide) (fun c_14 => ?_) (fun c_14 => ?_)
    · refine lv_iconst (v := 0) hx hb dX3_make_39 (by decide +kernel) ?_
      refine lv_istore (lv' := [(6, .int 0), (0, .ref (q 0)), (1, .int 1), (2, .int p1), (3, .int p2), (4, .int p3), (5, .int p4)]) hx hb dX3_make_40 hl (by decide) rfl (fun ls hl => ?_)
      exact c42 0 _ _ _ hP hD hS (lv_sub hl [1, 2, 3, 4, 5, 6, 0] rfl) (by unfold mMkA; rw [if_pos c_14])
    · refine lv_aload_n hx hb dX3_make_17 rfl (lv_at hl 0 rfl) ?_
      refine lv_iload_n hx hb dX3_make_18 rfl (lv_at hl 1 rfl) ?_
      refine lv_iload_n hx hb dX3_make_19 rfl (lv_at hl 2 rfl) ?_
      refine g_callV (As := [.int 1, .int p1]) (rest := []) hx hb hml hown hts (ctX3_isInOrNone_1 l D cI cZ q u n hn h60 p1) gX3_make_X3_isInOrNone rfl rfl rfl hdX3_isInOrNone ⟨Nat.le_of_ble_eq_true rfl, Nat.le_of_ble_eq_true rfl⟩ gEM_true trivial hP hK hD hS hA 0 rfl rfl rfl hl.1 rfl (Nat.le_of_ble_eq_true rfl) dX3_make_20 ⟨Nat.zero_le _, Nat.zero_le _⟩ (fun H locs hP hD hS => ?_)
      refine W.eq (g2 := F0 m 23 ls [.int (mHasN n (u 3) 1 p1)]) rfl ?_
      refine lv_if_eq (tgt := 39) hx hb dX3_make_23 (by decide) (fun c_23 => ?_) (fun c_23 => ?_)
      · refine lv_iconst (v := 0) hx hb dX3_make_39 (by decide +kernel) ?_
        refine lv_istore (lv' := [(6, .int 0), (0, .ref (q 0)), (1, .int 1), (2, .int p1), (3, .int p2), (4, .int p3), (5, .int p4)]) hx hb dX3_make_40 hl (by decide) rfl (fun ls hl => ?_)
        exact c42 0 _ _ _ hP hD hS (lv_sub hl [1, 2, 3, 4, 5, 6, 0] rfl) (by unfold mMkA; rw [if_neg c_14, if_pos c_23])
      · refine lv_aload_n hx hb dX3_make_26 rfl (lv_at hl 0 rfl) ?_
        refine lv_iload_n hx hb dX3_make_27 rfl (lv_at hl 1 rfl) ?_
        refine lv_iload_n hx hb dX3_make_28 rfl (lv_at hl 3 rfl) ?_
        refine g_callV (As := [.int 1, .int p2]) (rest := []) hx hb hml hown hts (ctX3_isInOrNone_1 l D cI cZ q u n hn h60 p2) gX3_make_X3_isInOrNone rfl rfl rfl hdX3_isInOrNone ⟨Nat.le_of_ble_eq_true rfl, Nat.le_of_ble_eq_true rfl⟩ gEM_true trivial hP hK hD hS hA 0 rfl rfl rfl hl.1 rfl (Nat.le_of_ble_eq_true rfl) dX3_make_29 ⟨Nat.zero_le _, Nat.zero_le _⟩ (fun H locs hP hD hS => ?_)
        refine W.eq (g2 := F0 m 32 ls [.int (mHasN n (u 3) 1 p2)]) rfl ?_
        refine lv_if_eq (tgt := 39) hx hb dX3_make_32 (by decide) (fun c_32 => ?_) (fun c_32 => ?_)
        · refine lv_iconst (v := 0) hx hb dX3_make_39 (by decide +kernel) ?_
          refine lv_istore (lv' := [(6, .int 0), (0, .ref (q 0)), (1, .int 1), (2, .int p1), (3, .int p2), (4, .int p3), (5, .int p4)]) hx hb dX3_make_40 hl (by decide) rfl (fun ls hl => ?_)
          exact c42 0 _ _ _ hP hD hS (lv_sub hl [1, 2, 3, 4, 5, 6, 0] rfl) (by unfold mMkA; rw [if_neg c_14, if_neg c_23, if_pos c_32])
        · refine lv_iconst (v := 1) hx hb dX3_make_35 (by decide +kernel) ?_
          refine lv_goto (tgt := 40) hx hb dX3_make_36 (by decide) ?_
          refine lv_istore (lv' := [(6, .int 1), (0, .ref (q 0)), (1, .int 1), (2, .int p1), (3, .int p2), (4, .int p3), (5, .int p4)]) hx hb dX3_make_40 hl (by decide) rfl (fun ls hl => ?_)
          exact c42 1 _ _ _ hP hD hS (lv_sub hl [1, 2, 3, 4, 5, 6, 0] rfl) (by unfold mMkA; rw [if_neg c_14, if_neg c_23, if_neg c_32])
abbrev rmX3_make_1 : Room := { frames := 4, cells := 0, slots := 0, locals := 87 }
set_option maxHeartbeats 4000000 in
set_option maxRecDepth 100000 in
theorem ctX3_make_1 (l : Launch) (D : va_G) (cI cZ : ClassId) (q : Nat → Nat) (u : SM) (n : Nat) (hn : u 15 0 = nI n) (h60 : n ≤ 60) (p1 p2 p3 p4 : Int32) (hz : (mMakeC n (u 3) 1 p1 p2 p3 p4) = 0) : gM l yX3_make wsX3_make rmX3_make_1 D [(cI, .int), (cZ, .boolean)] (MW cI cZ q) (fun _ => True) [.ref (q 0), .int 1, .int p1, .int p2, .int p3, .int p4] u (some (.int (nI n))) (mS (mS (mS (mS (mS (mS (mS u 14 (fun _ => 0)) 0 (upd (u 0) n p1)) 1 (upd (u 1) n p2)) 2 (mMakeS n p1 p3 p4 (u 2))) 3 (upd (u 3) (60 * 1 + n) 1)) 4 (mMakeF 1 p4 (u 4))) 15 (fun _ => (nI (n + 1)))) := by
  refine g_start (cc := cX3_make) (maxL := 9) (ret := (some .int)) (by decide) rfl (Nat.le_of_ble_eq_true rfl) ?_
  intro p e s m below meth c A ls Q hx hb hml hret hts hown hlk hE hP hK hD hA hl hQ hS
  have hown : s.vm.findClass RX3 = some m.cls := hown
  have hl : lv_has ls 9 [(0, .ref (q 0)), (1, .int 1), (2, .int p1), (3, .int p2), (4, .int p3), (5, .int p4)] := hl
  have hs : ¬ xRange 1 2 = 0 := by decide +kernel
  have c42 : ∀ (va : Int32) (H : Heap) (locs : List Loc) (ls : Array Slot) (hP : va_P D vwCl (MW cI cZ q u) H) (hD : va_D A (MW cI cZ q u)) (hS : va_S A s.heap H locs) (hl : lv_has ls 9 [(0, .ref (q 0)), (1, .int 1), (2, .int p1), (3, .int p2), (4, .int p3), (5, .int p4), (6, .int va)]) (hva : (mMkA n (u 3) 1 p1 p2 p3) = va), W p l e rmX3_make_1 s m ([.ref (q 0), .int 1, .int p1, .int p2, .int p3, .int p4] : List Value).toArray below meth c H locs 0 0 Q (F0 m 42 ls []) := by
    intro va H locs ls hP hD hS hl hva
    have c75 : ∀ (vf : Int32) (H : Heap) (locs : List Loc) (ls : Array Slot) (hP : va_P D vwCl (MW cI cZ q u) H) (hD : va_D A (MW cI cZ q u)) (hS : va_S A s.heap H locs) (hl : lv_has ls 9 [(0, .ref (q 0)), (1, .int 1), (2, .int p1), (3, .int p2), (4, .int p3), (5, .int p4), (6, .int va), (7, .int vf)]) (hvf : (mMkF p1 p2 p4) = vf), W p l e rmX3_make_1 s m ([.ref (q 0), .int 1, .int p1, .int p2, .int p3, .int p4] : List Value).toArray below meth c H locs 0 0 Q (F0 m 75 ls []) := by
      intro vf H locs ls hP hD hS hl hvf
      refine lv_aload_n hx hb dX3_make_75 rfl (lv_at hl 0 rfl) ?_
      refine lv_iload hx hb dX3_make_76 (lv_at hl 6 rfl) ?_
      refine lv_if_ne (tgt := 85) hx hb dX3_make_78 (by decide) (fun c_78 => ?_) (fun c_78 => ?_)
      · refine lv_iload hx hb dX3_make_85 (lv_at hl 7 rfl) ?_
        refine lv_if_ne (tgt := 94) hx hb dX3_make_87 (by decide) (fun c_87 => ?_) (fun c_87 => ?_)
        · refine lv_aload_n hx hb dX3_make_94 rfl (lv_at hl 0 rfl) ?_
          refine va_get (ci := 3) (v := .int (nI n)) (C := RX3) (T := TX3) (N := 18) hx hb hts inX3_make_RX3 hown hK hP 0 rfl rfl 1 (by decide) (hts _ lkX3_make_61) (fun _ h9 => h9) (congrArg (fun z => some (Value.int z)) hn) dX3_make_95 ?_
          refine lv_bipush (v := 60) hx hb dX3_make_98 (by decide +kernel) ?_
          refine lv_icmp_ne (tgt := 107) hx hb dX3_make_100 (by decide) (fun c_100 => ?_) (fun c_100 => ?_)
          · have n_100 : ¬ n = 60 := fun h => c_100 ((g_eqI (a := n) (b := 60) rfl rfl (by omega) (by decide)).mpr h)
            refine lv_iconst (v := 0) hx hb dX3_make_107 (by decide +kernel) ?_
            refine g_callV (As := [.int 0]) (rest := []) hx hb hml hown hts (ctX3_refused l D cI cZ q u 0) gX3_make_X3_refused rfl rfl rfl hdX3_refused ⟨Nat.le_of_ble_eq_true rfl, Nat.le_of_ble_eq_true rfl⟩ gEM_true trivial hP hK hD hS hA 0 rfl rfl rfl hl.1 rfl (Nat.le_of_ble_eq_true rfl) dX3_make_108 ⟨Nat.zero_le _, Nat.zero_le _⟩ (fun H locs hP hD hS => ?_)
            obtain ⟨hP, hD⟩ := g_toPD hP hD (MW_ext (Y := (mS u 14 (fun _ => 0))) (by refine ⟨?_, ?_, ?_, ?_, ?_, ?_, ?_, ?_, ?_, ?_, ?_, ?_, ?_, ?_, ?_, ?_, ?_, ?_⟩ <;> simp only [mS_at, ↓reduceIte, Nat.reduceEqDiff] <;> rfl))
            refine W.eq (g2 := F0 m 111 ls [.int (if 0 = 0 then 0 else 1)]) rfl ?_
            refine lv_if_eq (tgt := 116) hx hb dX3_make_111 (by decide) (fun c_111 => ?_) (fun c_111 => ?_)
            · have hn60 : n < 60 := by omega
              obtain ⟨ha1, ha2⟩ := mMkA_ne (h := fun e => c_78 (hva.symm.trans e))
              have hf1 := mMkF_ne (h := fun e => c_87 (hvf.symm.trans e))
              refine lv_aload_n hx hb dX3_make_116 rfl (lv_at hl 0 rfl) ?_
              refine va_get (ci := 3) (v := .ref (q 1)) (C := RX3) (T := TX3) (N := 18) hx hb hts inX3_make_RX3 hown hK hP 0 rfl rfl 2 (by decide) (hts _ lkX3_make_7) (fun _ h9 => h9) rfl dX3_make_117 ?_
              refine lv_aload_n hx hb dX3_make_120 rfl (lv_at hl 0 rfl) ?_
              refine va_get (ci := 3) (v := .int (nI n)) (C := RX3) (T := TX3) (N := 18) hx hb hts inX3_make_RX3 hown hK hP 0 rfl rfl 1 (by decide) (hts _ lkX3_make_61) (fun _ h9 => h9) (congrArg (fun z => some (Value.int z)) hn) dX3_make_121 ?_
              refine lv_iload_n hx hb dX3_make_124 rfl (lv_at hl 2 rfl) ?_
              refine g_iast (n := 60) (f := (u 0)) (u' := (mS (mS u 14 (fun _ => 0)) 0 (upd (u 0) n p1))) hx hb hK hP hD hS 1 0 (by rw [MW_get_0, show (mS u 14 (fun _ => 0)) 0 = (u 0) from by simp only [mS_at, ↓reduceIte, Nat.reduceEqDiff]]) rfl n (by omega) (by omega) rfl (MW_set_0 _ _) dX3_make_125 (fun H locs hP hD hS => ?_)
              refine lv_aload_n hx hb dX3_make_126 rfl (lv_at hl 0 rfl) ?_
              refine va_get (ci := 3) (v := .ref (q 2)) (C := RX3) (T := TX3) (N := 18) hx hb hts inX3_make_RX3 hown hK hP 0 rfl rfl 3 (by decide) (hts _ lkX3_make_13) (fun _ h9 => h9) rfl dX3_make_127 ?_
              refine lv_aload_n hx hb dX3_make_130 rfl (lv_at hl 0 rfl) ?_
              refine va_get (ci := 3) (v := .int (nI n)) (C := RX3) (T := TX3) (N := 18) hx hb hts inX3_make_RX3 hown hK hP 0 rfl rfl 1 (by decide) (hts _ lkX3_make_61) (fun _ h9 => h9) (congrArg (fun z => some (Value.int z)) hn) dX3_make_131 ?_
              refine lv_iload_n hx hb dX3_make_134 rfl (lv_at hl 3 rfl) ?_
              refine g_iast (n := 60) (f := (u 1)) (u' := (mS (mS (mS u 14 (fun _ => 0)) 0 (upd (u 0) n p1)) 1 (upd (u 1) n p2))) hx hb hK hP hD hS 2 0 (by rw [MW_get_1, show (mS (mS u 14 (fun _ => 0)) 0 (upd (u 0) n p1)) 1 = (u 1) from by simp only [mS_at, ↓reduceIte, Nat.reduceEqDiff]]) rfl n (by omega) (by omega) rfl (MW_set_1 _ _) dX3_make_135 (fun H locs hP hD hS => ?_)
              refine lv_iconst (v := (nI 0)) hx hb dX3_make_136 (by decide +kernel) ?_
              refine lv_istore (lv' := [(8, .int (nI 0)), (0, .ref (q 0)), (1, .int 1), (2, .int p1), (3, .int p2), (4, .int p3), (5, .int p4), (6, .int va), (7, .int vf)]) hx hb dX3_make_137 hl (by decide) rfl (fun ls hl => ?_)
              have loop : ∀ (d k : Nat) (sl : Nat → Int32) (H : Heap) (locs : List Loc) (ls : Array Slot) (hP : va_P D vwCl (MW cI cZ q (mS (mS (mS (mS u 0 (upd (u 0) n p1)) 1 (upd (u 1) n p2)) 2 sl) 14 (fun _ => 0))) H) (hD : va_D A (MW cI cZ q (mS (mS (mS (mS u 0 (upd (u 0) n p1)) 1 (upd (u 1) n p2)) 2 sl) 14 (fun _ => 0)))) (hS : va_S A s.heap H locs) (hl : lv_has ls 9 [(0, .ref (q 0)), (1, .int 1), (2, .int p1), (3, .int p2), (4, .int p3), (5, .int p4), (6, .int va), (7, .int vf), (8, .int (nI k))]) (hk : k + d = 4) (hr : itU (mMakeStep n p1 p3 p4) d k sl = (mMakeS n p1 p3 p4 (u 2))), W p l e rmX3_make_1 s m ([.ref (q 0), .int 1, .int p1, .int p2, .int p3, .int p4] : List Value).toArray below meth c H locs 0 0 Q (F0 m 139 ls []) := by
                intro d
                induction d with
                | zero =>
                  intro k sl H locs ls hP hD hS hl hk hr
                  refine lv_iload hx hb dX3_make_139 (lv_at hl 8 rfl) ?_
                  refine lv_iconst (v := 4) hx hb dX3_make_141 (by decide +kernel) ?_
                  refine lv_icmp_ge (tgt := 197) hx hb dX3_make_142 (by decide) (fun c_142 => ?_) (fun c_142 => ?_)
                  · have n_142 : 4 ≤ k := (g_leI (a := 4) (b := k) rfl rfl (by decide) (by omega)).mp c_142
                    refine lv_aload_n hx hb dX3_make_197 rfl (lv_at hl 0 rfl) ?_
                    refine va_get (ci := 3) (v := .ref (q 4)) (C := RX3) (T := TX3) (N := 18) hx hb hts inX3_make_RX3 hown hK hP 0 rfl rfl 5 (by decide) (hts _ lkX3_make_19) (fun _ h9 => h9) rfl dX3_make_198 ?_
                    refine lv_bipush (v := 60) hx hb dX3_make_201 (by decide +kernel) ?_
                    refine lv_iload_n hx hb dX3_make_203 rfl (lv_at hl 1 rfl) ?_
                    refine lv_imul hx hb dX3_make_204 ?_
                    refine lv_aload_n hx hb dX3_make_205 rfl (lv_at hl 0 rfl) ?_
                    refine va_get (ci := 3) (v := .int (nI n)) (C := RX3) (T := TX3) (N := 18) hx hb hts inX3_make_RX3 hown hK hP 0 rfl rfl 1 (by decide) (hts _ lkX3_make_61) (fun _ h9 => h9) (congrArg (fun z => some (Value.int z)) hn) dX3_make_206 ?_
                    refine lv_iadd hx hb dX3_make_209 ?_
                    refine lv_iconst (v := 1) hx hb dX3_make_210 (by decide +kernel) ?_
                    refine g_zast (n := 120) (f := (u 3)) (u' := (mS (mS (mS (mS (mS u 0 (upd (u 0) n p1)) 1 (upd (u 1) n p2)) 2 sl) 14 (fun _ => 0)) 3 (upd (u 3) (60 * 1 + n) 1))) hx hb hK hP hD hS 4 1 (by rw [MW_get_3, show (mS (mS (mS (mS u 0 (upd (u 0) n p1)) 1 (upd (u 1) n p2)) 2 sl) 14 (fun _ => 0)) 3 = (u 3) from by simp only [mS_at, ↓reduceIte, Nat.reduceEqDiff]]) rfl (60 * 1 + n) (by omega) (by omega) (g_addE (g_mulE rfl rfl) rfl) rfl (MW_set_3 _ _) dX3_make_211 (fun H locs hP hD hS => ?_)
                    refine lv_iload hx hb dX3_make_212 (lv_at hl 5 rfl) ?_
                    refine lv_iconst (v := (-1)) hx hb dX3_make_214 (by decide +kernel) ?_
                    refine lv_icmp_eq (tgt := 231) hx hb dX3_make_215 (by decide) (fun c_215 => ?_) (fun c_215 => ?_)
                    · refine lv_aload_n hx hb dX3_make_231 rfl (lv_at hl 0 rfl) ?_
                      refine lv_dup hx hb dX3_make_232 rfl ?_
                      refine va_get (ci := 3) (v := .int (nI n)) (C := RX3) (T := TX3) (N := 18) hx hb hts inX3_make_RX3 hown hK hP 0 rfl rfl 1 (by decide) (hts _ lkX3_make_61) (fun _ h9 => h9) (congrArg (fun z => some (Value.int z)) hn) dX3_make_233 ?_
                      refine lv_iconst (v := 1) hx hb dX3_make_236 (by decide +kernel) ?_
                      refine lv_iadd hx hb dX3_make_237 ?_
                      refine W.eq (g2 := F0 m 238 ls [.int (nI (n + 1)), .ref (q 0)]) (by rw [nI_1]) ?_
                      refine va_put (ci := 3) (v := .int (nI (n + 1))) (ty := .int) (C := RX3) (T := TX3) (N := 18) hx hb hts inX3_make_RX3 tyX3 tyX3_ok nmX3 hown hK hP hD hS 0 rfl rfl 1 (by decide) (hts _ lkX3_make_61) (fun _ h9 => h9) rfl (by decide +kernel) rfl rfl (Nat.le_of_ble_eq_true rfl) dX3_make_238 (fun H locs hP hD hS => ?_)
                      obtain ⟨hP, hD⟩ := g_toPD hP hD (MW_put_15 (u := (mS (mS (mS (mS (mS u 0 (upd (u 0) n p1)) 1 (upd (u 1) n p2)) 2 sl) 14 (fun _ => 0)) 3 (upd (u 3) (60 * 1 + n) 1))) (nI (n + 1)))
                      refine lv_aload_n hx hb dX3_make_241 rfl (lv_at hl 0 rfl) ?_
                      refine va_get (ci := 3) (v := .int (nI (n + 1))) (C := RX3) (T := TX3) (N := 18) hx hb hts inX3_make_RX3 hown hK hP 0 rfl rfl 1 (by decide) (hts _ lkX3_make_61) (fun _ h9 => h9) rfl dX3_make_242 ?_
                      refine lv_iconst (v := 1) hx hb dX3_make_245 (by decide +kernel) ?_
                      refine lv_isub hx hb dX3_make_246 ?_
                      refine g_iret (u1 := (mS (mS (mS (mS (mS (mS u 0 (upd (u 0) n p1)) 1 (upd (u 1) n p2)) 2 sl) 14 (fun _ => 0)) 3 (upd (u 3) (60 * 1 + n) 1)) 15 (fun _ => (nI (n + 1))))) hx hb hret hlk hQ hP hD hS dX3_make_247 ?_ ?_
                      · exact (by rw [nI_pred])
                      · exact (by rw [← hr, show (mMakeF 1 p4 (u 4)) = (u 4) from by unfold mMakeF; rw [if_pos c_215]] <;> exact (MW_ext (by refine ⟨?_, ?_, ?_, ?_, ?_, ?_, ?_, ?_, ?_, ?_, ?_, ?_, ?_, ?_, ?_, ?_, ?_, ?_⟩ <;> simp only [mS_at, ↓reduceIte, Nat.reduceEqDiff] <;> rfl)))
                    · obtain ⟨f, hf, hf2⟩ := mIn_m1 hf1 c_215
                      have hfc : p4.toNatClampNeg = f := by rw [hf2, nI_clamp (by omega)]
                      have hfl : p4.toNatClampNeg < 100 := by rw [hfc]; exact hf
                      have hfe : p4 = nI p4.toNatClampNeg := by rw [hfc]; exact hf2
                      refine lv_aload_n hx hb dX3_make_218 rfl (lv_at hl 0 rfl) ?_
                      refine va_get (ci := 3) (v := .ref (q 5)) (C := RX3) (T := TX3) (N := 18) hx hb hts inX3_make_RX3 hown hK hP 0 rfl rfl 6 (by decide) (hts _ lkX3_make_23) (fun _ h9 => h9) rfl dX3_make_219 ?_
                      refine lv_bipush (v := 100) hx hb dX3_make_222 (by decide +kernel) ?_
                      refine lv_iload_n hx hb dX3_make_224 rfl (lv_at hl 1 rfl) ?_
                      refine lv_imul hx hb dX3_make_225 ?_
                      refine lv_iload hx hb dX3_make_226 (lv_at hl 5 rfl) ?_
                      refine lv_iadd hx hb dX3_make_228 ?_
                      refine lv_iconst (v := 1) hx hb dX3_make_229 (by decide +kernel) ?_
                      refine g_zast (n := 200) (f := (u 4)) (u' := (mS (mS (mS (mS (mS (mS u 0 (upd (u 0) n p1)) 1 (upd (u 1) n p2)) 2 sl) 14 (fun _ => 0)) 3 (upd (u 3) (60 * 1 + n) 1)) 4 (upd (u 4) (100 * 1 + p4.toNatClampNeg) 1))) hx hb hK hP hD hS 5 1 (by rw [MW_get_4, show (mS (mS (mS (mS (mS u 0 (upd (u 0) n p1)) 1 (upd (u 1) n p2)) 2 sl) 14 (fun _ => 0)) 3 (upd (u 3) (60 * 1 + n) 1)) 4 = (u 4) from by simp only [mS_at, ↓reduceIte, Nat.reduceEqDiff]]) rfl (100 * 1 + p4.toNatClampNeg) (by omega) (by omega) (g_addE (g_mulE rfl rfl) hfe) rfl (MW_set_4 _ _) dX3_make_230 (fun H locs hP hD hS => ?_)
                      refine lv_aload_n hx hb dX3_make_231 rfl (lv_at hl 0 rfl) ?_
                      refine lv_dup hx hb dX3_make_232 rfl ?_
                      refine va_get (ci := 3) (v := .int (nI n)) (C := RX3) (T := TX3) (N := 18) hx hb hts inX3_make_RX3 hown hK hP 0 rfl rfl 1 (by decide) (hts _ lkX3_make_61) (fun _ h9 => h9) (congrArg (fun z => some (Value.int z)) hn) dX3_make_233 ?_
                      refine lv_iconst (v := 1) hx hb dX3_make_236 (by decide +kernel) ?_
                      refine lv_iadd hx hb dX3_make_237 ?_
                      refine W.eq (g2 := F0 m 238 ls [.int (nI (n + 1)), .ref (q 0)]) (by rw [nI_1]) ?_
                      refine va_put (ci := 3) (v := .int (nI (n + 1))) (ty := .int) (C := RX3) (T := TX3) (N := 18) hx hb hts inX3_make_RX3 tyX3 tyX3_ok nmX3 hown hK hP hD hS 0 rfl rfl 1 (by decide) (hts _ lkX3_make_61) (fun _ h9 => h9) rfl (by decide +kernel) rfl rfl (Nat.le_of_ble_eq_true rfl) dX3_make_238 (fun H locs hP hD hS => ?_)
                      obtain ⟨hP, hD⟩ := g_toPD hP hD (MW_put_15 (u := (mS (mS (mS (mS (mS (mS u 0 (upd (u 0) n p1)) 1 (upd (u 1) n p2)) 2 sl) 14 (fun _ => 0)) 3 (upd (u 3) (60 * 1 + n) 1)) 4 (upd (u 4) (100 * 1 + p4.toNatClampNeg) 1))) (nI (n + 1)))
                      refine lv_aload_n hx hb dX3_make_241 rfl (lv_at hl 0 rfl) ?_
                      refine va_get (ci := 3) (v := .int (nI (n + 1))) (C := RX3) (T := TX3) (N := 18) hx hb hts inX3_make_RX3 hown hK hP 0 rfl rfl 1 (by decide) (hts _ lkX3_make_61) (fun _ h9 => h9) rfl dX3_make_242 ?_
                      refine lv_iconst (v := 1) hx hb dX3_make_245 (by decide +kernel) ?_
                      refine lv_isub hx hb dX3_make_246 ?_
                      refine g_iret (u1 := (mS (mS (mS (mS (mS (mS (mS u 0 (upd (u 0) n p1)) 1 (upd (u 1) n p2)) 2 sl) 14 (fun _ => 0)) 3 (upd (u 3) (60 * 1 + n) 1)) 4 (upd (u 4) (100 * 1 + p4.toNatClampNeg) 1)) 15 (fun _ => (nI (n + 1))))) hx hb hret hlk hQ hP hD hS dX3_make_247 ?_ ?_
                      · exact (by rw [nI_pred])
                      · exact (by rw [← hr, show (mMakeF 1 p4 (u 4)) = (upd (u 4) (100 * 1 + p4.toNatClampNeg) 1) from by unfold mMakeF; rw [if_neg c_215]] <;> exact (MW_ext (by refine ⟨?_, ?_, ?_, ?_, ?_, ?_, ?_, ?_, ?_, ?_, ?_, ?_, ?_, ?_, ?_, ?_, ?_, ?_⟩ <;> simp only [mS_at, ↓reduceIte, Nat.reduceEqDiff] <;> rfl)))
                  · have n_142 : ¬ 4 ≤ k := fun h => c_142 ((g_leI (a := 4) (b := k) rfl rfl (by decide) (by omega)).mpr h)
                    exfalso; omega
                | succ d ih =>
                  intro k sl H locs ls hP hD hS hl hk hr
                  refine lv_iload hx hb dX3_make_139 (lv_at hl 8 rfl) ?_
                  refine lv_iconst (v := 4) hx hb dX3_make_141 (by decide +kernel) ?_
                  refine lv_icmp_ge (tgt := 197) hx hb dX3_make_142 (by decide) (fun c_142 => ?_) (fun c_142 => ?_)
                  · have n_142 : 4 ≤ k := (g_leI (a := 4) (b := k) rfl rfl (by decide) (by omega)).mp c_142
                    exfalso; omega
                  · have n_142 : ¬ 4 ≤ k := fun h => c_142 ((g_leI (a := 4) (b := k) rfl rfl (by decide) (by omega)).mpr h)
                    refine lv_aload_n hx hb dX3_make_145 rfl (lv_at hl 0 rfl) ?_
                    refine va_get (ci := 3) (v := .ref (q 3)) (C := RX3) (T := TX3) (N := 18) hx hb hts inX3_make_RX3 hown hK hP 0 rfl rfl 4 (by decide) (hts _ lkX3_make_16) (fun _ h9 => h9) rfl dX3_make_146 ?_
                    refine lv_iconst (v := 4) hx hb dX3_make_149 (by decide +kernel) ?_
                    refine lv_aload_n hx hb dX3_make_150 rfl (lv_at hl 0 rfl) ?_
                    refine va_get (ci := 3) (v := .int (nI n)) (C := RX3) (T := TX3) (N := 18) hx hb hts inX3_make_RX3 hown hK hP 0 rfl rfl 1 (by decide) (hts _ lkX3_make_61) (fun _ h9 => h9) (congrArg (fun z => some (Value.int z)) hn) dX3_make_151 ?_
                    refine lv_imul hx hb dX3_make_154 ?_
                    refine lv_iload hx hb dX3_make_155 (lv_at hl 8 rfl) ?_
                    refine lv_iadd hx hb dX3_make_157 ?_
                    refine lv_iload hx hb dX3_make_158 (lv_at hl 8 rfl) ?_
                    refine lv_iload hx hb dX3_make_160 (lv_at hl 4 rfl) ?_
                    refine lv_icmp_ne (tgt := 170) hx hb dX3_make_162 (by decide) (fun c_162 => ?_) (fun c_162 => ?_)
                    · refine lv_iload_n hx hb dX3_make_170 rfl (lv_at hl 2 rfl) ?_
                      refine lv_iconst (v := (-1)) hx hb dX3_make_171 (by decide +kernel) ?_
                      refine lv_icmp_ne (tgt := 179) hx hb dX3_make_172 (by decide) (fun c_172 => ?_) (fun c_172 => ?_)
                      · obtain ⟨j, hj, hj2⟩ := mHasN_ne (by omega) ha1 c_172
                        have hjc : p1.toNatClampNeg = j := by rw [hj2, nI_clamp (by omega)]
                        have hjl : p1.toNatClampNeg < 60 := by rw [hjc]; omega
                        have hje : p1 = nI p1.toNatClampNeg := by rw [hjc]; exact hj2
                        refine lv_aload_n hx hb dX3_make_179 rfl (lv_at hl 0 rfl) ?_
                        refine va_get (ci := 3) (v := .ref (q 3)) (C := RX3) (T := TX3) (N := 18) hx hb hts inX3_make_RX3 hown hK hP 0 rfl rfl 4 (by decide) (hts _ lkX3_make_16) (fun _ h9 => h9) rfl dX3_make_180 ?_
                        refine lv_iconst (v := 4) hx hb dX3_make_183 (by decide +kernel) ?_
                        refine lv_iload_n hx hb dX3_make_184 rfl (lv_at hl 2 rfl) ?_
                        refine lv_imul hx hb dX3_make_185 ?_
                        refine lv_iload hx hb dX3_make_186 (lv_at hl 8 rfl) ?_
                        refine lv_iadd hx hb dX3_make_188 ?_
                        refine g_iald (n := 240) (f := sl) hx hb hK hP 3 0 (by rw [MW_get_2, show (mS (mS (mS (mS u 0 (upd (u 0) n p1)) 1 (upd (u 1) n p2)) 2 sl) 14 (fun _ => 0)) 2 = sl from by simp only [mS_at, ↓reduceIte, Nat.reduceEqDiff]]) rfl (4 * p1.toNatClampNeg + k) (by omega) (by omega) (g_addE (g_mulE rfl hje) rfl) dX3_make_189 ?_
                        refine g_iast (n := 240) (f := sl) (u' := (mS (mS (mS (mS (mS u 0 (upd (u 0) n p1)) 1 (upd (u 1) n p2)) 2 sl) 14 (fun _ => 0)) 2 (upd sl (4 * n + k) (sl (4 * p1.toNatClampNeg + k))))) hx hb hK hP hD hS 3 0 (by rw [MW_get_2, show (mS (mS (mS (mS u 0 (upd (u 0) n p1)) 1 (upd (u 1) n p2)) 2 sl) 14 (fun _ => 0)) 2 = sl from by simp only [mS_at, ↓reduceIte, Nat.reduceEqDiff]]) rfl (4 * n + k) (by omega) (by omega) (g_addE (g_mulE rfl rfl) rfl) (MW_set_2 _ _) dX3_make_190 (fun H locs hP hD hS => ?_)
                        refine lv_iinc (v := (nI (k + 1))) (lv' := [(8, .int (nI (k + 1))), (0, .ref (q 0)), (1, .int 1), (2, .int p1), (3, .int p2), (4, .int p3), (5, .int p4), (6, .int va), (7, .int vf)]) hx hb dX3_make_191 hl (k := 8) rfl (nI_1 _) (by decide) rfl (fun ls hl => ?_)
                        refine lv_goto (tgt := 139) hx hb dX3_make_194 (by decide) ?_
                        rw [show MW cI cZ q (mS (mS (mS (mS (mS u 0 (upd (u 0) n p1)) 1 (upd (u 1) n p2)) 2 sl) 14 (fun _ => 0)) 2 (upd sl (4 * n + k) (sl (4 * p1.toNatClampNeg + k)))) = MW cI cZ q (mS (mS (mS (mS u 0 (upd (u 0) n p1)) 1 (upd (u 1) n p2)) 2 (upd sl (4 * n + k) (sl (4 * p1.toNatClampNeg + k)))) 14 (fun _ => 0)) from (MW_ext (by refine ⟨?_, ?_, ?_, ?_, ?_, ?_, ?_, ?_, ?_, ?_, ?_, ?_, ?_, ?_, ?_, ?_, ?_, ?_⟩ <;> simp only [mS_at, ↓reduceIte, Nat.reduceEqDiff] <;> rfl))] at hP hD
                        exact ih (k + 1) (upd sl (4 * n + k) (sl (4 * p1.toNatClampNeg + k))) _ _ _ hP hD hS (lv_sub hl [1, 2, 3, 4, 5, 6, 7, 8, 0] rfl) (by omega) (by rw [← hr]; show _ = itU _ d (k + 1) (mMakeStep n p1 p3 p4 k sl); rw [show mMakeStep n p1 p3 p4 k sl = (upd sl (4 * n + k) (sl (4 * p1.toNatClampNeg + k))) from by unfold mMakeStep; rw [if_neg c_162, if_neg c_172]])
                      · refine lv_iconst (v := (-1)) hx hb dX3_make_175 (by decide +kernel) ?_
                        refine lv_goto (tgt := 190) hx hb dX3_make_176 (by decide) ?_
                        refine g_iast (n := 240) (f := sl) (u' := (mS (mS (mS (mS (mS u 0 (upd (u 0) n p1)) 1 (upd (u 1) n p2)) 2 sl) 14 (fun _ => 0)) 2 (upd sl (4 * n + k) (-1)))) hx hb hK hP hD hS 3 0 (by rw [MW_get_2, show (mS (mS (mS (mS u 0 (upd (u 0) n p1)) 1 (upd (u 1) n p2)) 2 sl) 14 (fun _ => 0)) 2 = sl from by simp only [mS_at, ↓reduceIte, Nat.reduceEqDiff]]) rfl (4 * n + k) (by omega) (by omega) (g_addE (g_mulE rfl rfl) rfl) (MW_set_2 _ _) dX3_make_190 (fun H locs hP hD hS => ?_)
                        refine lv_iinc (v := (nI (k + 1))) (lv' := [(8, .int (nI (k + 1))), (0, .ref (q 0)), (1, .int 1), (2, .int p1), (3, .int p2), (4, .int p3), (5, .int p4), (6, .int va), (7, .int vf)]) hx hb dX3_make_191 hl (k := 8) rfl (nI_1 _) (by decide) rfl (fun ls hl => ?_)
                        refine lv_goto (tgt := 139) hx hb dX3_make_194 (by decide) ?_
                        rw [show MW cI cZ q (mS (mS (mS (mS (mS u 0 (upd (u 0) n p1)) 1 (upd (u 1) n p2)) 2 sl) 14 (fun _ => 0)) 2 (upd sl (4 * n + k) (-1))) = MW cI cZ q (mS (mS (mS (mS u 0 (upd (u 0) n p1)) 1 (upd (u 1) n p2)) 2 (upd sl (4 * n + k) (-1))) 14 (fun _ => 0)) from (MW_ext (by refine ⟨?_, ?_, ?_, ?_, ?_, ?_, ?_, ?_, ?_, ?_, ?_, ?_, ?_, ?_, ?_, ?_, ?_, ?_⟩ <;> simp only [mS_at, ↓reduceIte, Nat.reduceEqDiff] <;> rfl))] at hP hD
                        exact ih (k + 1) (upd sl (4 * n + k) (-1)) _ _ _ hP hD hS (lv_sub hl [1, 2, 3, 4, 5, 6, 7, 8, 0] rfl) (by omega) (by rw [← hr]; show _ = itU _ d (k + 1) (mMakeStep n p1 p3 p4 k sl); rw [show mMakeStep n p1 p3 p4 k sl = (upd sl (4 * n + k) (-1)) from by unfold mMakeStep; rw [if_neg c_162, if_pos c_172]])
                    · refine lv_iload hx hb dX3_make_165 (lv_at hl 5 rfl) ?_
                      refine lv_goto (tgt := 190) hx hb dX3_make_167 (by decide) ?_
                      refine g_iast (n := 240) (f := sl) (u' := (mS (mS (mS (mS (mS u 0 (upd (u 0) n p1)) 1 (upd (u 1) n p2)) 2 sl) 14 (fun _ => 0)) 2 (upd sl (4 * n + k) p4))) hx hb hK hP hD hS 3 0 (by rw [MW_get_2, show (mS (mS (mS (mS u 0 (upd (u 0) n p1)) 1 (upd (u 1) n p2)) 2 sl) 14 (fun _ => 0)) 2 = sl from by simp only [mS_at, ↓reduceIte, Nat.reduceEqDiff]]) rfl (4 * n + k) (by omega) (by omega) (g_addE (g_mulE rfl rfl) rfl) (MW_set_2 _ _) dX3_make_190 (fun H locs hP hD hS => ?_)
                      refine lv_iinc (v := (nI (k + 1))) (lv' := [(8, .int (nI (k + 1))), (0, .ref (q 0)), (1, .int 1), (2, .int p1), (3, .int p2), (4, .int p3), (5, .int p4), (6, .int va), (7, .int vf)]) hx hb dX3_make_191 hl (k := 8) rfl (nI_1 _) (by decide) rfl (fun ls hl => ?_)
                      refine lv_goto (tgt := 139) hx hb dX3_make_194 (by decide) ?_
                      rw [show MW cI cZ q (mS (mS (mS (mS (mS u 0 (upd (u 0) n p1)) 1 (upd (u 1) n p2)) 2 sl) 14 (fun _ => 0)) 2 (upd sl (4 * n + k) p4)) = MW cI cZ q (mS (mS (mS (mS u 0 (upd (u 0) n p1)) 1 (upd (u 1) n p2)) 2 (upd sl (4 * n + k) p4)) 14 (fun _ => 0)) from (MW_ext (by refine ⟨?_, ?_, ?_, ?_, ?_, ?_, ?_, ?_, ?_, ?_, ?_, ?_, ?_, ?_, ?_, ?_, ?_, ?_⟩ <;> simp only [mS_at, ↓reduceIte, Nat.reduceEqDiff] <;> rfl))] at hP hD
                      exact ih (k + 1) (upd sl (4 * n + k) p4) _ _ _ hP hD hS (lv_sub hl [1, 2, 3, 4, 5, 6, 7, 8, 0] rfl) (by omega) (by rw [← hr]; show _ = itU _ d (k + 1) (mMakeStep n p1 p3 p4 k sl); rw [show mMakeStep n p1 p3 p4 k sl = (upd sl (4 * n + k) p4) from by unfold mMakeStep; rw [if_pos c_162]])
              rw [show MW cI cZ q (mS (mS (mS u 14 (fun _ => 0)) 0 (upd (u 0) n p1)) 1 (upd (u 1) n p2)) = MW cI cZ q (mS (mS (mS (mS u 0 (upd (u 0) n p1)) 1 (upd (u 1) n p2)) 2 (u 2)) 14 (fun _ => 0)) from (MW_ext (by refine ⟨?_, ?_, ?_, ?_, ?_, ?_, ?_, ?_, ?_, ?_, ?_, ?_, ?_, ?_, ?_, ?_, ?_, ?_⟩ <;> simp only [mS_at, ↓reduceIte, Nat.reduceEqDiff] <;> rfl))] at hP hD
              exact loop 4 0 (u 2) _ _ _ hP hD hS (lv_sub hl [1, 2, 3, 4, 5, 6, 7, 8, 0] rfl) (by omega) (opq_eq _).symm
            · exact absurd (show (0 : Int32) = 0 from rfl) c_111
          · have n_100 : n = 60 := (g_eqI (a := n) (b := 60) rfl rfl (by omega) (by decide)).mp c_100
            exact absurd (hz.symm.trans (by unfold mMakeC; rw [hva, if_neg c_78, hvf, if_neg c_87, if_pos n_100])) (by decide)
        · exact absurd (hz.symm.trans (by unfold mMakeC; rw [hva, if_neg c_78, hvf, if_pos c_87])) (by decide)
      · exact absurd (hz.symm.trans (by unfold mMakeC; rw [hva, if_pos c_78])) (by decide)
    refine lv_iload hx hb dX3_make_42 (lv_at hl 5 rfl) ?_
    refine lv_iconst (v := (-1)) hx hb dX3_make_44 (by decide +kernel) ?_
    refine lv_bipush (v := 99) hx hb dX3_make_45 (by decide +kernel) ?_
    refine g_callS0 (As := [.int p4, .int (-1), .int 99]) (rest := []) hx hb hml hown hts (ctX3_in l D cI cZ q p4 (-1) 99) gX3_make_X3_in rfl rfl rfl hdX3_in ⟨Nat.le_of_ble_eq_true rfl, Nat.le_of_ble_eq_true rfl⟩ gEM_true trivial hP hK hS hA rfl hl.1 rfl (Nat.le_of_ble_eq_true rfl) dX3_make_47 ⟨Nat.zero_le _, Nat.zero_le _⟩ (fun H locs hP hS => ?_)
    refine W.eq (g2 := F0 m 50 ls [.int (mIn p4 (-1) 99)]) rfl ?_
    refine lv_if_eq (tgt := 72) hx hb dX3_make_50 (by decide) (fun c_50 => ?_) (fun c_50 => ?_)
    · refine lv_iconst (v := 0) hx hb dX3_make_72 (by decide +kernel) ?_
      refine lv_istore (lv' := [(7, .int 0), (0, .ref (q 0)), (1, .int 1), (2, .int p1), (3, .int p2), (4, .int p3), (5, .int p4), (6, .int va)]) hx hb dX3_make_73 hl (by decide) rfl (fun ls hl => ?_)
      exact c75 0 _ _ _ hP hD hS (lv_sub hl [1, 2, 3, 4, 5, 6, 7, 0] rfl) (by unfold mMkF; rw [if_pos c_50])
    · refine lv_iload_n hx hb dX3_make_53 rfl (lv_at hl 3 rfl) ?_
      refine lv_iconst (v := (-1)) hx hb dX3_make_54 (by decide +kernel) ?_
      refine lv_icmp_eq (tgt := 68) hx hb dX3_make_55 (by decide) (fun c_55 => ?_) (fun c_55 => ?_)
      · refine lv_iconst (v := 1) hx hb dX3_make_68 (by decide +kernel) ?_
        refine lv_goto (tgt := 73) hx hb dX3_make_69 (by decide) ?_
        refine lv_istore (lv' := [(7, .int 1), (0, .ref (q 0)), (1, .int 1), (2, .int p1), (3, .int p2), (4, .int p3), (5, .int p4), (6, .int va)]) hx hb dX3_make_73 hl (by decide) rfl (fun ls hl => ?_)
        exact c75 1 _ _ _ hP hD hS (lv_sub hl [1, 2, 3, 4, 5, 6, 7, 0] rfl) (by unfold mMkF; rw [if_neg c_50, if_pos c_55])
      · refine lv_iload_n hx hb dX3_make_58 rfl (lv_at hl 2 rfl) ?_
        refine lv_iconst (v := (-1)) hx hb dX3_make_59 (by decide +kernel) ?_
        refine lv_icmp_eq (tgt := 72) hx hb dX3_make_60 (by decide) (fun c_60 => ?_) (fun c_60 => ?_)
        · refine lv_iconst (v := 0) hx hb dX3_make_72 (by decide +kernel) ?_
          refine lv_istore (lv' := [(7, .int 0), (0, .ref (q 0)), (1, .int 1), (2, .int p1), (3, .int p2), (4, .int p3), (5, .int p4), (6, .int va)]) hx hb dX3_make_73 hl (by decide) rfl (fun ls hl => ?_)
          exact c75 0 _ _ _ hP hD hS (lv_sub hl [1, 2, 3, 4, 5, 6, 7, 0] rfl) (by unfold mMkF; rw [if_neg c_50, if_neg c_55, if_pos c_60])
        · refine lv_iload_n hx hb dX3_make_63 rfl (lv_at hl 2 rfl) ?_
          refine lv_iload_n hx hb dX3_make_64 rfl (lv_at hl 3 rfl) ?_
          refine lv_icmp_eq (tgt := 72) hx hb dX3_make_65 (by decide) (fun c_65 => ?_) (fun c_65 => ?_)
          · refine lv_iconst (v := 0) hx hb dX3_make_72 (by decide +kernel) ?_
            refine lv_istore (lv' := [(7, .int 0), (0, .ref (q 0)), (1, .int 1), (2, .int p1), (3, .int p2), (4, .int p3), (5, .int p4), (6, .int va)]) hx hb dX3_make_73 hl (by decide) rfl (fun ls hl => ?_)
            exact c75 0 _ _ _ hP hD hS (lv_sub hl [1, 2, 3, 4, 5, 6, 7, 0] rfl) (by unfold mMkF; rw [if_neg c_50, if_neg c_55, if_neg c_60, if_pos c_65])
          · refine lv_iconst (v := 1) hx hb dX3_make_68 (by decide +kernel) ?_
            refine lv_goto (tgt := 73) hx hb dX3_make_69 (by decide) ?_
            refine lv_istore (lv' := [(7, .int 1), (0, .ref (q 0)), (1, .int 1), (2, .int p1), (3, .int p2), (4, .int p3), (5, .int p4), (6, .int va)]) hx hb dX3_make_73 hl (by decide) rfl (fun ls hl => ?_)
            exact c75 1 _ _ _ hP hD hS (lv_sub hl [1, 2, 3, 4, 5, 6, 7, 0] rfl) (by unfold mMkF; rw [if_neg c_50, if_neg c_55, if_neg c_60, if_neg c_65])
  refine lv_iload_n hx hb dX3_make_0 rfl (lv_at hl 1 rfl) ?_
  refine g_callS0 (As := [.int 1]) (rest := []) hx hb hml hown hts (ctX3_isStore l D cI cZ q 1) gX3_make_X3_isStore rfl rfl rfl hdX3_isStore ⟨Nat.le_of_ble_eq_true rfl, Nat.le_of_ble_eq_true rfl⟩ gEM_true trivial hP hK hS hA rfl hl.1 rfl (Nat.le_of_ble_eq_true rfl) dX3_make_1 ⟨Nat.zero_le _, Nat.zero_le _⟩ (fun H locs hP hS => ?_)
  refine W.eq (g2 := F0 m 4 ls [.int (xRange 1 2)]) rfl ?_
  refine lv_if_eq (tgt := 39) hx hb dX3_make_4 (by decide) (fun c_4 => ?_) (fun c_4 => ?_)
  · exact absurd c_4 hs
  · refine lv_iload hx hb dX3_make_7 (lv_at hl 4 rfl) ?_
    refine lv_iconst (v := 0) hx hb dX3_make_9 (by decide +kernel) ?_
    refine lv_iconst (v := 3) hx hb dX3_make_10 (by decide +kernel) ?_
    refine g_callS0 (As := [.int p3, .int 0, .int 3]) (rest := []) hx hb hml hown hts (ctX3_in_4 l D cI cZ q p3) gX3_make_X3_in rfl rfl rfl hdX3_in ⟨Nat.le_of_ble_eq_true rfl, Nat.le_of_ble_eq_true rfl⟩ gEM_true trivial hP hK hS hA rfl hl.1 rfl (Nat.le_of_ble_eq_true rfl) dX3_make_11 ⟨Nat.zero_le _, Nat.zero_le _⟩ (fun H locs hP hS => ?_)
    refine W.eq (g2 := F0 m 14 ls [.int (xRange p3 4)]) rfl ?_
    refine lv_if_eq (tgt := 39) hx hb dX3_make_14 (by decide) (fun c_14 => ?_) (fun c_14 => ?_)
    · refine lv_iconst (v := 0) hx hb dX3_make_39 (by decide +kernel) ?_
      refine lv_istore (lv' := [(6, .int 0), (0, .ref (q 0)), (1, .int 1), (2, .int p1), (3, .int p2), (4, .int p3), (5, .int p4)]) hx hb dX3_make_40 hl (by decide) rfl (fun ls hl => ?_)
      exact c42 0 _ _ _ hP hD hS (lv_sub hl [1, 2, 3, 4, 5, 6, 0] rfl) (by unfold mMkA; rw [if_pos c_14])
    · refine lv_aload_n hx hb dX3_make_17 rfl (lv_at hl 0 rfl) ?_
      refine lv_iload_n hx hb dX3_make_18 rfl (lv_at hl 1 rfl) ?_
      refine lv_iload_n hx hb dX3_make_19 rfl (lv_at hl 2 rfl) ?_
      refine g_callV (As := [.int 1, .int p1]) (rest := []) hx hb hml hown hts (ctX3_isInOrNone_1 l D cI cZ q u n hn h60 p1) gX3_make_X3_isInOrNone rfl rfl rfl hdX3_isInOrNone ⟨Nat.le_of_ble_eq_true rfl, Nat.le_of_ble_eq_true rfl⟩ gEM_true trivial hP hK hD hS hA 0 rfl rfl rfl hl.1 rfl (Nat.le_of_ble_eq_true rfl) dX3_make_20 ⟨Nat.zero_le _, Nat.zero_le _⟩ (fun H locs hP hD hS => ?_)
      refine W.eq (g2 := F0 m 23 ls [.int (mHasN n (u 3) 1 p1)]) rfl ?_
      refine lv_if_eq (tgt := 39) hx hb dX3_make_23 (by decide) (fun c_23 => ?_) (fun c_23 => ?_)
      · refine lv_iconst (v := 0) hx hb dX3_make_39 (by decide +kernel) ?_
        refine lv_istore (lv' := [(6, .int 0), (0, .ref (q 0)), (1, .int 1), (2, .int p1), (3, .int p2), (4, .int p3), (5, .int p4)]) hx hb dX3_make_40 hl (by decide) rfl (fun ls hl => ?_)
        exact c42 0 _ _ _ hP hD hS (lv_sub hl [1, 2, 3, 4, 5, 6, 0] rfl) (by unfold mMkA; rw [if_neg c_14, if_pos c_23])
      · refine lv_aload_n hx hb dX3_make_26 rfl (lv_at hl 0 rfl) ?_
        refine lv_iload_n hx hb dX3_make_27 rfl (lv_at hl 1 rfl) ?_
        refine lv_iload_n hx hb dX3_make_28 rfl (lv_at hl 3 rfl) ?_
        refine g_callV (As := [.int 1, .int p2]) (rest := []) hx hb hml hown hts (ctX3_isInOrNone_1 l D cI cZ q u n hn h60 p2) gX3_make_X3_isInOrNone rfl rfl rfl hdX3_isInOrNone ⟨Nat.le_of_ble_eq_true rfl, Nat.le_of_ble_eq_true rfl⟩ gEM_true trivial hP hK hD hS hA 0 rfl rfl rfl hl.1 rfl (Nat.le_of_ble_eq_true rfl) dX3_make_29 ⟨Nat.zero_le _, Nat.zero_le _⟩ (fun H locs hP hD hS => ?_)
        refine W.eq (g2 := F0 m 32 ls [.int (mHasN n (u 3) 1 p2)]) rfl ?_
        refine lv_if_eq (tgt := 39) hx hb dX3_make_32 (by decide) (fun c_32 => ?_) (fun c_32 => ?_)
        · refine lv_iconst (v := 0) hx hb dX3_make_39 (by decide +kernel) ?_
          refine lv_istore (lv' := [(6, .int 0), (0, .ref (q 0)), (1, .int 1), (2, .int p1), (3, .int p2), (4, .int p3), (5, .int p4)]) hx hb dX3_make_40 hl (by decide) rfl (fun ls hl => ?_)
          exact c42 0 _ _ _ hP hD hS (lv_sub hl [1, 2, 3, 4, 5, 6, 0] rfl) (by unfold mMkA; rw [if_neg c_14, if_neg c_23, if_pos c_32])
        · refine lv_iconst (v := 1) hx hb dX3_make_35 (by decide +kernel) ?_
          refine lv_goto (tgt := 40) hx hb dX3_make_36 (by decide) ?_
          refine lv_istore (lv' := [(6, .int 1), (0, .ref (q 0)), (1, .int 1), (2, .int p1), (3, .int p2), (4, .int p3), (5, .int p4)]) hx hb dX3_make_40 hl (by decide) rfl (fun ls hl => ?_)
          exact c42 1 _ _ _ hP hD hS (lv_sub hl [1, 2, 3, 4, 5, 6, 0] rfl) (by unfold mMkA; rw [if_neg c_14, if_neg c_23, if_neg c_32])
abbrev rmX3_make_ns : Room := { frames := 2, cells := 0, slots := 0, locals := 42 }
set_option maxHeartbeats 4000000 in
set_option maxRecDepth 100000 in
theorem ctX3_make_ns (l : Launch) (D : va_G) (cI cZ : ClassId) (q : Nat → Nat) (u : SM) (p0 p1 p2 p3 p4 : Int32) (h : xRange p0 2 = 0) : gM l yX3_make wsX3_make rmX3_make_ns D [(cI, .int), (cZ, .boolean)] (MW cI cZ q) (fun _ => True) [.ref (q 0), .int p0, .int p1, .int p2, .int p3, .int p4] u (some (.int 0)) (mS u 14 (fun _ => 1)) := by
  refine g_start (cc := cX3_make) (maxL := 9) (ret := (some .int)) (by decide) rfl (Nat.le_of_ble_eq_true rfl) ?_
  intro p e s m below meth c A ls Q hx hb hml hret hts hown hlk hE hP hK hD hA hl hQ hS
  have hown : s.vm.findClass RX3 = some m.cls := hown
  have hl : lv_has ls 9 [(0, .ref (q 0)), (1, .int p0), (2, .int p1), (3, .int p2), (4, .int p3), (5, .int p4)] := hl
  have c42 : ∀ (va : Int32) (H : Heap) (locs : List Loc) (ls : Array Slot) (hP : va_P D vwCl (MW cI cZ q u) H) (hD : va_D A (MW cI cZ q u)) (hS : va_S A s.heap H locs) (hl : lv_has ls 9 [(0, .ref (q 0)), (1, .int p0), (2, .int p1), (3, .int p2), (4, .int p3), (5, .int p4), (6, .int va)]) (hva : va = 0), W p l e rmX3_make_ns s m ([.ref (q 0), .int p0, .int p1, .int p2, .int p3, .int p4] : List Value).toArray below meth c H locs 0 0 Q (F0 m 42 ls []) := by
    intro va H locs ls hP hD hS hl hva
    have c75 : ∀ (vf : Int32) (H : Heap) (locs : List Loc) (ls : Array Slot) (hP : va_P D vwCl (MW cI cZ q u) H) (hD : va_D A (MW cI cZ q u)) (hS : va_S A s.heap H locs) (hl : lv_has ls 9 [(0, .ref (q 0)), (1, .int p0), (2, .int p1), (3, .int p2), (4, .int p3), (5, .int p4), (6, .int va), (7, .int vf)]), W p l e rmX3_make_ns s m ([.ref (q 0), .int p0, .int p1, .int p2, .int p3, .int p4] : List Value).toArray below meth c H locs 0 0 Q (F0 m 75 ls []) := by
      intro vf H locs ls hP hD hS hl
      refine lv_aload_n hx hb dX3_make_75 rfl (lv_at hl 0 rfl) ?_
      refine lv_iload hx hb dX3_make_76 (lv_at hl 6 rfl) ?_
      refine lv_if_ne (tgt := 85) hx hb dX3_make_78 (by decide) (fun c_78 => ?_) (fun c_78 => ?_)
      · exact absurd hva c_78
      · refine lv_iconst (v := 1) hx hb dX3_make_81 (by decide +kernel) ?_
        refine lv_goto (tgt := 108) hx hb dX3_make_82 (by decide) ?_
        refine g_callV (As := [.int 1]) (rest := []) hx hb hml hown hts (ctX3_refused l D cI cZ q u 1) gX3_make_X3_refused rfl rfl rfl hdX3_refused ⟨Nat.le_of_ble_eq_true rfl, Nat.le_of_ble_eq_true rfl⟩ gEM_true trivial hP hK hD hS hA 0 rfl rfl rfl hl.1 rfl (Nat.le_of_ble_eq_true rfl) dX3_make_108 ⟨Nat.zero_le _, Nat.zero_le _⟩ (fun H locs hP hD hS => ?_)
        obtain ⟨hP, hD⟩ := g_toPD hP hD (MW_ext (Y := (mS u 14 (fun _ => 1))) (by refine ⟨?_, ?_, ?_, ?_, ?_, ?_, ?_, ?_, ?_, ?_, ?_, ?_, ?_, ?_, ?_, ?_, ?_, ?_⟩ <;> simp only [mS_at, ↓reduceIte, Nat.reduceEqDiff] <;> rfl))
        refine W.eq (g2 := F0 m 111 ls [.int (if 1 = 0 then 0 else 1)]) rfl ?_
        refine lv_if_eq (tgt := 116) hx hb dX3_make_111 (by decide) (fun c_111 => ?_) (fun c_111 => ?_)
        · exact absurd c_111 (by decide)
        · refine lv_iconst (v := 0) hx hb dX3_make_114 (by decide +kernel) ?_
          refine g_iret (u1 := (mS u 14 (fun _ => 1))) hx hb hret hlk hQ hP hD hS dX3_make_115 ?_ ?_
          · exact rfl
          · exact rfl
    refine lv_iload hx hb dX3_make_42 (lv_at hl 5 rfl) ?_
    refine lv_iconst (v := (-1)) hx hb dX3_make_44 (by decide +kernel) ?_
    refine lv_bipush (v := 99) hx hb dX3_make_45 (by decide +kernel) ?_
    refine g_callS0 (As := [.int p4, .int (-1), .int 99]) (rest := []) hx hb hml hown hts (ctX3_in l D cI cZ q p4 (-1) 99) gX3_make_X3_in rfl rfl rfl hdX3_in ⟨Nat.le_of_ble_eq_true rfl, Nat.le_of_ble_eq_true rfl⟩ gEM_true trivial hP hK hS hA rfl hl.1 rfl (Nat.le_of_ble_eq_true rfl) dX3_make_47 ⟨Nat.zero_le _, Nat.zero_le _⟩ (fun H locs hP hS => ?_)
    refine W.eq (g2 := F0 m 50 ls [.int (mIn p4 (-1) 99)]) rfl ?_
    refine lv_if_eq (tgt := 72) hx hb dX3_make_50 (by decide) (fun c_50 => ?_) (fun c_50 => ?_)
    · refine lv_iconst (v := 0) hx hb dX3_make_72 (by decide +kernel) ?_
      refine lv_istore (lv' := [(7, .int 0), (0, .ref (q 0)), (1, .int p0), (2, .int p1), (3, .int p2), (4, .int p3), (5, .int p4), (6, .int va)]) hx hb dX3_make_73 hl (by decide) rfl (fun ls hl => ?_)
      exact c75 0 _ _ _ hP hD hS (lv_sub hl [1, 2, 3, 4, 5, 6, 7, 0] rfl) 
    · refine lv_iload_n hx hb dX3_make_53 rfl (lv_at hl 3 rfl) ?_
      refine lv_iconst (v := (-1)) hx hb dX3_make_54 (by decide +kernel) ?_
      refine lv_icmp_eq (tgt := 68) hx hb dX3_make_55 (by decide) (fun c_55 => ?_) (fun c_55 => ?_)
      · refine lv_iconst (v := 1) hx hb dX3_make_68 (by decide +kernel) ?_
        refine lv_goto (tgt := 73) hx hb dX3_make_69 (by decide) ?_
        refine lv_istore (lv' := [(7, .int 1), (0, .ref (q 0)), (1, .int p0), (2, .int p1), (3, .int p2), (4, .int p3), (5, .int p4), (6, .int va)]) hx hb dX3_make_73 hl (by decide) rfl (fun ls hl => ?_)
        exact c75 1 _ _ _ hP hD hS (lv_sub hl [1, 2, 3, 4, 5, 6, 7, 0] rfl) 
      · refine lv_iload_n hx hb dX3_make_58 rfl (lv_at hl 2 rfl) ?_
        refine lv_iconst (v := (-1)) hx hb dX3_make_59 (by decide +kernel) ?_
        refine lv_icmp_eq (tgt := 72) hx hb dX3_make_60 (by decide) (fun c_60 => ?_) (fun c_60 => ?_)
        · refine lv_iconst (v := 0) hx hb dX3_make_72 (by decide +kernel) ?_
          refine lv_istore (lv' := [(7, .int 0), (0, .ref (q 0)), (1, .int p0), (2, .int p1), (3, .int p2), (4, .int p3), (5, .int p4), (6, .int va)]) hx hb dX3_make_73 hl (by decide) rfl (fun ls hl => ?_)
          exact c75 0 _ _ _ hP hD hS (lv_sub hl [1, 2, 3, 4, 5, 6, 7, 0] rfl) 
        · refine lv_iload_n hx hb dX3_make_63 rfl (lv_at hl 2 rfl) ?_
          refine lv_iload_n hx hb dX3_make_64 rfl (lv_at hl 3 rfl) ?_
          refine lv_icmp_eq (tgt := 72) hx hb dX3_make_65 (by decide) (fun c_65 => ?_) (fun c_65 => ?_)
          · refine lv_iconst (v := 0) hx hb dX3_make_72 (by decide +kernel) ?_
            refine lv_istore (lv' := [(7, .int 0), (0, .ref (q 0)), (1, .int p0), (2, .int p1), (3, .int p2), (4, .int p3), (5, .int p4), (6, .int va)]) hx hb dX3_make_73 hl (by decide) rfl (fun ls hl => ?_)
            exact c75 0 _ _ _ hP hD hS (lv_sub hl [1, 2, 3, 4, 5, 6, 7, 0] rfl) 
          · refine lv_iconst (v := 1) hx hb dX3_make_68 (by decide +kernel) ?_
            refine lv_goto (tgt := 73) hx hb dX3_make_69 (by decide) ?_
            refine lv_istore (lv' := [(7, .int 1), (0, .ref (q 0)), (1, .int p0), (2, .int p1), (3, .int p2), (4, .int p3), (5, .int p4), (6, .int va)]) hx hb dX3_make_73 hl (by decide) rfl (fun ls hl => ?_)
            exact c75 1 _ _ _ hP hD hS (lv_sub hl [1, 2, 3, 4, 5, 6, 7, 0] rfl) 
  refine lv_iload_n hx hb dX3_make_0 rfl (lv_at hl 1 rfl) ?_
  refine g_callS0 (As := [.int p0]) (rest := []) hx hb hml hown hts (ctX3_isStore l D cI cZ q p0) gX3_make_X3_isStore rfl rfl rfl hdX3_isStore ⟨Nat.le_of_ble_eq_true rfl, Nat.le_of_ble_eq_true rfl⟩ gEM_true trivial hP hK hS hA rfl hl.1 rfl (Nat.le_of_ble_eq_true rfl) dX3_make_1 ⟨Nat.zero_le _, Nat.zero_le _⟩ (fun H locs hP hS => ?_)
  refine W.eq (g2 := F0 m 4 ls [.int (xRange p0 2)]) rfl ?_
  refine lv_if_eq (tgt := 39) hx hb dX3_make_4 (by decide) (fun c_4 => ?_) (fun c_4 => ?_)
  · refine lv_iconst (v := 0) hx hb dX3_make_39 (by decide +kernel) ?_
    refine lv_istore (lv' := [(6, .int 0), (0, .ref (q 0)), (1, .int p0), (2, .int p1), (3, .int p2), (4, .int p3), (5, .int p4)]) hx hb dX3_make_40 hl (by decide) rfl (fun ls hl => ?_)
    exact c42 0 _ _ _ hP hD hS (lv_sub hl [1, 2, 3, 4, 5, 6, 0] rfl) rfl
  · exact absurd h c_4
