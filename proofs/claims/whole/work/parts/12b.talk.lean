theorem lkX3_talk_101 : Cond.fieldLink RX3 101 "FetchHouseModel" "rounds" "I" ∈ wsX3_talk := List.mem_of_getElem? (i := 1) (by decide +kernel)
theorem lkX3_talk_44 : Cond.fieldLink RX3 44 "FetchHouseModel" "isCommon" "[Z" ∈ wsX3_talk := List.mem_of_getElem? (i := 2) (by decide +kernel)
theorem lkX3_talk_47 : Cond.fieldLink RX3 47 "FetchHouseModel" "wasTold" "[Z" ∈ wsX3_talk := List.mem_of_getElem? (i := 3) (by decide +kernel)
theorem inX3_talk_RX3 : ∀ w ∈ u_ws RX3 TX3 18, w ∈ wsX3_talk := fun w h => List.mem_cons_of_mem _ (List.mem_append_right _ h)
abbrev rmX3_talk : Room := { frames := 7, cells := 0, slots := 0, locals := 152 }
set_option maxHeartbeats 4000000 in
set_option maxRecDepth 100000 in
theorem ctX3_talk (l : Launch) (D : va_G) (cI cZ : ClassId) (q : Nat → Nat) (u : SM) (n : Nat) (hn : u 15 0 = nI n) (h60 : n ≤ 60) : gM l yX3_talk wsX3_talk rmX3_talk D [(cI, .int), (cZ, .boolean)] (MW cI cZ q) (fun _ => True) [.ref (q 0)] u none (mS (mS (mS (mS u 10 (mTalk n (u 3) (u 0) (u 1) (u 10) (u 11) (u 12)).2.1) 11 (mTalk n (u 3) (u 0) (u 1) (u 10) (u 11) (u 12)).2.2.1) 12 (mTalk n (u 3) (u 0) (u 1) (u 10) (u 11) (u 12)).2.2.2) 17 (fun _ => (nI (mTalk n (u 3) (u 0) (u 1) (u 10) (u 11) (u 12)).1))) := by
  refine g_start (cc := cX3_talk) (maxL := 2) (ret := none) (by decide) rfl (Nat.le_of_ble_eq_true rfl) ?_
  intro p e s m below meth c A ls Q hx hb hml hret hts hown hlk hE hP hK hD hA hl hQ hS
  have hown : s.vm.findClass RX3 = some m.cls := hown
  have hl : lv_has ls 2 [(0, .ref (q 0))] := hl
  refine lv_aload_n hx hb dX3_talk_0 rfl (lv_at hl 0 rfl) ?_
  refine lv_iconst (v := (nI 0)) hx hb dX3_talk_1 (by decide +kernel) ?_
  refine va_put (ci := 3) (v := .int (nI 0)) (ty := .int) (C := RX3) (T := TX3) (N := 18) hx hb hts inX3_talk_RX3 tyX3 tyX3_ok nmX3 hown hK hP hD hS 0 rfl rfl 13 (by decide) (hts _ lkX3_talk_101) (fun _ h9 => h9) rfl (by decide +kernel) rfl rfl (Nat.le_of_ble_eq_true rfl) dX3_talk_2 (fun H locs hP hD hS => ?_)
  obtain ⟨hP, hD⟩ := g_toPD hP hD (MW_put_17 (u := u) (nI 0))
  refine lv_iconst (v := (nI 0)) hx hb dX3_talk_5 (by decide +kernel) ?_
  refine lv_istore_n (lv' := [(1, .int (nI 0)), (0, .ref (q 0))]) hx hb dX3_talk_6 rfl hl (by decide) rfl (fun ls hl => ?_)
  have loop : ∀ (d k : Nat) (cm wt : Nat → Int32) (H : Heap) (locs : List Loc) (ls : Array Slot) (hP : va_P D vwCl (MW cI cZ q (mS (mS (mS u 11 cm) 12 wt) 17 (fun _ => (nI 0)))) H) (hD : va_D A (MW cI cZ q (mS (mS (mS u 11 cm) 12 wt) 17 (fun _ => (nI 0))))) (hS : va_S A s.heap H locs) (hl : lv_has ls 2 [(0, .ref (q 0)), (1, .int (nI k))]) (hk : k + d = 60) (hr : itU mClr2Step d k (cm, wt) = mClr2 (u 11) (u 12)), W p l e rmX3_talk s m ([.ref (q 0)] : List Value).toArray below meth c H locs 0 0 Q (F0 m 7 ls []) := by
    intro d
    induction d with
    | zero =>
      intro k cm wt H locs ls hP hD hS hl hk hr
      refine lv_iload_n hx hb dX3_talk_7 rfl (lv_at hl 1 rfl) ?_
      refine lv_bipush (v := 60) hx hb dX3_talk_8 (by decide +kernel) ?_
      refine lv_icmp_ge (tgt := 33) hx hb dX3_talk_10 (by decide) (fun c_10 => ?_) (fun c_10 => ?_)
      · have n_10 : 60 ≤ k := (g_leI (a := 60) (b := k) rfl rfl (by decide) (by omega)).mp c_10
        have wl : ∀ (d3 r : Nat) (mk cm3 wt3 : Nat → Int32) (H : Heap) (locs : List Loc) (ls : Array Slot) (hP : va_P D vwCl (MW cI cZ q (mS (mS (mS (mS u 10 mk) 11 cm3) 12 wt3) 17 (fun _ => (nI r)))) H) (hD : va_D A (MW cI cZ q (mS (mS (mS (mS u 10 mk) 11 cm3) 12 wt3) 17 (fun _ => (nI r))))) (hS : va_S A s.heap H locs) (hl : lv_has ls 2 [(0, .ref (q 0))]) (hu : mUnt wt3 ≤ d3) (hrb : r + d3 ≤ 60) (hr3 : mTalkL n (u 3) (u 0) (u 1) d3 r mk cm3 wt3 = (mTalk n (u 3) (u 0) (u 1) (u 10) (u 11) (u 12))), W p l e rmX3_talk s m ([.ref (q 0)] : List Value).toArray below meth c H locs 0 0 Q (F0 m 33 ls []) := by
          intro d3
          induction d3 with
          | zero =>
            intro r mk cm3 wt3 H locs ls hP hD hS hl hu hrb hr3
            refine lv_aload_n hx hb dX3_talk_33 rfl (lv_at hl 0 rfl) ?_
            refine g_callV (As := []) (rest := []) hx hb hml hown hts (ctX3_tell l D cI cZ q (mS (mS (mS (mS u 10 mk) 11 cm3) 12 wt3) 17 (fun _ => (nI r))) n hn h60) gX3_talk_X3_tell rfl rfl rfl hdX3_tell ⟨Nat.le_of_ble_eq_true rfl, Nat.le_of_ble_eq_true rfl⟩ gEM_true trivial hP hK hD hS hA 0 rfl rfl rfl hl.1 rfl (Nat.le_of_ble_eq_true rfl) dX3_talk_34 ⟨Nat.zero_le _, Nat.zero_le _⟩ (fun H locs hP hD hS => ?_)
            obtain ⟨hP, hD⟩ := g_toPD hP hD (MW_ext (Y := (mS (mS (mS (mS (mS (mS (mS u 10 mk) 11 cm3) 12 wt3) 17 (fun _ => (nI r))) 10 (mOn1 n (u 3) (u 0) (u 1) (mTellL n (u 3) cm3 n 0 (mClr mk) wt3).2.1)) 11 (mCm (mOn1 n (u 3) (u 0) (u 1) (mTellL n (u 3) cm3 n 0 (mClr mk) wt3).2.1) cm3)) 12 (mTellL n (u 3) cm3 n 0 (mClr mk) wt3).2.2)) (by refine ⟨?_, ?_, ?_, ?_, ?_, ?_, ?_, ?_, ?_, ?_, ?_, ?_, ?_, ?_, ?_, ?_, ?_, ?_⟩ <;> simp only [mS_at, ↓reduceIte, Nat.reduceEqDiff] <;> rfl))
            refine W.eq (g2 := F0 m 37 ls [.int (nI (mTellL n (u 3) cm3 n 0 (mClr mk) wt3).1)]) rfl ?_
            have hz1 := mTell_unt n (u 3) cm3 n 0 (mClr mk) wt3 h60
            have hzb := tk3 hz1 (mUnt_le wt3)
            refine lv_if_le (tgt := 53) hx hb dX3_talk_37 (by decide) (fun c_37 => ?_) (fun c_37 => ?_)
            · have n_37 : (mTellL n (u 3) cm3 n 0 (mClr mk) wt3).1 ≤ 0 := (g_leI (a := (mTellL n (u 3) cm3 n 0 (mClr mk) wt3).1) (b := 0) rfl rfl (by assumption) (by decide)).mp c_37
              refine g_vret (u1 := (mS (mS (mS (mS (mS (mS (mS u 10 mk) 11 cm3) 12 wt3) 17 (fun _ => (nI r))) 10 (mOn1 n (u 3) (u 0) (u 1) (mTellL n (u 3) cm3 n 0 (mClr mk) wt3).2.1)) 11 (mCm (mOn1 n (u 3) (u 0) (u 1) (mTellL n (u 3) cm3 n 0 (mClr mk) wt3).2.1) cm3)) 12 (mTellL n (u 3) cm3 n 0 (mClr mk) wt3).2.2)) hx hb hret hlk hQ hP hD hS dX3_talk_53 ?_ ?_
              · exact rfl
              · exact (by rw [← hr3] <;> exact (MW_ext (by refine ⟨?_, ?_, ?_, ?_, ?_, ?_, ?_, ?_, ?_, ?_, ?_, ?_, ?_, ?_, ?_, ?_, ?_, ?_⟩ <;> simp only [mS_at, ↓reduceIte, Nat.reduceEqDiff] <;> rfl)))
            · have n_37 : ¬ (mTellL n (u 3) cm3 n 0 (mClr mk) wt3).1 ≤ 0 := fun h => c_37 ((g_leI (a := (mTellL n (u 3) cm3 n 0 (mClr mk) wt3).1) (b := 0) rfl rfl (by assumption) (by decide)).mpr h)
              exact absurd (tk0 hz1 hu) n_37
          | succ d3 ih =>
            intro r mk cm3 wt3 H locs ls hP hD hS hl hu hrb hr3
            refine lv_aload_n hx hb dX3_talk_33 rfl (lv_at hl 0 rfl) ?_
            refine g_callV (As := []) (rest := []) hx hb hml hown hts (ctX3_tell l D cI cZ q (mS (mS (mS (mS u 10 mk) 11 cm3) 12 wt3) 17 (fun _ => (nI r))) n hn h60) gX3_talk_X3_tell rfl rfl rfl hdX3_tell ⟨Nat.le_of_ble_eq_true rfl, Nat.le_of_ble_eq_true rfl⟩ gEM_true trivial hP hK hD hS hA 0 rfl rfl rfl hl.1 rfl (Nat.le_of_ble_eq_true rfl) dX3_talk_34 ⟨Nat.zero_le _, Nat.zero_le _⟩ (fun H locs hP hD hS => ?_)
            obtain ⟨hP, hD⟩ := g_toPD hP hD (MW_ext (Y := (mS (mS (mS (mS (mS (mS (mS u 10 mk) 11 cm3) 12 wt3) 17 (fun _ => (nI r))) 10 (mOn1 n (u 3) (u 0) (u 1) (mTellL n (u 3) cm3 n 0 (mClr mk) wt3).2.1)) 11 (mCm (mOn1 n (u 3) (u 0) (u 1) (mTellL n (u 3) cm3 n 0 (mClr mk) wt3).2.1) cm3)) 12 (mTellL n (u 3) cm3 n 0 (mClr mk) wt3).2.2)) (by refine ⟨?_, ?_, ?_, ?_, ?_, ?_, ?_, ?_, ?_, ?_, ?_, ?_, ?_, ?_, ?_, ?_, ?_, ?_⟩ <;> simp only [mS_at, ↓reduceIte, Nat.reduceEqDiff] <;> rfl))
            refine W.eq (g2 := F0 m 37 ls [.int (nI (mTellL n (u 3) cm3 n 0 (mClr mk) wt3).1)]) rfl ?_
            have hz1 := mTell_unt n (u 3) cm3 n 0 (mClr mk) wt3 h60
            have hzb := tk3 hz1 (mUnt_le wt3)
            refine lv_if_le (tgt := 53) hx hb dX3_talk_37 (by decide) (fun c_37 => ?_) (fun c_37 => ?_)
            · have n_37 : (mTellL n (u 3) cm3 n 0 (mClr mk) wt3).1 ≤ 0 := (g_leI (a := (mTellL n (u 3) cm3 n 0 (mClr mk) wt3).1) (b := 0) rfl rfl (by assumption) (by decide)).mp c_37
              refine g_vret (u1 := (mS (mS (mS (mS (mS (mS (mS u 10 mk) 11 cm3) 12 wt3) 17 (fun _ => (nI r))) 10 (mOn1 n (u 3) (u 0) (u 1) (mTellL n (u 3) cm3 n 0 (mClr mk) wt3).2.1)) 11 (mCm (mOn1 n (u 3) (u 0) (u 1) (mTellL n (u 3) cm3 n 0 (mClr mk) wt3).2.1) cm3)) 12 (mTellL n (u 3) cm3 n 0 (mClr mk) wt3).2.2)) hx hb hret hlk hQ hP hD hS dX3_talk_53 ?_ ?_
              · exact rfl
              · exact (by rw [← hr3, mTalkL, if_pos (show (mTellL n (u 3) cm3 n 0 (mClr mk) wt3).1 = 0 from Nat.le_zero.mp n_37)] <;> exact (MW_ext (by refine ⟨?_, ?_, ?_, ?_, ?_, ?_, ?_, ?_, ?_, ?_, ?_, ?_, ?_, ?_, ?_, ?_, ?_, ?_⟩ <;> simp only [mS_at, ↓reduceIte, Nat.reduceEqDiff] <;> rfl)))
            · have n_37 : ¬ (mTellL n (u 3) cm3 n 0 (mClr mk) wt3).1 ≤ 0 := fun h => c_37 ((g_leI (a := (mTellL n (u 3) cm3 n 0 (mClr mk) wt3).1) (b := 0) rfl rfl (by assumption) (by decide)).mpr h)
              refine lv_aload_n hx hb dX3_talk_40 rfl (lv_at hl 0 rfl) ?_
              refine lv_dup hx hb dX3_talk_41 rfl ?_
              refine va_get (ci := 3) (v := .int (nI r)) (C := RX3) (T := TX3) (N := 18) hx hb hts inX3_talk_RX3 hown hK hP 0 rfl rfl 13 (by decide) (hts _ lkX3_talk_101) (fun _ h9 => h9) rfl dX3_talk_42 ?_
              refine lv_iconst (v := 1) hx hb dX3_talk_45 (by decide +kernel) ?_
              refine lv_iadd hx hb dX3_talk_46 ?_
              refine W.eq (g2 := F0 m 47 ls [.int (nI (r + 1)), .ref (q 0)]) (by rw [nI_1]) ?_
              refine va_put (ci := 3) (v := .int (nI (r + 1))) (ty := .int) (C := RX3) (T := TX3) (N := 18) hx hb hts inX3_talk_RX3 tyX3 tyX3_ok nmX3 hown hK hP hD hS 0 rfl rfl 13 (by decide) (hts _ lkX3_talk_101) (fun _ h9 => h9) rfl (by decide +kernel) rfl rfl (Nat.le_of_ble_eq_true rfl) dX3_talk_47 (fun H locs hP hD hS => ?_)
              obtain ⟨hP, hD⟩ := g_toPD hP hD (MW_put_17 (u := (mS (mS (mS (mS (mS (mS (mS u 10 mk) 11 cm3) 12 wt3) 17 (fun _ => (nI r))) 10 (mOn1 n (u 3) (u 0) (u 1) (mTellL n (u 3) cm3 n 0 (mClr mk) wt3).2.1)) 11 (mCm (mOn1 n (u 3) (u 0) (u 1) (mTellL n (u 3) cm3 n 0 (mClr mk) wt3).2.1) cm3)) 12 (mTellL n (u 3) cm3 n 0 (mClr mk) wt3).2.2)) (nI (r + 1)))
              refine lv_goto (tgt := 33) hx hb dX3_talk_50 (by decide) ?_
              rw [show MW cI cZ q (mS (mS (mS (mS (mS (mS (mS (mS u 10 mk) 11 cm3) 12 wt3) 17 (fun _ => (nI r))) 10 (mOn1 n (u 3) (u 0) (u 1) (mTellL n (u 3) cm3 n 0 (mClr mk) wt3).2.1)) 11 (mCm (mOn1 n (u 3) (u 0) (u 1) (mTellL n (u 3) cm3 n 0 (mClr mk) wt3).2.1) cm3)) 12 (mTellL n (u 3) cm3 n 0 (mClr mk) wt3).2.2) 17 (fun _ => (nI (r + 1)))) = MW cI cZ q (mS (mS (mS (mS u 10 (mOn1 n (u 3) (u 0) (u 1) (mTellL n (u 3) cm3 n 0 (mClr mk) wt3).2.1)) 11 (mCm (mOn1 n (u 3) (u 0) (u 1) (mTellL n (u 3) cm3 n 0 (mClr mk) wt3).2.1) cm3)) 12 (mTellL n (u 3) cm3 n 0 (mClr mk) wt3).2.2) 17 (fun _ => (nI (r + 1)))) from (MW_ext (by refine ⟨?_, ?_, ?_, ?_, ?_, ?_, ?_, ?_, ?_, ?_, ?_, ?_, ?_, ?_, ?_, ?_, ?_, ?_⟩ <;> simp only [mS_at, ↓reduceIte, Nat.reduceEqDiff] <;> rfl))] at hP hD
              exact ih (r + 1) (mOn1 n (u 3) (u 0) (u 1) (mTellL n (u 3) cm3 n 0 (mClr mk) wt3).2.1) (mCm (mOn1 n (u 3) (u 0) (u 1) (mTellL n (u 3) cm3 n 0 (mClr mk) wt3).2.1) cm3) (mTellL n (u 3) cm3 n 0 (mClr mk) wt3).2.2 _ _ _ hP hD hS (lv_sub hl [0] rfl) (tk1 hz1 hu n_37) (tk2 hrb) (by rw [← hr3]; exact (if_neg (show ¬ (mTellL n (u 3) cm3 n 0 (mClr mk) wt3).1 = 0 from fun h => n_37 (Nat.le_of_eq h))).symm)
        rw [show MW cI cZ q (mS (mS (mS u 11 cm) 12 wt) 17 (fun _ => (nI 0))) = MW cI cZ q (mS (mS (mS (mS u 10 (u 10)) 11 cm) 12 wt) 17 (fun _ => (nI 0))) from (MW_ext (by refine ⟨?_, ?_, ?_, ?_, ?_, ?_, ?_, ?_, ?_, ?_, ?_, ?_, ?_, ?_, ?_, ?_, ?_, ?_⟩ <;> simp only [mS_at, ↓reduceIte, Nat.reduceEqDiff] <;> rfl))] at hP hD
        exact wl 60 0 (u 10) cm wt _ _ _ hP hD hS (lv_sub hl [0] rfl) (mUnt_le _) (Nat.le_refl _) (by rw [mTalk_eq, ← hr] <;> rfl)
      · have n_10 : ¬ 60 ≤ k := fun h => c_10 ((g_leI (a := 60) (b := k) rfl rfl (by decide) (by omega)).mpr h)
        exfalso; omega
    | succ d ih =>
      intro k cm wt H locs ls hP hD hS hl hk hr
      refine lv_iload_n hx hb dX3_talk_7 rfl (lv_at hl 1 rfl) ?_
      refine lv_bipush (v := 60) hx hb dX3_talk_8 (by decide +kernel) ?_
      refine lv_icmp_ge (tgt := 33) hx hb dX3_talk_10 (by decide) (fun c_10 => ?_) (fun c_10 => ?_)
      · have n_10 : 60 ≤ k := (g_leI (a := 60) (b := k) rfl rfl (by decide) (by omega)).mp c_10
        exfalso; omega
      · have n_10 : ¬ 60 ≤ k := fun h => c_10 ((g_leI (a := 60) (b := k) rfl rfl (by decide) (by omega)).mpr h)
        refine lv_aload_n hx hb dX3_talk_13 rfl (lv_at hl 0 rfl) ?_
        refine va_get (ci := 3) (v := .ref (q 12)) (C := RX3) (T := TX3) (N := 18) hx hb hts inX3_talk_RX3 hown hK hP 0 rfl rfl 15 (by decide) (hts _ lkX3_talk_44) (fun _ h9 => h9) rfl dX3_talk_14 ?_
        refine lv_iload_n hx hb dX3_talk_17 rfl (lv_at hl 1 rfl) ?_
        refine lv_iconst (v := 0) hx hb dX3_talk_18 (by decide +kernel) ?_
        refine g_zast (n := 60) (f := cm) (u' := (mS (mS (mS (mS u 11 cm) 12 wt) 17 (fun _ => (nI 0))) 11 (upd cm k 0))) hx hb hK hP hD hS 12 1 (by rw [MW_get_11, show (mS (mS (mS u 11 cm) 12 wt) 17 (fun _ => (nI 0))) 11 = cm from by simp only [mS_at, ↓reduceIte, Nat.reduceEqDiff]]) rfl k (by omega) (by omega) rfl rfl (MW_set_11 _ _) dX3_talk_19 (fun H locs hP hD hS => ?_)
        refine lv_aload_n hx hb dX3_talk_20 rfl (lv_at hl 0 rfl) ?_
        refine va_get (ci := 3) (v := .ref (q 13)) (C := RX3) (T := TX3) (N := 18) hx hb hts inX3_talk_RX3 hown hK hP 0 rfl rfl 16 (by decide) (hts _ lkX3_talk_47) (fun _ h9 => h9) rfl dX3_talk_21 ?_
        refine lv_iload_n hx hb dX3_talk_24 rfl (lv_at hl 1 rfl) ?_
        refine lv_iconst (v := 0) hx hb dX3_talk_25 (by decide +kernel) ?_
        refine g_zast (n := 60) (f := wt) (u' := (mS (mS (mS (mS (mS u 11 cm) 12 wt) 17 (fun _ => (nI 0))) 11 (upd cm k 0)) 12 (upd wt k 0))) hx hb hK hP hD hS 13 1 (by rw [MW_get_12, show (mS (mS (mS (mS u 11 cm) 12 wt) 17 (fun _ => (nI 0))) 11 (upd cm k 0)) 12 = wt from by simp only [mS_at, ↓reduceIte, Nat.reduceEqDiff]]) rfl k (by omega) (by omega) rfl rfl (MW_set_12 _ _) dX3_talk_26 (fun H locs hP hD hS => ?_)
        refine lv_iinc (v := (nI (k + 1))) (lv' := [(1, .int (nI (k + 1))), (0, .ref (q 0))]) hx hb dX3_talk_27 hl (k := 1) rfl (nI_1 _) (by decide) rfl (fun ls hl => ?_)
        refine lv_goto (tgt := 7) hx hb dX3_talk_30 (by decide) ?_
        rw [show MW cI cZ q (mS (mS (mS (mS (mS u 11 cm) 12 wt) 17 (fun _ => (nI 0))) 11 (upd cm k 0)) 12 (upd wt k 0)) = MW cI cZ q (mS (mS (mS u 11 (upd cm k 0)) 12 (upd wt k 0)) 17 (fun _ => (nI 0))) from (MW_ext (by refine ⟨?_, ?_, ?_, ?_, ?_, ?_, ?_, ?_, ?_, ?_, ?_, ?_, ?_, ?_, ?_, ?_, ?_, ?_⟩ <;> simp only [mS_at, ↓reduceIte, Nat.reduceEqDiff] <;> rfl))] at hP hD
        exact ih (k + 1) (upd cm k 0) (upd wt k 0) _ _ _ hP hD hS (lv_sub hl [1, 0] rfl) (by omega) (by rw [← hr]; rfl)
  rw [show MW cI cZ q (mS u 17 (fun _ => (nI 0))) = MW cI cZ q (mS (mS (mS u 11 (u 11)) 12 (u 12)) 17 (fun _ => (nI 0))) from (MW_ext (by refine ⟨?_, ?_, ?_, ?_, ?_, ?_, ?_, ?_, ?_, ?_, ?_, ?_, ?_, ?_, ?_, ?_, ?_, ?_⟩ <;> simp only [mS_at, ↓reduceIte, Nat.reduceEqDiff] <;> rfl))] at hP hD
  exact loop 60 0 (u 11) (u 12) _ _ _ hP hD hS (lv_sub hl [1, 0] rfl) (by omega) (opq_eq _).symm
