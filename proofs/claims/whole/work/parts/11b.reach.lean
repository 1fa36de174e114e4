theorem lkX3_reach_13 : Cond.fieldLink RX3 13 "FetchHouseModel" "seconds" "[I" ∈ wsX3_reach := List.mem_of_getElem? (i := 3) (by decide +kernel)
theorem lkX3_reach_41 : Cond.fieldLink RX3 41 "FetchHouseModel" "marks" "[Z" ∈ wsX3_reach := List.mem_of_getElem? (i := 4) (by decide +kernel)
theorem lkX3_reach_50 : Cond.fieldLink RX3 50 "FetchHouseModel" "steps" "[I" ∈ wsX3_reach := List.mem_of_getElem? (i := 1) (by decide +kernel)
theorem lkX3_reach_7 : Cond.fieldLink RX3 7 "FetchHouseModel" "firsts" "[I" ∈ wsX3_reach := List.mem_of_getElem? (i := 2) (by decide +kernel)
theorem inX3_reach_RX3 : ∀ w ∈ u_ws RX3 TX3 18, w ∈ wsX3_reach := fun w h => List.mem_cons_of_mem _ (List.mem_append_right _ h)
abbrev rmX3_reach : Room := { frames := 7, cells := 0, slots := 0, locals := 152 }
set_option maxHeartbeats 4000000 in
set_option maxRecDepth 100000 in
theorem ctX3_reach (l : Launch) (D : va_G) (cI cZ : ClassId) (q : Nat → Nat) (u : SM) (n : Nat) (hn : u 15 0 = nI n) (h60 : n ≤ 60) (hfi : ∀ k, k < n → (u 0 k = -1 ∨ ∃ j, j < 60 ∧ u 0 k = nI j)) (hse : ∀ k, k < n → (u 1 k = -1 ∨ ∃ j, j < 60 ∧ u 1 k = nI j)) (j0 : Nat) (hj0 : j0 < n) (p1 : Int32) : gM l yX3_reach wsX3_reach rmX3_reach D [(cI, .int), (cZ, .boolean)] (MW cI cZ q) (fun _ => True) [.ref (q 0), .int (nI j0), .int p1] u none (mS (mS u 10 (mReach n (u 3) (u 0) (u 1) (u 10) (u 13) j0 p1).1) 13 (mReach n (u 3) (u 0) (u 1) (u 10) (u 13) j0 p1).2) := by
  refine g_start (cc := cX3_reach) (maxL := 4) (ret := none) (by decide) rfl (Nat.le_of_ble_eq_true rfl) ?_
  intro p e s m below meth c A ls Q hx hb hml hret hts hown hlk hE hP hK hD hA hl hQ hS
  have hown : s.vm.findClass RX3 = some m.cls := hown
  have hl : lv_has ls 4 [(0, .ref (q 0)), (1, .int (nI j0)), (2, .int p1)] := hl
  refine lv_aload_n hx hb dX3_reach_0 rfl (lv_at hl 0 rfl) ?_
  refine lv_iconst (v := 0) hx hb dX3_reach_1 (by decide +kernel) ?_
  refine lv_iload_n hx hb dX3_reach_2 rfl (lv_at hl 1 rfl) ?_
  refine g_callV (As := [.int 0, .int (nI j0)]) (rest := []) hx hb hml hown hts (ctX3_markFrom_0 l D cI cZ q u n hn h60 (nI j0)) gX3_reach_X3_markFrom rfl rfl rfl hdX3_markFrom ⟨Nat.le_of_ble_eq_true rfl, Nat.le_of_ble_eq_true rfl⟩ gEM_true trivial hP hK hD hS hA 0 rfl rfl rfl hl.1 rfl (Nat.le_of_ble_eq_true rfl) dX3_reach_3 ⟨Nat.zero_le _, Nat.zero_le _⟩ (fun H locs hP hD hS => ?_)
  obtain ⟨hP, hD⟩ := g_toPD hP hD (MW_ext (Y := (mS u 10 (mFrom0 n (u 3) (u 0) (u 1) (u 10) (nI j0)))) (by refine ⟨?_, ?_, ?_, ?_, ?_, ?_, ?_, ?_, ?_, ?_, ?_, ?_, ?_, ?_, ?_, ?_, ?_, ?_⟩ <;> simp only [mS_at, ↓reduceIte, Nat.reduceEqDiff] <;> rfl))
  refine W.eq (g2 := F0 m 6 ls []) rfl ?_
  refine lv_iconst (v := (nI 0)) hx hb dX3_reach_6 (by decide +kernel) ?_
  refine lv_istore_n (lv' := [(3, .int (nI 0)), (0, .ref (q 0)), (1, .int (nI j0)), (2, .int p1)]) hx hb dX3_reach_7 rfl hl (by decide) rfl (fun ls hl => ?_)
  have loop : ∀ (d k : Nat) (ss : Nat → Int32) (H : Heap) (locs : List Loc) (ls : Array Slot) (hP : va_P D vwCl (MW cI cZ q (mS (mS u 10 (mFrom0 n (u 3) (u 0) (u 1) (u 10) (nI j0))) 13 ss)) H) (hD : va_D A (MW cI cZ q (mS (mS u 10 (mFrom0 n (u 3) (u 0) (u 1) (u 10) (nI j0))) 13 ss))) (hS : va_S A s.heap H locs) (hl : lv_has ls 4 [(0, .ref (q 0)), (1, .int (nI j0)), (2, .int p1), (3, .int (nI k))]) (hk : k + d = 60) (hr : itU mS60Step d k ss = mS60 (u 13)), W p l e rmX3_reach s m ([.ref (q 0), .int (nI j0), .int p1] : List Value).toArray below meth c H locs 0 0 Q (F0 m 8 ls []) := by
    intro d
    induction d with
    | zero =>
      intro k ss H locs ls hP hD hS hl hk hr
      refine lv_iload_n hx hb dX3_reach_8 rfl (lv_at hl 3 rfl) ?_
      refine lv_bipush (v := 60) hx hb dX3_reach_9 (by decide +kernel) ?_
      refine lv_icmp_ge (tgt := 28) hx hb dX3_reach_11 (by decide) (fun c_11 => ?_) (fun c_11 => ?_)
      · have n_11 : 60 ≤ k := (g_leI (a := 60) (b := k) rfl rfl (by decide) (by omega)).mp c_11
        refine lv_aload_n hx hb dX3_reach_28 rfl (lv_at hl 0 rfl) ?_
        refine va_get (ci := 3) (v := .ref (q 14)) (C := RX3) (T := TX3) (N := 18) hx hb hts inX3_reach_RX3 hown hK hP 0 rfl rfl 17 (by decide) (hts _ lkX3_reach_50) (fun _ h9 => h9) rfl dX3_reach_29 ?_
        refine lv_iload_n hx hb dX3_reach_32 rfl (lv_at hl 1 rfl) ?_
        refine lv_iconst (v := 0) hx hb dX3_reach_33 (by decide +kernel) ?_
        refine g_iast (n := 60) (f := ss) (u' := (mS (mS (mS u 10 (mFrom0 n (u 3) (u 0) (u 1) (u 10) (nI j0))) 13 ss) 13 (upd ss j0 0))) hx hb hK hP hD hS 14 0 (by rw [MW_get_13, show (mS (mS u 10 (mFrom0 n (u 3) (u 0) (u 1) (u 10) (nI j0))) 13 ss) 13 = ss from by simp only [mS_at, ↓reduceIte, Nat.reduceEqDiff]]) rfl j0 (by omega) (by omega) rfl (MW_set_13 _ _) dX3_reach_34 (fun H locs hP hD hS => ?_)
        refine lv_iload_n hx hb dX3_reach_35 rfl (lv_at hl 1 rfl) ?_
        refine lv_istore_n (lv' := [(3, .int (nI j0)), (0, .ref (q 0)), (1, .int (nI j0)), (2, .int p1)]) hx hb dX3_reach_36 rfl hl (by decide) rfl (fun ls hl => ?_)
        have loop2 : ∀ (d2 : Nat) (mk ss2 : Nat → Int32) (H : Heap) (locs : List Loc) (ls : Array Slot) (hP : va_P D vwCl (MW cI cZ q (mS (mS u 10 mk) 13 ss2)) H) (hD : va_D A (MW cI cZ q (mS (mS u 10 mk) 13 ss2))) (hS : va_S A s.heap H locs) (hl : lv_has ls 4 [(0, .ref (q 0)), (2, .int p1), (3, .int (nI d2 - 1))]) (hd2 : d2 ≤ n) (hr2 : itD (mReachStep (u 0) (u 1) p1) d2 (mk, ss2) = (mReach n (u 3) (u 0) (u 1) (u 10) (u 13) j0 p1)), W p l e rmX3_reach s m ([.ref (q 0), .int (nI j0), .int p1] : List Value).toArray below meth c H locs 0 0 Q (F0 m 37 ls []) := by
          intro d2
          induction d2 with
          | zero =>
            intro mk ss2 H locs ls hP hD hS hl hd2 hr2
            refine lv_iload_n hx hb dX3_reach_37 rfl (lv_at hl 2 rfl) ?_
            refine lv_if_lt (tgt := 117) hx hb dX3_reach_38 (by decide) (fun c_38 => ?_) (fun c_38 => ?_)
            · refine g_vret (u1 := (mS (mS u 10 mk) 13 ss2)) hx hb hret hlk hQ hP hD hS dX3_reach_117 ?_ ?_
              · exact rfl
              · exact (by rw [← hr2] <;> exact (MW_ext (by refine ⟨?_, ?_, ?_, ?_, ?_, ?_, ?_, ?_, ?_, ?_, ?_, ?_, ?_, ?_, ?_, ?_, ?_, ?_⟩ <;> simp only [mS_at, ↓reduceIte, Nat.reduceEqDiff] <;> rfl)))
            · exact absurd (by decide +kernel) c_38
          | succ d2 ih =>
            intro mk ss2 H locs ls hP hD hS hl hd2 hr2
            rw [nI_pred] at hl
            refine lv_iload_n hx hb dX3_reach_37 rfl (lv_at hl 2 rfl) ?_
            refine lv_if_lt (tgt := 117) hx hb dX3_reach_38 (by decide) (fun c_38 => ?_) (fun c_38 => ?_)
            · exact absurd c_38 (nI_pos (by omega))
            · refine lv_aload_n hx hb dX3_reach_41 rfl (lv_at hl 0 rfl) ?_
              refine lv_aload_n hx hb dX3_reach_42 rfl (lv_at hl 0 rfl) ?_
              refine va_get (ci := 3) (v := .ref (q 1)) (C := RX3) (T := TX3) (N := 18) hx hb hts inX3_reach_RX3 hown hK hP 0 rfl rfl 2 (by decide) (hts _ lkX3_reach_7) (fun _ h9 => h9) rfl dX3_reach_43 ?_
              refine lv_iload_n hx hb dX3_reach_46 rfl (lv_at hl 2 rfl) ?_
              refine g_iald (n := 60) (f := (u 0)) hx hb hK hP 1 0 (by rw [MW_get_0, show (mS (mS u 10 mk) 13 ss2) 0 = (u 0) from by simp only [mS_at, ↓reduceIte, Nat.reduceEqDiff]]) rfl d2 (by omega) (by omega) rfl dX3_reach_47 ?_
              refine lv_aload_n hx hb dX3_reach_48 rfl (lv_at hl 0 rfl) ?_
              refine va_get (ci := 3) (v := .ref (q 14)) (C := RX3) (T := TX3) (N := 18) hx hb hts inX3_reach_RX3 hown hK hP 0 rfl rfl 17 (by decide) (hts _ lkX3_reach_50) (fun _ h9 => h9) rfl dX3_reach_49 ?_
              refine lv_iload_n hx hb dX3_reach_52 rfl (lv_at hl 2 rfl) ?_
              refine g_iald (n := 60) (f := ss2) hx hb hK hP 14 0 (by rw [MW_get_13, show (mS (mS u 10 mk) 13 ss2) 13 = ss2 from by simp only [mS_at, ↓reduceIte, Nat.reduceEqDiff]]) rfl d2 (by omega) (by omega) rfl dX3_reach_53 ?_
              refine lv_iconst (v := 1) hx hb dX3_reach_54 (by decide +kernel) ?_
              refine lv_iadd hx hb dX3_reach_55 ?_
              refine g_callV (As := [.int ((u 0) d2), .int ((ss2 d2) + 1)]) (rest := []) hx hb hml hown hts (ctX3_near l D cI cZ q (mS (mS u 10 mk) 13 ss2) ((u 0) d2) ((ss2 d2) + 1) (hfi d2 (by omega))) gX3_reach_X3_near rfl rfl rfl hdX3_near ⟨Nat.le_of_ble_eq_true rfl, Nat.le_of_ble_eq_true rfl⟩ gEM_true trivial hP hK hD hS hA 0 rfl rfl rfl hl.1 rfl (Nat.le_of_ble_eq_true rfl) dX3_reach_56 ⟨Nat.zero_le _, Nat.zero_le _⟩ (fun H locs hP hD hS => ?_)
              obtain ⟨hP, hD⟩ := g_toPD hP hD (MW_ext (Y := (mS (mS (mS u 10 mk) 13 ss2) 13 (mNear ss2 ((u 0) d2) ((ss2 d2) + 1)))) (by refine ⟨?_, ?_, ?_, ?_, ?_, ?_, ?_, ?_, ?_, ?_, ?_, ?_, ?_, ?_, ?_, ?_, ?_, ?_⟩ <;> simp only [mS_at, ↓reduceIte, Nat.reduceEqDiff] <;> rfl))
              refine W.eq (g2 := F0 m 59 ls []) rfl ?_
              refine lv_aload_n hx hb dX3_reach_59 rfl (lv_at hl 0 rfl) ?_
              refine lv_aload_n hx hb dX3_reach_60 rfl (lv_at hl 0 rfl) ?_
              refine va_get (ci := 3) (v := .ref (q 2)) (C := RX3) (T := TX3) (N := 18) hx hb hts inX3_reach_RX3 hown hK hP 0 rfl rfl 3 (by decide) (hts _ lkX3_reach_13) (fun _ h9 => h9) rfl dX3_reach_61 ?_
              refine lv_iload_n hx hb dX3_reach_64 rfl (lv_at hl 2 rfl) ?_
              refine g_iald (n := 60) (f := (u 1)) hx hb hK hP 2 0 (by rw [MW_get_1, show (mS (mS (mS u 10 mk) 13 ss2) 13 (mNear ss2 ((u 0) d2) ((ss2 d2) + 1))) 1 = (u 1) from by simp only [mS_at, ↓reduceIte, Nat.reduceEqDiff]]) rfl d2 (by omega) (by omega) rfl dX3_reach_65 ?_
              refine lv_aload_n hx hb dX3_reach_66 rfl (lv_at hl 0 rfl) ?_
              refine va_get (ci := 3) (v := .ref (q 14)) (C := RX3) (T := TX3) (N := 18) hx hb hts inX3_reach_RX3 hown hK hP 0 rfl rfl 17 (by decide) (hts _ lkX3_reach_50) (fun _ h9 => h9) rfl dX3_reach_67 ?_
              refine lv_iload_n hx hb dX3_reach_70 rfl (lv_at hl 2 rfl) ?_
              refine g_iald (n := 60) (f := (mNear ss2 ((u 0) d2) ((ss2 d2) + 1))) hx hb hK hP 14 0 (by rw [MW_get_13, show (mS (mS (mS u 10 mk) 13 ss2) 13 (mNear ss2 ((u 0) d2) ((ss2 d2) + 1))) 13 = (mNear ss2 ((u 0) d2) ((ss2 d2) + 1)) from by simp only [mS_at, ↓reduceIte, Nat.reduceEqDiff]]) rfl d2 (by omega) (by omega) rfl dX3_reach_71 ?_
              refine lv_iconst (v := 1) hx hb dX3_reach_72 (by decide +kernel) ?_
              refine lv_iadd hx hb dX3_reach_73 ?_
              refine g_callV (As := [.int ((u 1) d2), .int (((mNear ss2 ((u 0) d2) ((ss2 d2) + 1)) d2) + 1)]) (rest := []) hx hb hml hown hts (ctX3_near l D cI cZ q (mS (mS (mS u 10 mk) 13 ss2) 13 (mNear ss2 ((u 0) d2) ((ss2 d2) + 1))) ((u 1) d2) (((mNear ss2 ((u 0) d2) ((ss2 d2) + 1)) d2) + 1) (hse d2 (by omega))) gX3_reach_X3_near rfl rfl rfl hdX3_near ⟨Nat.le_of_ble_eq_true rfl, Nat.le_of_ble_eq_true rfl⟩ gEM_true trivial hP hK hD hS hA 0 rfl rfl rfl hl.1 rfl (Nat.le_of_ble_eq_true rfl) dX3_reach_74 ⟨Nat.zero_le _, Nat.zero_le _⟩ (fun H locs hP hD hS => ?_)
              obtain ⟨hP, hD⟩ := g_toPD hP hD (MW_ext (Y := (mS (mS (mS (mS u 10 mk) 13 ss2) 13 (mNear ss2 ((u 0) d2) ((ss2 d2) + 1))) 13 (mNear (mNear ss2 ((u 0) d2) ((ss2 d2) + 1)) ((u 1) d2) (((mNear ss2 ((u 0) d2) ((ss2 d2) + 1)) d2) + 1)))) (by refine ⟨?_, ?_, ?_, ?_, ?_, ?_, ?_, ?_, ?_, ?_, ?_, ?_, ?_, ?_, ?_, ?_, ?_, ?_⟩ <;> simp only [mS_at, ↓reduceIte, Nat.reduceEqDiff] <;> rfl))
              refine W.eq (g2 := F0 m 77 ls []) rfl ?_
              refine lv_aload_n hx hb dX3_reach_77 rfl (lv_at hl 0 rfl) ?_
              refine va_get (ci := 3) (v := .ref (q 11)) (C := RX3) (T := TX3) (N := 18) hx hb hts inX3_reach_RX3 hown hK hP 0 rfl rfl 14 (by decide) (hts _ lkX3_reach_41) (fun _ h9 => h9) rfl dX3_reach_78 ?_
              refine lv_iload_n hx hb dX3_reach_81 rfl (lv_at hl 2 rfl) ?_
              refine lv_aload_n hx hb dX3_reach_82 rfl (lv_at hl 0 rfl) ?_
              refine va_get (ci := 3) (v := .ref (q 11)) (C := RX3) (T := TX3) (N := 18) hx hb hts inX3_reach_RX3 hown hK hP 0 rfl rfl 14 (by decide) (hts _ lkX3_reach_41) (fun _ h9 => h9) rfl dX3_reach_83 ?_
              refine lv_iload_n hx hb dX3_reach_86 rfl (lv_at hl 2 rfl) ?_
              refine g_zald (n := 60) (f := mk) hx hb hK hP 11 1 (by rw [MW_get_10, show (mS (mS (mS (mS u 10 mk) 13 ss2) 13 (mNear ss2 ((u 0) d2) ((ss2 d2) + 1))) 13 (mNear (mNear ss2 ((u 0) d2) ((ss2 d2) + 1)) ((u 1) d2) (((mNear ss2 ((u 0) d2) ((ss2 d2) + 1)) d2) + 1))) 10 = mk from by simp only [mS_at, ↓reduceIte, Nat.reduceEqDiff]]) rfl d2 (by omega) (by omega) rfl dX3_reach_87 ?_
              refine lv_if_eq (tgt := 109) hx hb dX3_reach_88 (by decide) (fun c_88 => ?_) (fun c_88 => ?_)
              · refine lv_iconst (v := 0) hx hb dX3_reach_109 (by decide +kernel) ?_
                refine g_zast (n := 60) (f := mk) (u' := (mS (mS (mS (mS (mS u 10 mk) 13 ss2) 13 (mNear ss2 ((u 0) d2) ((ss2 d2) + 1))) 13 (mNear (mNear ss2 ((u 0) d2) ((ss2 d2) + 1)) ((u 1) d2) (((mNear ss2 ((u 0) d2) ((ss2 d2) + 1)) d2) + 1))) 10 (upd mk d2 0))) hx hb hK hP hD hS 11 1 (by rw [MW_get_10, show (mS (mS (mS (mS u 10 mk) 13 ss2) 13 (mNear ss2 ((u 0) d2) ((ss2 d2) + 1))) 13 (mNear (mNear ss2 ((u 0) d2) ((ss2 d2) + 1)) ((u 1) d2) (((mNear ss2 ((u 0) d2) ((ss2 d2) + 1)) d2) + 1))) 10 = mk from by simp only [mS_at, ↓reduceIte, Nat.reduceEqDiff]]) rfl d2 (by omega) (by omega) rfl rfl (MW_set_10 _ _) dX3_reach_110 (fun H locs hP hD hS => ?_)
                refine lv_iinc (v := ((nI d2) - 1)) (lv' := [(3, .int ((nI d2) - 1)), (0, .ref (q 0)), (2, .int p1)]) hx hb dX3_reach_111 hl (k := 2) rfl (g_dec1 _) (by decide) rfl (fun ls hl => ?_)
                refine lv_goto (tgt := 37) hx hb dX3_reach_114 (by decide) ?_
                rw [show MW cI cZ q (mS (mS (mS (mS (mS u 10 mk) 13 ss2) 13 (mNear ss2 ((u 0) d2) ((ss2 d2) + 1))) 13 (mNear (mNear ss2 ((u 0) d2) ((ss2 d2) + 1)) ((u 1) d2) (((mNear ss2 ((u 0) d2) ((ss2 d2) + 1)) d2) + 1))) 10 (upd mk d2 0)) = MW cI cZ q (mS (mS u 10 (upd mk d2 0)) 13 (mNear (mNear ss2 ((u 0) d2) ((ss2 d2) + 1)) ((u 1) d2) (((mNear ss2 ((u 0) d2) ((ss2 d2) + 1)) d2) + 1))) from (MW_ext (by refine ⟨?_, ?_, ?_, ?_, ?_, ?_, ?_, ?_, ?_, ?_, ?_, ?_, ?_, ?_, ?_, ?_, ?_, ?_⟩ <;> simp only [mS_at, ↓reduceIte, Nat.reduceEqDiff] <;> rfl))] at hP hD
                exact ih (upd mk d2 0) (mNear (mNear ss2 ((u 0) d2) ((ss2 d2) + 1)) ((u 1) d2) (((mNear ss2 ((u 0) d2) ((ss2 d2) + 1)) d2) + 1)) _ _ _ hP hD hS (lv_sub hl [1, 2, 0] rfl) (by omega) (by rw [← hr2]; show _ = itD _ d2 (mReachStep _ _ _ d2 (mk, ss2)); rw [show mReachStep (u 0) (u 1) p1 d2 (mk, ss2) = ((upd mk d2 0), (mNear (mNear ss2 ((u 0) d2) ((ss2 d2) + 1)) ((u 1) d2) (((mNear ss2 ((u 0) d2) ((ss2 d2) + 1)) d2) + 1))) from by simp only [mReachStep, c_11, c_38, c_88, ↓reduceIte, not_true_eq_false, not_false_eq_true]])
              · refine lv_iload_n hx hb dX3_reach_91 rfl (lv_at hl 1 rfl) ?_
                refine lv_if_eq (tgt := 105) hx hb dX3_reach_92 (by decide) (fun c_92 => ?_) (fun c_92 => ?_)
                · refine lv_iconst (v := 1) hx hb dX3_reach_105 (by decide +kernel) ?_
                  refine lv_goto (tgt := 110) hx hb dX3_reach_106 (by decide) ?_
                  refine g_zast (n := 60) (f := mk) (u' := (mS (mS (mS (mS (mS u 10 mk) 13 ss2) 13 (mNear ss2 ((u 0) d2) ((ss2 d2) + 1))) 13 (mNear (mNear ss2 ((u 0) d2) ((ss2 d2) + 1)) ((u 1) d2) (((mNear ss2 ((u 0) d2) ((ss2 d2) + 1)) d2) + 1))) 10 (upd mk d2 1))) hx hb hK hP hD hS 11 1 (by rw [MW_get_10, show (mS (mS (mS (mS u 10 mk) 13 ss2) 13 (mNear ss2 ((u 0) d2) ((ss2 d2) + 1))) 13 (mNear (mNear ss2 ((u 0) d2) ((ss2 d2) + 1)) ((u 1) d2) (((mNear ss2 ((u 0) d2) ((ss2 d2) + 1)) d2) + 1))) 10 = mk from by simp only [mS_at, ↓reduceIte, Nat.reduceEqDiff]]) rfl d2 (by omega) (by omega) rfl rfl (MW_set_10 _ _) dX3_reach_110 (fun H locs hP hD hS => ?_)
                  refine lv_iinc (v := ((nI d2) - 1)) (lv' := [(3, .int ((nI d2) - 1)), (0, .ref (q 0)), (2, .int p1)]) hx hb dX3_reach_111 hl (k := 2) rfl (g_dec1 _) (by decide) rfl (fun ls hl => ?_)
                  refine lv_goto (tgt := 37) hx hb dX3_reach_114 (by decide) ?_
                  rw [show MW cI cZ q (mS (mS (mS (mS (mS u 10 mk) 13 ss2) 13 (mNear ss2 ((u 0) d2) ((ss2 d2) + 1))) 13 (mNear (mNear ss2 ((u 0) d2) ((ss2 d2) + 1)) ((u 1) d2) (((mNear ss2 ((u 0) d2) ((ss2 d2) + 1)) d2) + 1))) 10 (upd mk d2 1)) = MW cI cZ q (mS (mS u 10 (upd mk d2 1)) 13 (mNear (mNear ss2 ((u 0) d2) ((ss2 d2) + 1)) ((u 1) d2) (((mNear ss2 ((u 0) d2) ((ss2 d2) + 1)) d2) + 1))) from (MW_ext (by refine ⟨?_, ?_, ?_, ?_, ?_, ?_, ?_, ?_, ?_, ?_, ?_, ?_, ?_, ?_, ?_, ?_, ?_, ?_⟩ <;> simp only [mS_at, ↓reduceIte, Nat.reduceEqDiff] <;> rfl))] at hP hD
                  exact ih (upd mk d2 1) (mNear (mNear ss2 ((u 0) d2) ((ss2 d2) + 1)) ((u 1) d2) (((mNear ss2 ((u 0) d2) ((ss2 d2) + 1)) d2) + 1)) _ _ _ hP hD hS (lv_sub hl [1, 2, 0] rfl) (by omega) (by rw [← hr2]; show _ = itD _ d2 (mReachStep _ _ _ d2 (mk, ss2)); rw [show mReachStep (u 0) (u 1) p1 d2 (mk, ss2) = ((upd mk d2 1), (mNear (mNear ss2 ((u 0) d2) ((ss2 d2) + 1)) ((u 1) d2) (((mNear ss2 ((u 0) d2) ((ss2 d2) + 1)) d2) + 1))) from by simp only [mReachStep, c_11, c_38, c_88, c_92, ↓reduceIte, not_true_eq_false, not_false_eq_true]])
                · refine lv_aload_n hx hb dX3_reach_95 rfl (lv_at hl 0 rfl) ?_
                  refine va_get (ci := 3) (v := .ref (q 14)) (C := RX3) (T := TX3) (N := 18) hx hb hts inX3_reach_RX3 hown hK hP 0 rfl rfl 17 (by decide) (hts _ lkX3_reach_50) (fun _ h9 => h9) rfl dX3_reach_96 ?_
                  refine lv_iload_n hx hb dX3_reach_99 rfl (lv_at hl 2 rfl) ?_
                  refine g_iald (n := 60) (f := (mNear (mNear ss2 ((u 0) d2) ((ss2 d2) + 1)) ((u 1) d2) (((mNear ss2 ((u 0) d2) ((ss2 d2) + 1)) d2) + 1))) hx hb hK hP 14 0 (by rw [MW_get_13, show (mS (mS (mS (mS u 10 mk) 13 ss2) 13 (mNear ss2 ((u 0) d2) ((ss2 d2) + 1))) 13 (mNear (mNear ss2 ((u 0) d2) ((ss2 d2) + 1)) ((u 1) d2) (((mNear ss2 ((u 0) d2) ((ss2 d2) + 1)) d2) + 1))) 13 = (mNear (mNear ss2 ((u 0) d2) ((ss2 d2) + 1)) ((u 1) d2) (((mNear ss2 ((u 0) d2) ((ss2 d2) + 1)) d2) + 1)) from by simp only [mS_at, ↓reduceIte, Nat.reduceEqDiff]]) rfl d2 (by omega) (by omega) rfl dX3_reach_100 ?_
                  refine lv_iload_n hx hb dX3_reach_101 rfl (lv_at hl 1 rfl) ?_
                  refine lv_icmp_ge (tgt := 109) hx hb dX3_reach_102 (by decide) (fun c_102 => ?_) (fun c_102 => ?_)
                  · refine lv_iconst (v := 0) hx hb dX3_reach_109 (by decide +kernel) ?_
                    refine g_zast (n := 60) (f := mk) (u' := (mS (mS (mS (mS (mS u 10 mk) 13 ss2) 13 (mNear ss2 ((u 0) d2) ((ss2 d2) + 1))) 13 (mNear (mNear ss2 ((u 0) d2) ((ss2 d2) + 1)) ((u 1) d2) (((mNear ss2 ((u 0) d2) ((ss2 d2) + 1)) d2) + 1))) 10 (upd mk d2 0))) hx hb hK hP hD hS 11 1 (by rw [MW_get_10, show (mS (mS (mS (mS u 10 mk) 13 ss2) 13 (mNear ss2 ((u 0) d2) ((ss2 d2) + 1))) 13 (mNear (mNear ss2 ((u 0) d2) ((ss2 d2) + 1)) ((u 1) d2) (((mNear ss2 ((u 0) d2) ((ss2 d2) + 1)) d2) + 1))) 10 = mk from by simp only [mS_at, ↓reduceIte, Nat.reduceEqDiff]]) rfl d2 (by omega) (by omega) rfl rfl (MW_set_10 _ _) dX3_reach_110 (fun H locs hP hD hS => ?_)
                    refine lv_iinc (v := ((nI d2) - 1)) (lv' := [(3, .int ((nI d2) - 1)), (0, .ref (q 0)), (2, .int p1)]) hx hb dX3_reach_111 hl (k := 2) rfl (g_dec1 _) (by decide) rfl (fun ls hl => ?_)
                    refine lv_goto (tgt := 37) hx hb dX3_reach_114 (by decide) ?_
                    rw [show MW cI cZ q (mS (mS (mS (mS (mS u 10 mk) 13 ss2) 13 (mNear ss2 ((u 0) d2) ((ss2 d2) + 1))) 13 (mNear (mNear ss2 ((u 0) d2) ((ss2 d2) + 1)) ((u 1) d2) (((mNear ss2 ((u 0) d2) ((ss2 d2) + 1)) d2) + 1))) 10 (upd mk d2 0)) = MW cI cZ q (mS (mS u 10 (upd mk d2 0)) 13 (mNear (mNear ss2 ((u 0) d2) ((ss2 d2) + 1)) ((u 1) d2) (((mNear ss2 ((u 0) d2) ((ss2 d2) + 1)) d2) + 1))) from (MW_ext (by refine ⟨?_, ?_, ?_, ?_, ?_, ?_, ?_, ?_, ?_, ?_, ?_, ?_, ?_, ?_, ?_, ?_, ?_, ?_⟩ <;> simp only [mS_at, ↓reduceIte, Nat.reduceEqDiff] <;> rfl))] at hP hD
                    exact ih (upd mk d2 0) (mNear (mNear ss2 ((u 0) d2) ((ss2 d2) + 1)) ((u 1) d2) (((mNear ss2 ((u 0) d2) ((ss2 d2) + 1)) d2) + 1)) _ _ _ hP hD hS (lv_sub hl [1, 2, 0] rfl) (by omega) (by rw [← hr2]; show _ = itD _ d2 (mReachStep _ _ _ d2 (mk, ss2)); rw [show mReachStep (u 0) (u 1) p1 d2 (mk, ss2) = ((upd mk d2 0), (mNear (mNear ss2 ((u 0) d2) ((ss2 d2) + 1)) ((u 1) d2) (((mNear ss2 ((u 0) d2) ((ss2 d2) + 1)) d2) + 1))) from by simp only [mReachStep, c_11, c_38, c_88, c_92, c_102, ↓reduceIte, not_true_eq_false, not_false_eq_true]])
                  · refine lv_iconst (v := 1) hx hb dX3_reach_105 (by decide +kernel) ?_
                    refine lv_goto (tgt := 110) hx hb dX3_reach_106 (by decide) ?_
                    refine g_zast (n := 60) (f := mk) (u' := (mS (mS (mS (mS (mS u 10 mk) 13 ss2) 13 (mNear ss2 ((u 0) d2) ((ss2 d2) + 1))) 13 (mNear (mNear ss2 ((u 0) d2) ((ss2 d2) + 1)) ((u 1) d2) (((mNear ss2 ((u 0) d2) ((ss2 d2) + 1)) d2) + 1))) 10 (upd mk d2 1))) hx hb hK hP hD hS 11 1 (by rw [MW_get_10, show (mS (mS (mS (mS u 10 mk) 13 ss2) 13 (mNear ss2 ((u 0) d2) ((ss2 d2) + 1))) 13 (mNear (mNear ss2 ((u 0) d2) ((ss2 d2) + 1)) ((u 1) d2) (((mNear ss2 ((u 0) d2) ((ss2 d2) + 1)) d2) + 1))) 10 = mk from by simp only [mS_at, ↓reduceIte, Nat.reduceEqDiff]]) rfl d2 (by omega) (by omega) rfl rfl (MW_set_10 _ _) dX3_reach_110 (fun H locs hP hD hS => ?_)
                    refine lv_iinc (v := ((nI d2) - 1)) (lv' := [(3, .int ((nI d2) - 1)), (0, .ref (q 0)), (2, .int p1)]) hx hb dX3_reach_111 hl (k := 2) rfl (g_dec1 _) (by decide) rfl (fun ls hl => ?_)
                    refine lv_goto (tgt := 37) hx hb dX3_reach_114 (by decide) ?_
                    rw [show MW cI cZ q (mS (mS (mS (mS (mS u 10 mk) 13 ss2) 13 (mNear ss2 ((u 0) d2) ((ss2 d2) + 1))) 13 (mNear (mNear ss2 ((u 0) d2) ((ss2 d2) + 1)) ((u 1) d2) (((mNear ss2 ((u 0) d2) ((ss2 d2) + 1)) d2) + 1))) 10 (upd mk d2 1)) = MW cI cZ q (mS (mS u 10 (upd mk d2 1)) 13 (mNear (mNear ss2 ((u 0) d2) ((ss2 d2) + 1)) ((u 1) d2) (((mNear ss2 ((u 0) d2) ((ss2 d2) + 1)) d2) + 1))) from (MW_ext (by refine ⟨?_, ?_, ?_, ?_, ?_, ?_, ?_, ?_, ?_, ?_, ?_, ?_, ?_, ?_, ?_, ?_, ?_, ?_⟩ <;> simp only [mS_at, ↓reduceIte, Nat.reduceEqDiff] <;> rfl))] at hP hD
                    exact ih (upd mk d2 1) (mNear (mNear ss2 ((u 0) d2) ((ss2 d2) + 1)) ((u 1) d2) (((mNear ss2 ((u 0) d2) ((ss2 d2) + 1)) d2) + 1)) _ _ _ hP hD hS (lv_sub hl [1, 2, 0] rfl) (by omega) (by rw [← hr2]; show _ = itD _ d2 (mReachStep _ _ _ d2 (mk, ss2)); rw [show mReachStep (u 0) (u 1) p1 d2 (mk, ss2) = ((upd mk d2 1), (mNear (mNear ss2 ((u 0) d2) ((ss2 d2) + 1)) ((u 1) d2) (((mNear ss2 ((u 0) d2) ((ss2 d2) + 1)) d2) + 1))) from by simp only [mReachStep, c_11, c_38, c_88, c_92, c_102, ↓reduceIte, not_true_eq_false, not_false_eq_true]])
        rw [show MW cI cZ q (mS (mS (mS u 10 (mFrom0 n (u 3) (u 0) (u 1) (u 10) (nI j0))) 13 ss) 13 (upd ss j0 0)) = MW cI cZ q (mS (mS u 10 (mFrom0 n (u 3) (u 0) (u 1) (u 10) (nI j0))) 13 (upd ss j0 0)) from (MW_ext (by refine ⟨?_, ?_, ?_, ?_, ?_, ?_, ?_, ?_, ?_, ?_, ?_, ?_, ?_, ?_, ?_, ?_, ?_, ?_⟩ <;> simp only [mS_at, ↓reduceIte, Nat.reduceEqDiff] <;> rfl))] at hP hD
        rw [show nI j0 = nI (j0 + 1) - 1 from (nI_pred j0).symm] at hl
        exact loop2 (j0 + 1) (mFrom0 n (u 3) (u 0) (u 1) (u 10) (nI j0)) (upd ss j0 0) _ _ _ hP hD hS (lv_sub hl [1, 3, 0] rfl) (by omega) (by rw [show ss = mS60 (u 13) from hr]; rfl)
      · have n_11 : ¬ 60 ≤ k := fun h => c_11 ((g_leI (a := 60) (b := k) rfl rfl (by decide) (by omega)).mpr h)
        exfalso; omega
    | succ d ih =>
      intro k ss H locs ls hP hD hS hl hk hr
      refine lv_iload_n hx hb dX3_reach_8 rfl (lv_at hl 3 rfl) ?_
      refine lv_bipush (v := 60) hx hb dX3_reach_9 (by decide +kernel) ?_
      refine lv_icmp_ge (tgt := 28) hx hb dX3_reach_11 (by decide) (fun c_11 => ?_) (fun c_11 => ?_)
      · have n_11 : 60 ≤ k := (g_leI (a := 60) (b := k) rfl rfl (by decide) (by omega)).mp c_11
        exfalso; omega
      · have n_11 : ¬ 60 ≤ k := fun h => c_11 ((g_leI (a := 60) (b := k) rfl rfl (by decide) (by omega)).mpr h)
        refine lv_aload_n hx hb dX3_reach_14 rfl (lv_at hl 0 rfl) ?_
        refine va_get (ci := 3) (v := .ref (q 14)) (C := RX3) (T := TX3) (N := 18) hx hb hts inX3_reach_RX3 hown hK hP 0 rfl rfl 17 (by decide) (hts _ lkX3_reach_50) (fun _ h9 => h9) rfl dX3_reach_15 ?_
        refine lv_iload_n hx hb dX3_reach_18 rfl (lv_at hl 3 rfl) ?_
        refine lv_bipush (v := 60) hx hb dX3_reach_19 (by decide +kernel) ?_
        refine g_iast (n := 60) (f := ss) (u' := (mS (mS (mS u 10 (mFrom0 n (u 3) (u 0) (u 1) (u 10) (nI j0))) 13 ss) 13 (upd ss k 60))) hx hb hK hP hD hS 14 0 (by rw [MW_get_13, show (mS (mS u 10 (mFrom0 n (u 3) (u 0) (u 1) (u 10) (nI j0))) 13 ss) 13 = ss from by simp only [mS_at, ↓reduceIte, Nat.reduceEqDiff]]) rfl k (by omega) (by omega) rfl (MW_set_13 _ _) dX3_reach_21 (fun H locs hP hD hS => ?_)
        refine lv_iinc (v := (nI (k + 1))) (lv' := [(3, .int (nI (k + 1))), (0, .ref (q 0)), (1, .int (nI j0)), (2, .int p1)]) hx hb dX3_reach_22 hl (k := 3) rfl (nI_1 _) (by decide) rfl (fun ls hl => ?_)
        refine lv_goto (tgt := 8) hx hb dX3_reach_25 (by decide) ?_
        rw [show MW cI cZ q (mS (mS (mS u 10 (mFrom0 n (u 3) (u 0) (u 1) (u 10) (nI j0))) 13 ss) 13 (upd ss k 60)) = MW cI cZ q (mS (mS u 10 (mFrom0 n (u 3) (u 0) (u 1) (u 10) (nI j0))) 13 (upd ss k 60)) from (MW_ext (by refine ⟨?_, ?_, ?_, ?_, ?_, ?_, ?_, ?_, ?_, ?_, ?_, ?_, ?_, ?_, ?_, ?_, ?_, ?_⟩ <;> simp only [mS_at, ↓reduceIte, Nat.reduceEqDiff] <;> rfl))] at hP hD
        exact ih (k + 1) (upd ss k 60) _ _ _ hP hD hS (lv_sub hl [1, 2, 3, 0] rfl) (by omega) (by rw [← hr]; rfl)
  rw [show MW cI cZ q (mS u 10 (mFrom0 n (u 3) (u 0) (u 1) (u 10) (nI j0))) = MW cI cZ q (mS (mS u 10 (mFrom0 n (u 3) (u 0) (u 1) (u 10) (nI j0))) 13 (u 13)) from (MW_ext (by refine ⟨?_, ?_, ?_, ?_, ?_, ?_, ?_, ?_, ?_, ?_, ?_, ?_, ?_, ?_, ?_, ?_, ?_, ?_⟩ <;> simp only [mS_at, ↓reduceIte, Nat.reduceEqDiff] <;> rfl))] at hP hD
  exact loop 60 0 (u 13) _ _ _ hP hD hS (lv_sub hl [1, 2, 3, 0] rfl) (by omega) (opq_eq _).symm

