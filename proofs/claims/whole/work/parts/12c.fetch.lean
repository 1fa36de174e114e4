theorem lkX3_bring_16 : Cond.fieldLink RX3 16 "FetchHouseModel" "slots" "[I" ∈ wsX3_bring := List.mem_of_getElem? (i := 1) (by decide +kernel)
theorem lkX3_bring_23 : Cond.fieldLink RX3 23 "FetchHouseModel" "hasFile" "[Z" ∈ wsX3_bring := List.mem_of_getElem? (i := 2) (by decide +kernel)
theorem inX3_bring_RX3 : ∀ w ∈ u_ws RX3 TX3 18, w ∈ wsX3_bring := fun w h => List.mem_cons_of_mem _ (List.mem_append_right _ h)
abbrev rmX3_bring_0 : Room := { frames := 0, cells := 0, slots := 0, locals := 0 }
set_option maxHeartbeats 4000000 in
set_option maxRecDepth 100000 in
theorem ctX3_bring_0 (l : Launch) (D : va_G) (cI cZ : ClassId) (q : Nat → Nat) (u : SM) (n : Nat) (hn : u 15 0 = nI n) (h60 : n ≤ 60) (hsl : ∀ k, k < 4 * n → (u 2 k = -1 ∨ ∃ f, f < 100 ∧ u 2 k = nI f)) (j : Nat) (hj : j < n) (p3 : Int32) : gM l yX3_bring wsX3_bring rmX3_bring_0 D [(cI, .int), (cZ, .boolean)] (MW cI cZ q) (fun _ => True) [.ref (q 0), .int 0, .int 1, .int (nI j), .int p3] u none (mS u 4 (mBring (u 2) 0 1 j p3 (u 4))) := by
  refine g_start (cc := cX3_bring) (maxL := 6) (ret := none) (by decide) rfl (Nat.le_of_ble_eq_true rfl) ?_
  intro p e s m below meth c A ls Q hx hb hml hret hts hown hlk hE hP hK hD hA hl hQ hS
  have hown : s.vm.findClass RX3 = some m.cls := hown
  have hl : lv_has ls 6 [(0, .ref (q 0)), (1, .int 0), (2, .int 1), (3, .int (nI j)), (4, .int p3)] := hl
  refine lv_iconst (v := 4) hx hb dX3_bring_0 (by decide +kernel) ?_
  refine lv_iload_n hx hb dX3_bring_1 rfl (lv_at hl 3 rfl) ?_
  refine lv_imul hx hb dX3_bring_2 ?_
  refine W.eq (g2 := F0 m 3 ls [.int (nI (4 * j))]) (by rw [show (4 : Int32) = nI 4 from rfl, pk_mul]) ?_
  refine lv_istore (lv' := [(5, .int (nI (4 * j))), (0, .ref (q 0)), (1, .int 0), (2, .int 1), (3, .int (nI j)), (4, .int p3)]) hx hb dX3_bring_3 hl (by decide) rfl (fun ls hl => ?_)
  have loop : ∀ (d k : Nat) (hf : Nat → Int32) (H : Heap) (locs : List Loc) (ls : Array Slot) (hP : va_P D vwCl (MW cI cZ q (mS u 4 hf)) H) (hD : va_D A (MW cI cZ q (mS u 4 hf))) (hS : va_S A s.heap H locs) (hl : lv_has ls 6 [(0, .ref (q 0)), (1, .int 0), (2, .int 1), (3, .int (nI j)), (4, .int p3), (5, .int (nI k))]) (hk : k + d = 4 * j + 4) (hr : itU (mBringStep (u 2) 0 1 p3) d k hf = (mBring (u 2) 0 1 j p3 (u 4))), W p l e rmX3_bring_0 s m ([.ref (q 0), .int 0, .int 1, .int (nI j), .int p3] : List Value).toArray below meth c H locs 0 0 Q (F0 m 5 ls []) := by
    intro d
    induction d with
    | zero =>
      intro k hf H locs ls hP hD hS hl hk hr
      refine lv_iload hx hb dX3_bring_5 (lv_at hl 5 rfl) ?_
      refine lv_iconst (v := 4) hx hb dX3_bring_7 (by decide +kernel) ?_
      refine lv_iload_n hx hb dX3_bring_8 rfl (lv_at hl 3 rfl) ?_
      refine lv_imul hx hb dX3_bring_9 ?_
      refine lv_iconst (v := 4) hx hb dX3_bring_10 (by decide +kernel) ?_
      refine lv_iadd hx hb dX3_bring_11 ?_
      refine lv_icmp_ge (tgt := 75) hx hb dX3_bring_12 (by decide) (fun c_12 => ?_) (fun c_12 => ?_)
      · have n_12 : ((4 * j) + 4) ≤ k := (g_leI (a := ((4 * j) + 4)) (b := k) (g_addE (g_mulE rfl rfl) rfl) rfl (by omega) (by omega)).mp c_12
        refine g_vret (u1 := (mS u 4 hf)) hx hb hret hlk hQ hP hD hS dX3_bring_75 ?_ ?_
        · exact rfl
        · exact (by rw [← hr] <;> exact (MW_ext (by refine ⟨?_, ?_, ?_, ?_, ?_, ?_, ?_, ?_, ?_, ?_, ?_, ?_, ?_, ?_, ?_, ?_, ?_, ?_⟩ <;> simp only [mS_at, ↓reduceIte, Nat.reduceEqDiff] <;> rfl)))
      · have n_12 : ¬ ((4 * j) + 4) ≤ k := fun h => c_12 ((g_leI (a := ((4 * j) + 4)) (b := k) (g_addE (g_mulE rfl rfl) rfl) rfl (by omega) (by omega)).mpr h)
        exfalso; omega
    | succ d ih =>
      intro k hf H locs ls hP hD hS hl hk hr
      refine lv_iload hx hb dX3_bring_5 (lv_at hl 5 rfl) ?_
      refine lv_iconst (v := 4) hx hb dX3_bring_7 (by decide +kernel) ?_
      refine lv_iload_n hx hb dX3_bring_8 rfl (lv_at hl 3 rfl) ?_
      refine lv_imul hx hb dX3_bring_9 ?_
      refine lv_iconst (v := 4) hx hb dX3_bring_10 (by decide +kernel) ?_
      refine lv_iadd hx hb dX3_bring_11 ?_
      refine lv_icmp_ge (tgt := 75) hx hb dX3_bring_12 (by decide) (fun c_12 => ?_) (fun c_12 => ?_)
      · have n_12 : ((4 * j) + 4) ≤ k := (g_leI (a := ((4 * j) + 4)) (b := k) (g_addE (g_mulE rfl rfl) rfl) rfl (by omega) (by omega)).mp c_12
        exfalso; omega
      · have n_12 : ¬ ((4 * j) + 4) ≤ k := fun h => c_12 ((g_leI (a := ((4 * j) + 4)) (b := k) (g_addE (g_mulE rfl rfl) rfl) rfl (by omega) (by omega)).mpr h)
        refine lv_iload hx hb dX3_bring_15 (lv_at hl 4 rfl) ?_
        refine lv_if_eq (tgt := 69) hx hb dX3_bring_17 (by decide) (fun c_17 => ?_) (fun c_17 => ?_)
        · refine lv_iinc (v := (nI (k + 1))) (lv' := [(5, .int (nI (k + 1))), (0, .ref (q 0)), (1, .int 0), (2, .int 1), (3, .int (nI j)), (4, .int p3)]) hx hb dX3_bring_69 hl (k := 5) rfl (nI_1 _) (by decide) rfl (fun ls hl => ?_)
          refine lv_goto (tgt := 5) hx hb dX3_bring_72 (by decide) ?_
          exact ih (k + 1) hf _ _ _ hP hD hS (lv_sub hl [1, 2, 3, 4, 5, 0] rfl) (by omega) (by rw [← hr]; show _ = itU _ d (k + 1) (mBringStep _ _ _ _ k hf); rw [show mBringStep (u 2) 0 1 p3 k hf = hf from by unfold mBringStep; rw [if_pos c_17]])
        · refine lv_aload_n hx hb dX3_bring_20 rfl (lv_at hl 0 rfl) ?_
          refine va_get (ci := 3) (v := .ref (q 3)) (C := RX3) (T := TX3) (N := 18) hx hb hts inX3_bring_RX3 hown hK hP 0 rfl rfl 4 (by decide) (hts _ lkX3_bring_16) (fun _ h9 => h9) rfl dX3_bring_21 ?_
          refine lv_iload hx hb dX3_bring_24 (lv_at hl 5 rfl) ?_
          refine g_iald (n := 240) (f := (u 2)) hx hb hK hP 3 0 (by rw [MW_get_2, show (mS u 4 hf) 2 = (u 2) from by simp only [mS_at, ↓reduceIte, Nat.reduceEqDiff]]) rfl k (by omega) (by omega) rfl dX3_bring_26 ?_
          refine lv_iconst (v := (-1)) hx hb dX3_bring_27 (by decide +kernel) ?_
          refine lv_icmp_eq (tgt := 69) hx hb dX3_bring_28 (by decide) (fun c_28 => ?_) (fun c_28 => ?_)
          · refine lv_iinc (v := (nI (k + 1))) (lv' := [(5, .int (nI (k + 1))), (0, .ref (q 0)), (1, .int 0), (2, .int 1), (3, .int (nI j)), (4, .int p3)]) hx hb dX3_bring_69 hl (k := 5) rfl (nI_1 _) (by decide) rfl (fun ls hl => ?_)
            refine lv_goto (tgt := 5) hx hb dX3_bring_72 (by decide) ?_
            exact ih (k + 1) hf _ _ _ hP hD hS (lv_sub hl [1, 2, 3, 4, 5, 0] rfl) (by omega) (by rw [← hr]; show _ = itU _ d (k + 1) (mBringStep _ _ _ _ k hf); rw [show mBringStep (u 2) 0 1 p3 k hf = hf from by unfold mBringStep; rw [if_neg c_17, if_pos c_28]])
          · obtain ⟨f, hf1, hf2⟩ := (hsl k (by omega)).resolve_left c_28
            have hfe : u 2 k = nI (u 2 k).toNatClampNeg := by rw [hf2, nI_clamp (by omega)]
            have hfb : (u 2 k).toNatClampNeg < 100 := by rw [hf2, nI_clamp (by omega)]; exact hf1
            refine lv_aload_n hx hb dX3_bring_31 rfl (lv_at hl 0 rfl) ?_
            refine va_get (ci := 3) (v := .ref (q 5)) (C := RX3) (T := TX3) (N := 18) hx hb hts inX3_bring_RX3 hown hK hP 0 rfl rfl 6 (by decide) (hts _ lkX3_bring_23) (fun _ h9 => h9) rfl dX3_bring_32 ?_
            refine lv_bipush (v := 100) hx hb dX3_bring_35 (by decide +kernel) ?_
            refine lv_iload_n hx hb dX3_bring_37 rfl (lv_at hl 1 rfl) ?_
            refine lv_imul hx hb dX3_bring_38 ?_
            refine lv_aload_n hx hb dX3_bring_39 rfl (lv_at hl 0 rfl) ?_
            refine va_get (ci := 3) (v := .ref (q 3)) (C := RX3) (T := TX3) (N := 18) hx hb hts inX3_bring_RX3 hown hK hP 0 rfl rfl 4 (by decide) (hts _ lkX3_bring_16) (fun _ h9 => h9) rfl dX3_bring_40 ?_
            refine lv_iload hx hb dX3_bring_43 (lv_at hl 5 rfl) ?_
            refine g_iald (n := 240) (f := (u 2)) hx hb hK hP 3 0 (by rw [MW_get_2, show (mS u 4 hf) 2 = (u 2) from by simp only [mS_at, ↓reduceIte, Nat.reduceEqDiff]]) rfl k (by omega) (by omega) rfl dX3_bring_45 ?_
            refine lv_iadd hx hb dX3_bring_46 ?_
            refine g_zald (n := 200) (f := hf) hx hb hK hP 5 1 (by rw [MW_get_4, show (mS u 4 hf) 4 = hf from by simp only [mS_at, ↓reduceIte, Nat.reduceEqDiff]]) rfl (100 * 0 + (u 2 k).toNatClampNeg) (by omega) (by omega) (g_addE (g_mulE rfl rfl) hfe) dX3_bring_47 ?_
            refine lv_if_eq (tgt := 69) hx hb dX3_bring_48 (by decide) (fun c_48 => ?_) (fun c_48 => ?_)
            · refine lv_iinc (v := (nI (k + 1))) (lv' := [(5, .int (nI (k + 1))), (0, .ref (q 0)), (1, .int 0), (2, .int 1), (3, .int (nI j)), (4, .int p3)]) hx hb dX3_bring_69 hl (k := 5) rfl (nI_1 _) (by decide) rfl (fun ls hl => ?_)
              refine lv_goto (tgt := 5) hx hb dX3_bring_72 (by decide) ?_
              exact ih (k + 1) hf _ _ _ hP hD hS (lv_sub hl [1, 2, 3, 4, 5, 0] rfl) (by omega) (by rw [← hr]; show _ = itU _ d (k + 1) (mBringStep _ _ _ _ k hf); rw [show mBringStep (u 2) 0 1 p3 k hf = hf from by unfold mBringStep; rw [if_neg c_17, if_neg c_28, if_pos c_48]])
            · refine lv_aload_n hx hb dX3_bring_51 rfl (lv_at hl 0 rfl) ?_
              refine va_get (ci := 3) (v := .ref (q 5)) (C := RX3) (T := TX3) (N := 18) hx hb hts inX3_bring_RX3 hown hK hP 0 rfl rfl 6 (by decide) (hts _ lkX3_bring_23) (fun _ h9 => h9) rfl dX3_bring_52 ?_
              refine lv_bipush (v := 100) hx hb dX3_bring_55 (by decide +kernel) ?_
              refine lv_iload_n hx hb dX3_bring_57 rfl (lv_at hl 2 rfl) ?_
              refine lv_imul hx hb dX3_bring_58 ?_
              refine lv_aload_n hx hb dX3_bring_59 rfl (lv_at hl 0 rfl) ?_
              refine va_get (ci := 3) (v := .ref (q 3)) (C := RX3) (T := TX3) (N := 18) hx hb hts inX3_bring_RX3 hown hK hP 0 rfl rfl 4 (by decide) (hts _ lkX3_bring_16) (fun _ h9 => h9) rfl dX3_bring_60 ?_
              refine lv_iload hx hb dX3_bring_63 (lv_at hl 5 rfl) ?_
              refine g_iald (n := 240) (f := (u 2)) hx hb hK hP 3 0 (by rw [MW_get_2, show (mS u 4 hf) 2 = (u 2) from by simp only [mS_at, ↓reduceIte, Nat.reduceEqDiff]]) rfl k (by omega) (by omega) rfl dX3_bring_65 ?_
              refine lv_iadd hx hb dX3_bring_66 ?_
              refine lv_iconst (v := 1) hx hb dX3_bring_67 (by decide +kernel) ?_
              refine g_zast (n := 200) (f := hf) (u' := (mS (mS u 4 hf) 4 (upd hf (100 * 1 + (u 2 k).toNatClampNeg) 1))) hx hb hK hP hD hS 5 1 (by rw [MW_get_4, show (mS u 4 hf) 4 = hf from by simp only [mS_at, ↓reduceIte, Nat.reduceEqDiff]]) rfl (100 * 1 + (u 2 k).toNatClampNeg) (by omega) (by omega) (g_addE (g_mulE rfl rfl) hfe) rfl (MW_set_4 _ _) dX3_bring_68 (fun H locs hP hD hS => ?_)
              refine lv_iinc (v := (nI (k + 1))) (lv' := [(5, .int (nI (k + 1))), (0, .ref (q 0)), (1, .int 0), (2, .int 1), (3, .int (nI j)), (4, .int p3)]) hx hb dX3_bring_69 hl (k := 5) rfl (nI_1 _) (by decide) rfl (fun ls hl => ?_)
              refine lv_goto (tgt := 5) hx hb dX3_bring_72 (by decide) ?_
              rw [show MW cI cZ q (mS (mS u 4 hf) 4 (upd hf (100 * 1 + (u 2 k).toNatClampNeg) 1)) = MW cI cZ q (mS u 4 (upd hf (100 * 1 + (u 2 k).toNatClampNeg) 1)) from (MW_ext (by refine ⟨?_, ?_, ?_, ?_, ?_, ?_, ?_, ?_, ?_, ?_, ?_, ?_, ?_, ?_, ?_, ?_, ?_, ?_⟩ <;> simp only [mS_at, ↓reduceIte, Nat.reduceEqDiff] <;> rfl))] at hP hD
              exact ih (k + 1) (upd hf (100 * 1 + (u 2 k).toNatClampNeg) 1) _ _ _ hP hD hS (lv_sub hl [1, 2, 3, 4, 5, 0] rfl) (by omega) (by rw [← hr]; show _ = itU _ d (k + 1) (mBringStep _ _ _ _ k hf); rw [show mBringStep (u 2) 0 1 p3 k hf = (upd hf (100 * 1 + (u 2 k).toNatClampNeg) 1) from by unfold mBringStep; rw [if_neg c_17, if_neg c_28, if_neg c_48]])
  rw [show MW cI cZ q u = MW cI cZ q (mS u 4 (u 4)) from (MW_ext (by refine ⟨?_, ?_, ?_, ?_, ?_, ?_, ?_, ?_, ?_, ?_, ?_, ?_, ?_, ?_, ?_, ?_, ?_, ?_⟩ <;> simp only [mS_at, ↓reduceIte, Nat.reduceEqDiff] <;> rfl))] at hP hD
  exact loop 4 (4 * j) (u 4) _ _ _ hP hD hS (lv_sub hl [1, 2, 3, 4, 5, 0] rfl) (by omega) rfl
abbrev rmX3_bring_1 : Room := { frames := 0, cells := 0, slots := 0, locals := 0 }
set_option maxHeartbeats 4000000 in
set_option maxRecDepth 100000 in
theorem ctX3_bring_1 (l : Launch) (D : va_G) (cI cZ : ClassId) (q : Nat → Nat) (u : SM) (n : Nat) (hn : u 15 0 = nI n) (h60 : n ≤ 60) (hsl : ∀ k, k < 4 * n → (u 2 k = -1 ∨ ∃ f, f < 100 ∧ u 2 k = nI f)) (j : Nat) (hj : j < n) (p3 : Int32) : gM l yX3_bring wsX3_bring rmX3_bring_1 D [(cI, .int), (cZ, .boolean)] (MW cI cZ q) (fun _ => True) [.ref (q 0), .int 1, .int 0, .int (nI j), .int p3] u none (mS u 4 (mBring (u 2) 1 0 j p3 (u 4))) := by
  refine g_start (cc := cX3_bring) (maxL := 6) (ret := none) (by decide) rfl (Nat.le_of_ble_eq_true rfl) ?_
  intro p e s m below meth c A ls Q hx hb hml hret hts hown hlk hE hP hK hD hA hl hQ hS
  have hown : s.vm.findClass RX3 = some m.cls := hown
  have hl : lv_has ls 6 [(0, .ref (q 0)), (1, .int 1), (2, .int 0), (3, .int (nI j)), (4, .int p3)] := hl
  refine lv_iconst (v := 4) hx hb dX3_bring_0 (by decide +kernel) ?_
  refine lv_iload_n hx hb dX3_bring_1 rfl (lv_at hl 3 rfl) ?_
  refine lv_imul hx hb dX3_bring_2 ?_
  refine W.eq (g2 := F0 m 3 ls [.int (nI (4 * j))]) (by rw [show (4 : Int32) = nI 4 from rfl, pk_mul]) ?_
  refine lv_istore (lv' := [(5, .int (nI (4 * j))), (0, .ref (q 0)), (1, .int 1), (2, .int 0), (3, .int (nI j)), (4, .int p3)]) hx hb dX3_bring_3 hl (by decide) rfl (fun ls hl => ?_)
  have loop : ∀ (d k : Nat) (hf : Nat → Int32) (H : Heap) (locs : List Loc) (ls : Array Slot) (hP : va_P D vwCl (MW cI cZ q (mS u 4 hf)) H) (hD : va_D A (MW cI cZ q (mS u 4 hf))) (hS : va_S A s.heap H locs) (hl : lv_has ls 6 [(0, .ref (q 0)), (1, .int 1), (2, .int 0), (3, .int (nI j)), (4, .int p3), (5, .int (nI k))]) (hk : k + d = 4 * j + 4) (hr : itU (mBringStep (u 2) 1 0 p3) d k hf = (mBring (u 2) 1 0 j p3 (u 4))), W p l e rmX3_bring_1 s m ([.ref (q 0), .int 1, .int 0, .int (nI j), .int p3] : List Value).toArray below meth c H locs 0 0 Q (F0 m 5 ls []) := by
    intro d
    induction d with
    | zero =>
      intro k hf H locs ls hP hD hS hl hk hr
      refine lv_iload hx hb dX3_bring_5 (lv_at hl 5 rfl) ?_
      refine lv_iconst (v := 4) hx hb dX3_bring_7 (by decide +kernel) ?_
      refine lv_iload_n hx hb dX3_bring_8 rfl (lv_at hl 3 rfl) ?_
      refine lv_imul hx hb dX3_bring_9 ?_
      refine lv_iconst (v := 4) hx hb dX3_bring_10 (by decide +kernel) ?_
      refine lv_iadd hx hb dX3_bring_11 ?_
      refine lv_icmp_ge (tgt := 75) hx hb dX3_bring_12 (by decide) (fun c_12 => ?_) (fun c_12 => ?_)
      · have n_12 : ((4 * j) + 4) ≤ k := (g_leI (a := ((4 * j) + 4)) (b := k) (g_addE (g_mulE rfl rfl) rfl) rfl (by omega) (by omega)).mp c_12
        refine g_vret (u1 := (mS u 4 hf)) hx hb hret hlk hQ hP hD hS dX3_bring_75 ?_ ?_
        · exact rfl
        · exact (by rw [← hr] <;> exact (MW_ext (by refine ⟨?_, ?_, ?_, ?_, ?_, ?_, ?_, ?_, ?_, ?_, ?_, ?_, ?_, ?_, ?_, ?_, ?_, ?_⟩ <;> simp only [mS_at, ↓reduceIte, Nat.reduceEqDiff] <;> rfl)))
      · have n_12 : ¬ ((4 * j) + 4) ≤ k := fun h => c_12 ((g_leI (a := ((4 * j) + 4)) (b := k) (g_addE (g_mulE rfl rfl) rfl) rfl (by omega) (by omega)).mpr h)
        exfalso; omega
    | succ d ih =>
      intro k hf H locs ls hP hD hS hl hk hr
      refine lv_iload hx hb dX3_bring_5 (lv_at hl 5 rfl) ?_
      refine lv_iconst (v := 4) hx hb dX3_bring_7 (by decide +kernel) ?_
      refine lv_iload_n hx hb dX3_bring_8 rfl (lv_at hl 3 rfl) ?_
      refine lv_imul hx hb dX3_bring_9 ?_
      refine lv_iconst (v := 4) hx hb dX3_bring_10 (by decide +kernel) ?_
      refine lv_iadd hx hb dX3_bring_11 ?_
      refine lv_icmp_ge (tgt := 75) hx hb dX3_bring_12 (by decide) (fun c_12 => ?_) (fun c_12 => ?_)
      · have n_12 : ((4 * j) + 4) ≤ k := (g_leI (a := ((4 * j) + 4)) (b := k) (g_addE (g_mulE rfl rfl) rfl) rfl (by omega) (by omega)).mp c_12
        exfalso; omega
      · have n_12 : ¬ ((4 * j) + 4) ≤ k := fun h => c_12 ((g_leI (a := ((4 * j) + 4)) (b := k) (g_addE (g_mulE rfl rfl) rfl) rfl (by omega) (by omega)).mpr h)
        refine lv_iload hx hb dX3_bring_15 (lv_at hl 4 rfl) ?_
        refine lv_if_eq (tgt := 69) hx hb dX3_bring_17 (by decide) (fun c_17 => ?_) (fun c_17 => ?_)
        · refine lv_iinc (v := (nI (k + 1))) (lv' := [(5, .int (nI (k + 1))), (0, .ref (q 0)), (1, .int 1), (2, .int 0), (3, .int (nI j)), (4, .int p3)]) hx hb dX3_bring_69 hl (k := 5) rfl (nI_1 _) (by decide) rfl (fun ls hl => ?_)
          refine lv_goto (tgt := 5) hx hb dX3_bring_72 (by decide) ?_
          exact ih (k + 1) hf _ _ _ hP hD hS (lv_sub hl [1, 2, 3, 4, 5, 0] rfl) (by omega) (by rw [← hr]; show _ = itU _ d (k + 1) (mBringStep _ _ _ _ k hf); rw [show mBringStep (u 2) 1 0 p3 k hf = hf from by unfold mBringStep; rw [if_pos c_17]])
        · refine lv_aload_n hx hb dX3_bring_20 rfl (lv_at hl 0 rfl) ?_
          refine va_get (ci := 3) (v := .ref (q 3)) (C := RX3) (T := TX3) (N := 18) hx hb hts inX3_bring_RX3 hown hK hP 0 rfl rfl 4 (by decide) (hts _ lkX3_bring_16) (fun _ h9 => h9) rfl dX3_bring_21 ?_
          refine lv_iload hx hb dX3_bring_24 (lv_at hl 5 rfl) ?_
          refine g_iald (n := 240) (f := (u 2)) hx hb hK hP 3 0 (by rw [MW_get_2, show (mS u 4 hf) 2 = (u 2) from by simp only [mS_at, ↓reduceIte, Nat.reduceEqDiff]]) rfl k (by omega) (by omega) rfl dX3_bring_26 ?_
          refine lv_iconst (v := (-1)) hx hb dX3_bring_27 (by decide +kernel) ?_
          refine lv_icmp_eq (tgt := 69) hx hb dX3_bring_28 (by decide) (fun c_28 => ?_) (fun c_28 => ?_)
          · refine lv_iinc (v := (nI (k + 1))) (lv' := [(5, .int (nI (k + 1))), (0, .ref (q 0)), (1, .int 1), (2, .int 0), (3, .int (nI j)), (4, .int p3)]) hx hb dX3_bring_69 hl (k := 5) rfl (nI_1 _) (by decide) rfl (fun ls hl => ?_)
            refine lv_goto (tgt := 5) hx hb dX3_bring_72 (by decide) ?_
            exact ih (k + 1) hf _ _ _ hP hD hS (lv_sub hl [1, 2, 3, 4, 5, 0] rfl) (by omega) (by rw [← hr]; show _ = itU _ d (k + 1) (mBringStep _ _ _ _ k hf); rw [show mBringStep (u 2) 1 0 p3 k hf = hf from by unfold mBringStep; rw [if_neg c_17, if_pos c_28]])
          · obtain ⟨f, hf1, hf2⟩ := (hsl k (by omega)).resolve_left c_28
            have hfe : u 2 k = nI (u 2 k).toNatClampNeg := by rw [hf2, nI_clamp (by omega)]
            have hfb : (u 2 k).toNatClampNeg < 100 := by rw [hf2, nI_clamp (by omega)]; exact hf1
            refine lv_aload_n hx hb dX3_bring_31 rfl (lv_at hl 0 rfl) ?_
            refine va_get (ci := 3) (v := .ref (q 5)) (C := RX3) (T := TX3) (N := 18) hx hb hts inX3_bring_RX3 hown hK hP 0 rfl rfl 6 (by decide) (hts _ lkX3_bring_23) (fun _ h9 => h9) rfl dX3_bring_32 ?_
            refine lv_bipush (v := 100) hx hb dX3_bring_35 (by decide +kernel) ?_
            refine lv_iload_n hx hb dX3_bring_37 rfl (lv_at hl 1 rfl) ?_
            refine lv_imul hx hb dX3_bring_38 ?_
            refine lv_aload_n hx hb dX3_bring_39 rfl (lv_at hl 0 rfl) ?_
            refine va_get (ci := 3) (v := .ref (q 3)) (C := RX3) (T := TX3) (N := 18) hx hb hts inX3_bring_RX3 hown hK hP 0 rfl rfl 4 (by decide) (hts _ lkX3_bring_16) (fun _ h9 => h9) rfl dX3_bring_40 ?_
            refine lv_iload hx hb dX3_bring_43 (lv_at hl 5 rfl) ?_
            refine g_iald (n := 240) (f := (u 2)) hx hb hK hP 3 0 (by rw [MW_get_2, show (mS u 4 hf) 2 = (u 2) from by simp only [mS_at, ↓reduceIte, Nat.reduceEqDiff]]) rfl k (by omega) (by omega) rfl dX3_bring_45 ?_
            refine lv_iadd hx hb dX3_bring_46 ?_
            refine g_zald (n := 200) (f := hf) hx hb hK hP 5 1 (by rw [MW_get_4, show (mS u 4 hf) 4 = hf from by simp only [mS_at, ↓reduceIte, Nat.reduceEqDiff]]) rfl (100 * 1 + (u 2 k).toNatClampNeg) (by omega) (by omega) (g_addE (g_mulE rfl rfl) hfe) dX3_bring_47 ?_
            refine lv_if_eq (tgt := 69) hx hb dX3_bring_48 (by decide) (fun c_48 => ?_) (fun c_48 => ?_)
            · refine lv_iinc (v := (nI (k + 1))) (lv' := [(5, .int (nI (k + 1))), (0, .ref (q 0)), (1, .int 1), (2, .int 0), (3, .int (nI j)), (4, .int p3)]) hx hb dX3_bring_69 hl (k := 5) rfl (nI_1 _) (by decide) rfl (fun ls hl => ?_)
              refine lv_goto (tgt := 5) hx hb dX3_bring_72 (by decide) ?_
              exact ih (k + 1) hf _ _ _ hP hD hS (lv_sub hl [1, 2, 3, 4, 5, 0] rfl) (by omega) (by rw [← hr]; show _ = itU _ d (k + 1) (mBringStep _ _ _ _ k hf); rw [show mBringStep (u 2) 1 0 p3 k hf = hf from by unfold mBringStep; rw [if_neg c_17, if_neg c_28, if_pos c_48]])
            · refine lv_aload_n hx hb dX3_bring_51 rfl (lv_at hl 0 rfl) ?_
              refine va_get (ci := 3) (v := .ref (q 5)) (C := RX3) (T := TX3) (N := 18) hx hb hts inX3_bring_RX3 hown hK hP 0 rfl rfl 6 (by decide) (hts _ lkX3_bring_23) (fun _ h9 => h9) rfl dX3_bring_52 ?_
              refine lv_bipush (v := 100) hx hb dX3_bring_55 (by decide +kernel) ?_
              refine lv_iload_n hx hb dX3_bring_57 rfl (lv_at hl 2 rfl) ?_
              refine lv_imul hx hb dX3_bring_58 ?_
              refine lv_aload_n hx hb dX3_bring_59 rfl (lv_at hl 0 rfl) ?_
              refine va_get (ci := 3) (v := .ref (q 3)) (C := RX3) (T := TX3) (N := 18) hx hb hts inX3_bring_RX3 hown hK hP 0 rfl rfl 4 (by decide) (hts _ lkX3_bring_16) (fun _ h9 => h9) rfl dX3_bring_60 ?_
              refine lv_iload hx hb dX3_bring_63 (lv_at hl 5 rfl) ?_
              refine g_iald (n := 240) (f := (u 2)) hx hb hK hP 3 0 (by rw [MW_get_2, show (mS u 4 hf) 2 = (u 2) from by simp only [mS_at, ↓reduceIte, Nat.reduceEqDiff]]) rfl k (by omega) (by omega) rfl dX3_bring_65 ?_
              refine lv_iadd hx hb dX3_bring_66 ?_
              refine lv_iconst (v := 1) hx hb dX3_bring_67 (by decide +kernel) ?_
              refine g_zast (n := 200) (f := hf) (u' := (mS (mS u 4 hf) 4 (upd hf (100 * 0 + (u 2 k).toNatClampNeg) 1))) hx hb hK hP hD hS 5 1 (by rw [MW_get_4, show (mS u 4 hf) 4 = hf from by simp only [mS_at, ↓reduceIte, Nat.reduceEqDiff]]) rfl (100 * 0 + (u 2 k).toNatClampNeg) (by omega) (by omega) (g_addE (g_mulE rfl rfl) hfe) rfl (MW_set_4 _ _) dX3_bring_68 (fun H locs hP hD hS => ?_)
              refine lv_iinc (v := (nI (k + 1))) (lv' := [(5, .int (nI (k + 1))), (0, .ref (q 0)), (1, .int 1), (2, .int 0), (3, .int (nI j)), (4, .int p3)]) hx hb dX3_bring_69 hl (k := 5) rfl (nI_1 _) (by decide) rfl (fun ls hl => ?_)
              refine lv_goto (tgt := 5) hx hb dX3_bring_72 (by decide) ?_
              rw [show MW cI cZ q (mS (mS u 4 hf) 4 (upd hf (100 * 0 + (u 2 k).toNatClampNeg) 1)) = MW cI cZ q (mS u 4 (upd hf (100 * 0 + (u 2 k).toNatClampNeg) 1)) from (MW_ext (by refine ⟨?_, ?_, ?_, ?_, ?_, ?_, ?_, ?_, ?_, ?_, ?_, ?_, ?_, ?_, ?_, ?_, ?_, ?_⟩ <;> simp only [mS_at, ↓reduceIte, Nat.reduceEqDiff] <;> rfl))] at hP hD
              exact ih (k + 1) (upd hf (100 * 0 + (u 2 k).toNatClampNeg) 1) _ _ _ hP hD hS (lv_sub hl [1, 2, 3, 4, 5, 0] rfl) (by omega) (by rw [← hr]; show _ = itU _ d (k + 1) (mBringStep _ _ _ _ k hf); rw [show mBringStep (u 2) 1 0 p3 k hf = (upd hf (100 * 0 + (u 2 k).toNatClampNeg) 1) from by unfold mBringStep; rw [if_neg c_17, if_neg c_28, if_neg c_48]])
  rw [show MW cI cZ q u = MW cI cZ q (mS u 4 (u 4)) from (MW_ext (by refine ⟨?_, ?_, ?_, ?_, ?_, ?_, ?_, ?_, ?_, ?_, ?_, ?_, ?_, ?_, ?_, ?_, ?_, ?_⟩ <;> simp only [mS_at, ↓reduceIte, Nat.reduceEqDiff] <;> rfl))] at hP hD
  exact loop 4 (4 * j) (u 4) _ _ _ hP hD hS (lv_sub hl [1, 2, 3, 4, 5, 0] rfl) (by omega) rfl
theorem lkX3_noFetch_26 : Cond.fieldLink RX3 26 "FetchHouseModel" "refs" "[I" ∈ wsX3_noFetch := List.mem_of_getElem? (i := 1) (by decide +kernel)
theorem inX3_noFetch_RX3 : ∀ w ∈ u_ws RX3 TX3 18, w ∈ wsX3_noFetch := fun w h => List.mem_cons_of_mem _ (List.mem_append_right _ h)
abbrev rmX3_noFetch : Room := { frames := 2, cells := 0, slots := 0, locals := 42 }
set_option maxHeartbeats 4000000 in
set_option maxRecDepth 100000 in
theorem ctX3_noFetch (l : Launch) (D : va_G) (cI cZ : ClassId) (q : Nat → Nat) (u : SM) (n : Nat) (hn : u 15 0 = nI n) (h60 : n ≤ 60) (r : Nat) (hr4 : r < 4) (p1 : Int32) (h2 : ¬ mIn p1 0 60 = 0) (j0 : Nat) (hj0 : j0 < n) (hrj : u 5 r = nI j0) : gM l yX3_noFetch wsX3_noFetch rmX3_noFetch D [(cI, .int), (cZ, .boolean)] (MW cI cZ q) (fun _ => True) [.ref (q 0), .int (nI r), .int p1] u (some (.int 0)) (mS u 14 (fun _ => 0)) := by
  refine g_start (cc := cX3_noFetch) (maxL := 4) (ret := (some .boolean)) (by decide) rfl (Nat.le_of_ble_eq_true rfl) ?_
  intro p e s m below meth c A ls Q hx hb hml hret hts hown hlk hE hP hK hD hA hl hQ hS
  have hown : s.vm.findClass RX3 = some m.cls := hown
  have hl : lv_has ls 4 [(0, .ref (q 0)), (1, .int (nI r)), (2, .int p1)] := hl
  have h1 : ¬ xRange (nI r) 4 = 0 := by rw [show (4 : Int32) = nI 4 from rfl, xRange_in hr4 (by omega)]; decide
  refine lv_iload_n hx hb dX3_noFetch_0 rfl (lv_at hl 1 rfl) ?_
  refine g_callS0 (As := [.int (nI r)]) (rest := []) hx hb hml hown hts (ctX3_isRef l D cI cZ q (nI r)) gX3_noFetch_X3_isRef rfl rfl rfl hdX3_isRef ⟨Nat.le_of_ble_eq_true rfl, Nat.le_of_ble_eq_true rfl⟩ gEM_true trivial hP hK hS hA rfl hl.1 rfl (Nat.le_of_ble_eq_true rfl) dX3_noFetch_1 ⟨Nat.zero_le _, Nat.zero_le _⟩ (fun H locs hP hS => ?_)
  refine W.eq (g2 := F0 m 4 ls [.int (xRange (nI r) 4)]) rfl ?_
  refine lv_if_eq (tgt := 21) hx hb dX3_noFetch_4 (by decide) (fun c_4 => ?_) (fun c_4 => ?_)
  · exact absurd c_4 h1
  · refine lv_aload_n hx hb dX3_noFetch_7 rfl (lv_at hl 0 rfl) ?_
    refine va_get (ci := 3) (v := .ref (q 6)) (C := RX3) (T := TX3) (N := 18) hx hb hts inX3_noFetch_RX3 hown hK hP 0 rfl rfl 7 (by decide) (hts _ lkX3_noFetch_26) (fun _ h9 => h9) rfl dX3_noFetch_8 ?_
    refine lv_iload_n hx hb dX3_noFetch_11 rfl (lv_at hl 1 rfl) ?_
    refine g_iald (n := 8) (f := (u 5)) hx hb hK hP 6 0 (MW_get_5 _) rfl r (by omega) (by omega) rfl dX3_noFetch_12 ?_
    refine lv_iconst (v := (-1)) hx hb dX3_noFetch_13 (by decide +kernel) ?_
    refine lv_icmp_eq (tgt := 21) hx hb dX3_noFetch_14 (by decide) (fun c_14 => ?_) (fun c_14 => ?_)
    · exact absurd (hrj.symm.trans c_14) (nI_m1 (by omega))
    · refine lv_iconst (v := 1) hx hb dX3_noFetch_17 (by decide +kernel) ?_
      refine lv_goto (tgt := 22) hx hb dX3_noFetch_18 (by decide) ?_
      refine lv_istore_n (lv' := [(3, .int 1), (0, .ref (q 0)), (1, .int (nI r)), (2, .int p1)]) hx hb dX3_noFetch_22 rfl hl (by decide) rfl (fun ls hl => ?_)
      refine lv_aload_n hx hb dX3_noFetch_23 rfl (lv_at hl 1 rfl) ?_
      refine lv_iload_n hx hb dX3_noFetch_24 rfl (lv_at hl 2 rfl) ?_
      refine g_callS0 (As := [.int (nI r)]) (rest := [.ref (q 0)]) hx hb hml hown hts (ctX3_isRef l D cI cZ q (nI r)) gX3_noFetch_X3_isRef rfl rfl rfl hdX3_isRef ⟨Nat.le_of_ble_eq_true rfl, Nat.le_of_ble_eq_true rfl⟩ gEM_true trivial hP hK hS hA rfl hl.1 rfl (Nat.le_of_ble_eq_true rfl) dX3_noFetch_25 ⟨Nat.zero_le _, Nat.zero_le _⟩ (fun H locs hP hS => ?_)
      refine W.eq (g2 := F0 m 28 ls [.int (xRange (nI r) 4), .ref (q 0)]) rfl ?_
      refine lv_if_ne (tgt := 35) hx hb dX3_noFetch_28 (by decide) (fun c_28 => ?_) (fun c_28 => ?_)
      · refine lv_iload_n hx hb dX3_noFetch_35 rfl (lv_at hl 3 rfl) ?_
        refine lv_iconst (v := 0) hx hb dX3_noFetch_36 (by decide +kernel) ?_
        refine lv_bipush (v := 60) hx hb dX3_noFetch_37 (by decide +kernel) ?_
        refine g_callS0 (As := [.int p1, .int 0, .int 60]) (rest := [.ref (q 0)]) hx hb hml hown hts (ctX3_in l D cI cZ q p1 0 60) gX3_noFetch_X3_in rfl rfl rfl hdX3_in ⟨Nat.le_of_ble_eq_true rfl, Nat.le_of_ble_eq_true rfl⟩ gEM_true trivial hP hK hS hA rfl hl.1 rfl (Nat.le_of_ble_eq_true rfl) dX3_noFetch_39 ⟨Nat.zero_le _, Nat.zero_le _⟩ (fun H locs hP hS => ?_)
        refine W.eq (g2 := F0 m 42 ls [.int (mIn p1 0 60), .ref (q 0)]) rfl ?_
        refine lv_if_ne (tgt := 49) hx hb dX3_noFetch_42 (by decide) (fun c_42 => ?_) (fun c_42 => ?_)
        · refine lv_iload_n hx hb dX3_noFetch_49 rfl (lv_at hl 0 rfl) ?_
          refine lv_if_eq (tgt := 57) hx hb dX3_noFetch_50 (by decide) (fun c_50 => ?_) (fun c_50 => ?_)
          · exact absurd c_50 (by decide)
          · refine lv_iconst (v := 0) hx hb dX3_noFetch_53 (by decide +kernel) ?_
            refine lv_goto (tgt := 58) hx hb dX3_noFetch_54 (by decide) ?_
            refine g_callV (As := [.int 0]) (rest := []) hx hb hml hown hts (ctX3_refused l D cI cZ q u 0) gX3_noFetch_X3_refused rfl rfl rfl hdX3_refused ⟨Nat.le_of_ble_eq_true rfl, Nat.le_of_ble_eq_true rfl⟩ gEM_true trivial hP hK hD hS hA 0 rfl rfl rfl hl.1 rfl (Nat.le_of_ble_eq_true rfl) dX3_noFetch_58 ⟨Nat.zero_le _, Nat.zero_le _⟩ (fun H locs hP hD hS => ?_)
            obtain ⟨hP, hD⟩ := g_toPD hP hD (MW_ext (Y := (mS u 14 (fun _ => 0))) (by refine ⟨?_, ?_, ?_, ?_, ?_, ?_, ?_, ?_, ?_, ?_, ?_, ?_, ?_, ?_, ?_, ?_, ?_, ?_⟩ <;> simp only [mS_at, ↓reduceIte, Nat.reduceEqDiff] <;> rfl))
            refine W.eq (g2 := F0 m 61 ls [.int (if 0 = 0 then 0 else 1)]) rfl ?_
            refine g_zret (u1 := (mS u 14 (fun _ => 0))) hx hb hret hlk hQ hP hD hS dX3_noFetch_61 ?_ ?_ ?_
            · exact rfl
            · exact rfl
            · exact rfl
        · exact absurd c_42 h2
      · exact absurd c_28 h1
abbrev rmX3_noFetch_r : Room := { frames := 2, cells := 0, slots := 0, locals := 42 }
set_option maxHeartbeats 4000000 in
set_option maxRecDepth 100000 in
theorem ctX3_noFetch_r (l : Launch) (D : va_G) (cI cZ : ClassId) (q : Nat → Nat) (u : SM) (n : Nat) (hn : u 15 0 = nI n) (h60 : n ≤ 60) (p0 p1 z : Int32) (hz : (mNoF p0 p1 (u 5)) = z) (hz0 : ¬ z = 0) : gM l yX3_noFetch wsX3_noFetch rmX3_noFetch_r D [(cI, .int), (cZ, .boolean)] (MW cI cZ q) (fun _ => True) [.ref (q 0), .int p0, .int p1] u (some (.int 1)) (mS u 14 (fun _ => z)) := by
  refine g_start (cc := cX3_noFetch) (maxL := 4) (ret := (some .boolean)) (by decide) rfl (Nat.le_of_ble_eq_true rfl) ?_
  intro p e s m below meth c A ls Q hx hb hml hret hts hown hlk hE hP hK hD hA hl hQ hS
  have hown : s.vm.findClass RX3 = some m.cls := hown
  have hl : lv_has ls 4 [(0, .ref (q 0)), (1, .int p0), (2, .int p1)] := hl
  refine lv_iload_n hx hb dX3_noFetch_0 rfl (lv_at hl 1 rfl) ?_
  refine g_callS0 (As := [.int p0]) (rest := []) hx hb hml hown hts (ctX3_isRef l D cI cZ q p0) gX3_noFetch_X3_isRef rfl rfl rfl hdX3_isRef ⟨Nat.le_of_ble_eq_true rfl, Nat.le_of_ble_eq_true rfl⟩ gEM_true trivial hP hK hS hA rfl hl.1 rfl (Nat.le_of_ble_eq_true rfl) dX3_noFetch_1 ⟨Nat.zero_le _, Nat.zero_le _⟩ (fun H locs hP hS => ?_)
  refine W.eq (g2 := F0 m 4 ls [.int (xRange p0 4)]) rfl ?_
  refine lv_if_eq (tgt := 21) hx hb dX3_noFetch_4 (by decide) (fun c_4 => ?_) (fun c_4 => ?_)
  · refine lv_iconst (v := 0) hx hb dX3_noFetch_21 (by decide +kernel) ?_
    refine lv_istore_n (lv' := [(3, .int 0), (0, .ref (q 0)), (1, .int p0), (2, .int p1)]) hx hb dX3_noFetch_22 rfl hl (by decide) rfl (fun ls hl => ?_)
    refine lv_aload_n hx hb dX3_noFetch_23 rfl (lv_at hl 1 rfl) ?_
    refine lv_iload_n hx hb dX3_noFetch_24 rfl (lv_at hl 2 rfl) ?_
    refine g_callS0 (As := [.int p0]) (rest := [.ref (q 0)]) hx hb hml hown hts (ctX3_isRef l D cI cZ q p0) gX3_noFetch_X3_isRef rfl rfl rfl hdX3_isRef ⟨Nat.le_of_ble_eq_true rfl, Nat.le_of_ble_eq_true rfl⟩ gEM_true trivial hP hK hS hA rfl hl.1 rfl (Nat.le_of_ble_eq_true rfl) dX3_noFetch_25 ⟨Nat.zero_le _, Nat.zero_le _⟩ (fun H locs hP hS => ?_)
    refine W.eq (g2 := F0 m 28 ls [.int (xRange p0 4), .ref (q 0)]) rfl ?_
    refine lv_if_ne (tgt := 35) hx hb dX3_noFetch_28 (by decide) (fun c_28 => ?_) (fun c_28 => ?_)
    · exact absurd c_4 c_28
    · refine lv_iconst (v := 1) hx hb dX3_noFetch_31 (by decide +kernel) ?_
      refine lv_goto (tgt := 58) hx hb dX3_noFetch_32 (by decide) ?_
      refine g_callV (As := [.int 1]) (rest := []) hx hb hml hown hts (ctX3_refused l D cI cZ q u 1) gX3_noFetch_X3_refused rfl rfl rfl hdX3_refused ⟨Nat.le_of_ble_eq_true rfl, Nat.le_of_ble_eq_true rfl⟩ gEM_true trivial hP hK hD hS hA 0 rfl rfl rfl hl.1 rfl (Nat.le_of_ble_eq_true rfl) dX3_noFetch_58 ⟨Nat.zero_le _, Nat.zero_le _⟩ (fun H locs hP hD hS => ?_)
      obtain ⟨hP, hD⟩ := g_toPD hP hD (MW_ext (Y := (mS u 14 (fun _ => 1))) (by refine ⟨?_, ?_, ?_, ?_, ?_, ?_, ?_, ?_, ?_, ?_, ?_, ?_, ?_, ?_, ?_, ?_, ?_, ?_⟩ <;> simp only [mS_at, ↓reduceIte, Nat.reduceEqDiff] <;> rfl))
      refine W.eq (g2 := F0 m 61 ls [.int (if 1 = 0 then 0 else 1)]) rfl ?_
      refine g_zret (u1 := (mS u 14 (fun _ => 1))) hx hb hret hlk hQ hP hD hS dX3_noFetch_61 ?_ ?_ ?_
      · exact rfl
      · exact rfl
      · exact (by rw [← hz, show mNoF p0 p1 (u 5) = 1 from by unfold mNoF; rw [if_pos c_4]])
  · obtain ⟨j, hj, hj2⟩ := xRange_ne (n := 4) rfl (by omega) c_4
    have hjc : p0.toNatClampNeg = j := by rw [hj2, nI_clamp (by omega)]
    refine lv_aload_n hx hb dX3_noFetch_7 rfl (lv_at hl 0 rfl) ?_
    refine va_get (ci := 3) (v := .ref (q 6)) (C := RX3) (T := TX3) (N := 18) hx hb hts inX3_noFetch_RX3 hown hK hP 0 rfl rfl 7 (by decide) (hts _ lkX3_noFetch_26) (fun _ h9 => h9) rfl dX3_noFetch_8 ?_
    refine lv_iload_n hx hb dX3_noFetch_11 rfl (lv_at hl 1 rfl) ?_
    refine g_iald (n := 8) (f := (u 5)) hx hb hK hP 6 0 (MW_get_5 _) rfl p0.toNatClampNeg (by omega) (by omega) (by rw [hjc]; exact hj2) dX3_noFetch_12 ?_
    refine lv_iconst (v := (-1)) hx hb dX3_noFetch_13 (by decide +kernel) ?_
    refine lv_icmp_eq (tgt := 21) hx hb dX3_noFetch_14 (by decide) (fun c_14 => ?_) (fun c_14 => ?_)
    · refine lv_iconst (v := 0) hx hb dX3_noFetch_21 (by decide +kernel) ?_
      refine lv_istore_n (lv' := [(3, .int 0), (0, .ref (q 0)), (1, .int p0), (2, .int p1)]) hx hb dX3_noFetch_22 rfl hl (by decide) rfl (fun ls hl => ?_)
      refine lv_aload_n hx hb dX3_noFetch_23 rfl (lv_at hl 1 rfl) ?_
      refine lv_iload_n hx hb dX3_noFetch_24 rfl (lv_at hl 2 rfl) ?_
      refine g_callS0 (As := [.int p0]) (rest := [.ref (q 0)]) hx hb hml hown hts (ctX3_isRef l D cI cZ q p0) gX3_noFetch_X3_isRef rfl rfl rfl hdX3_isRef ⟨Nat.le_of_ble_eq_true rfl, Nat.le_of_ble_eq_true rfl⟩ gEM_true trivial hP hK hS hA rfl hl.1 rfl (Nat.le_of_ble_eq_true rfl) dX3_noFetch_25 ⟨Nat.zero_le _, Nat.zero_le _⟩ (fun H locs hP hS => ?_)
      refine W.eq (g2 := F0 m 28 ls [.int (xRange p0 4), .ref (q 0)]) rfl ?_
      refine lv_if_ne (tgt := 35) hx hb dX3_noFetch_28 (by decide) (fun c_28 => ?_) (fun c_28 => ?_)
      · refine lv_iload_n hx hb dX3_noFetch_35 rfl (lv_at hl 3 rfl) ?_
        refine lv_iconst (v := 0) hx hb dX3_noFetch_36 (by decide +kernel) ?_
        refine lv_bipush (v := 60) hx hb dX3_noFetch_37 (by decide +kernel) ?_
        refine g_callS0 (As := [.int p1, .int 0, .int 60]) (rest := [.ref (q 0)]) hx hb hml hown hts (ctX3_in l D cI cZ q p1 0 60) gX3_noFetch_X3_in rfl rfl rfl hdX3_in ⟨Nat.le_of_ble_eq_true rfl, Nat.le_of_ble_eq_true rfl⟩ gEM_true trivial hP hK hS hA rfl hl.1 rfl (Nat.le_of_ble_eq_true rfl) dX3_noFetch_39 ⟨Nat.zero_le _, Nat.zero_le _⟩ (fun H locs hP hS => ?_)
        refine W.eq (g2 := F0 m 42 ls [.int (mIn p1 0 60), .ref (q 0)]) rfl ?_
        refine lv_if_ne (tgt := 49) hx hb dX3_noFetch_42 (by decide) (fun c_42 => ?_) (fun c_42 => ?_)
        · refine lv_iload_n hx hb dX3_noFetch_49 rfl (lv_at hl 0 rfl) ?_
          refine lv_if_eq (tgt := 57) hx hb dX3_noFetch_50 (by decide) (fun c_50 => ?_) (fun c_50 => ?_)
          · refine lv_iconst (v := 3) hx hb dX3_noFetch_57 (by decide +kernel) ?_
            refine g_callV (As := [.int 3]) (rest := []) hx hb hml hown hts (ctX3_refused l D cI cZ q u 3) gX3_noFetch_X3_refused rfl rfl rfl hdX3_refused ⟨Nat.le_of_ble_eq_true rfl, Nat.le_of_ble_eq_true rfl⟩ gEM_true trivial hP hK hD hS hA 0 rfl rfl rfl hl.1 rfl (Nat.le_of_ble_eq_true rfl) dX3_noFetch_58 ⟨Nat.zero_le _, Nat.zero_le _⟩ (fun H locs hP hD hS => ?_)
            obtain ⟨hP, hD⟩ := g_toPD hP hD (MW_ext (Y := (mS u 14 (fun _ => 3))) (by refine ⟨?_, ?_, ?_, ?_, ?_, ?_, ?_, ?_, ?_, ?_, ?_, ?_, ?_, ?_, ?_, ?_, ?_, ?_⟩ <;> simp only [mS_at, ↓reduceIte, Nat.reduceEqDiff] <;> rfl))
            refine W.eq (g2 := F0 m 61 ls [.int (if 3 = 0 then 0 else 1)]) rfl ?_
            refine g_zret (u1 := (mS u 14 (fun _ => 3))) hx hb hret hlk hQ hP hD hS dX3_noFetch_61 ?_ ?_ ?_
            · exact rfl
            · exact rfl
            · exact (by rw [← hz, show mNoF p0 p1 (u 5) = 3 from by unfold mNoF; rw [if_neg c_4, if_neg c_42, if_pos c_14]])
          · exact absurd (show (0 : Int32) = 0 from rfl) c_50
        · refine lv_iconst (v := 2) hx hb dX3_noFetch_45 (by decide +kernel) ?_
          refine lv_goto (tgt := 58) hx hb dX3_noFetch_46 (by decide) ?_
          refine g_callV (As := [.int 2]) (rest := []) hx hb hml hown hts (ctX3_refused l D cI cZ q u 2) gX3_noFetch_X3_refused rfl rfl rfl hdX3_refused ⟨Nat.le_of_ble_eq_true rfl, Nat.le_of_ble_eq_true rfl⟩ gEM_true trivial hP hK hD hS hA 0 rfl rfl rfl hl.1 rfl (Nat.le_of_ble_eq_true rfl) dX3_noFetch_58 ⟨Nat.zero_le _, Nat.zero_le _⟩ (fun H locs hP hD hS => ?_)
          obtain ⟨hP, hD⟩ := g_toPD hP hD (MW_ext (Y := (mS u 14 (fun _ => 2))) (by refine ⟨?_, ?_, ?_, ?_, ?_, ?_, ?_, ?_, ?_, ?_, ?_, ?_, ?_, ?_, ?_, ?_, ?_, ?_⟩ <;> simp only [mS_at, ↓reduceIte, Nat.reduceEqDiff] <;> rfl))
          refine W.eq (g2 := F0 m 61 ls [.int (if 2 = 0 then 0 else 1)]) rfl ?_
          refine g_zret (u1 := (mS u 14 (fun _ => 2))) hx hb hret hlk hQ hP hD hS dX3_noFetch_61 ?_ ?_ ?_
          · exact rfl
          · exact rfl
          · exact (by rw [← hz, show mNoF p0 p1 (u 5) = 2 from by unfold mNoF; rw [if_neg c_4, if_pos c_42]])
      · exact absurd c_28 c_4
    · refine lv_iconst (v := 1) hx hb dX3_noFetch_17 (by decide +kernel) ?_
      refine lv_goto (tgt := 22) hx hb dX3_noFetch_18 (by decide) ?_
      refine lv_istore_n (lv' := [(3, .int 1), (0, .ref (q 0)), (1, .int p0), (2, .int p1)]) hx hb dX3_noFetch_22 rfl hl (by decide) rfl (fun ls hl => ?_)
      refine lv_aload_n hx hb dX3_noFetch_23 rfl (lv_at hl 1 rfl) ?_
      refine lv_iload_n hx hb dX3_noFetch_24 rfl (lv_at hl 2 rfl) ?_
      refine g_callS0 (As := [.int p0]) (rest := [.ref (q 0)]) hx hb hml hown hts (ctX3_isRef l D cI cZ q p0) gX3_noFetch_X3_isRef rfl rfl rfl hdX3_isRef ⟨Nat.le_of_ble_eq_true rfl, Nat.le_of_ble_eq_true rfl⟩ gEM_true trivial hP hK hS hA rfl hl.1 rfl (Nat.le_of_ble_eq_true rfl) dX3_noFetch_25 ⟨Nat.zero_le _, Nat.zero_le _⟩ (fun H locs hP hS => ?_)
      refine W.eq (g2 := F0 m 28 ls [.int (xRange p0 4), .ref (q 0)]) rfl ?_
      refine lv_if_ne (tgt := 35) hx hb dX3_noFetch_28 (by decide) (fun c_28 => ?_) (fun c_28 => ?_)
      · refine lv_iload_n hx hb dX3_noFetch_35 rfl (lv_at hl 3 rfl) ?_
        refine lv_iconst (v := 0) hx hb dX3_noFetch_36 (by decide +kernel) ?_
        refine lv_bipush (v := 60) hx hb dX3_noFetch_37 (by decide +kernel) ?_
        refine g_callS0 (As := [.int p1, .int 0, .int 60]) (rest := [.ref (q 0)]) hx hb hml hown hts (ctX3_in l D cI cZ q p1 0 60) gX3_noFetch_X3_in rfl rfl rfl hdX3_in ⟨Nat.le_of_ble_eq_true rfl, Nat.le_of_ble_eq_true rfl⟩ gEM_true trivial hP hK hS hA rfl hl.1 rfl (Nat.le_of_ble_eq_true rfl) dX3_noFetch_39 ⟨Nat.zero_le _, Nat.zero_le _⟩ (fun H locs hP hS => ?_)
        refine W.eq (g2 := F0 m 42 ls [.int (mIn p1 0 60), .ref (q 0)]) rfl ?_
        refine lv_if_ne (tgt := 49) hx hb dX3_noFetch_42 (by decide) (fun c_42 => ?_) (fun c_42 => ?_)
        · refine lv_iload_n hx hb dX3_noFetch_49 rfl (lv_at hl 0 rfl) ?_
          refine lv_if_eq (tgt := 57) hx hb dX3_noFetch_50 (by decide) (fun c_50 => ?_) (fun c_50 => ?_)
          · exact absurd c_50 (by decide)
          · refine lv_iconst (v := 0) hx hb dX3_noFetch_53 (by decide +kernel) ?_
            refine lv_goto (tgt := 58) hx hb dX3_noFetch_54 (by decide) ?_
            refine g_callV (As := [.int 0]) (rest := []) hx hb hml hown hts (ctX3_refused l D cI cZ q u 0) gX3_noFetch_X3_refused rfl rfl rfl hdX3_refused ⟨Nat.le_of_ble_eq_true rfl, Nat.le_of_ble_eq_true rfl⟩ gEM_true trivial hP hK hD hS hA 0 rfl rfl rfl hl.1 rfl (Nat.le_of_ble_eq_true rfl) dX3_noFetch_58 ⟨Nat.zero_le _, Nat.zero_le _⟩ (fun H locs hP hD hS => ?_)
            obtain ⟨hP, hD⟩ := g_toPD hP hD (MW_ext (Y := (mS u 14 (fun _ => 0))) (by refine ⟨?_, ?_, ?_, ?_, ?_, ?_, ?_, ?_, ?_, ?_, ?_, ?_, ?_, ?_, ?_, ?_, ?_, ?_⟩ <;> simp only [mS_at, ↓reduceIte, Nat.reduceEqDiff] <;> rfl))
            refine W.eq (g2 := F0 m 61 ls [.int (if 0 = 0 then 0 else 1)]) rfl ?_
            refine g_zret (u1 := (mS u 14 (fun _ => 0))) hx hb hret hlk hQ hP hD hS dX3_noFetch_61 ?_ ?_ ?_
            · exact rfl
            · exact (absurd (hz.symm.trans (by unfold mNoF; rw [if_neg c_4, if_neg c_42, if_neg c_14])) hz0)
            · exact (absurd (hz.symm.trans (by unfold mNoF; rw [if_neg c_4, if_neg c_42, if_neg c_14])) hz0)
        · refine lv_iconst (v := 2) hx hb dX3_noFetch_45 (by decide +kernel) ?_
          refine lv_goto (tgt := 58) hx hb dX3_noFetch_46 (by decide) ?_
          refine g_callV (As := [.int 2]) (rest := []) hx hb hml hown hts (ctX3_refused l D cI cZ q u 2) gX3_noFetch_X3_refused rfl rfl rfl hdX3_refused ⟨Nat.le_of_ble_eq_true rfl, Nat.le_of_ble_eq_true rfl⟩ gEM_true trivial hP hK hD hS hA 0 rfl rfl rfl hl.1 rfl (Nat.le_of_ble_eq_true rfl) dX3_noFetch_58 ⟨Nat.zero_le _, Nat.zero_le _⟩ (fun H locs hP hD hS => ?_)
          obtain ⟨hP, hD⟩ := g_toPD hP hD (MW_ext (Y := (mS u 14 (fun _ => 2))) (by refine ⟨?_, ?_, ?_, ?_, ?_, ?_, ?_, ?_, ?_, ?_, ?_, ?_, ?_, ?_, ?_, ?_, ?_, ?_⟩ <;> simp only [mS_at, ↓reduceIte, Nat.reduceEqDiff] <;> rfl))
          refine W.eq (g2 := F0 m 61 ls [.int (if 2 = 0 then 0 else 1)]) rfl ?_
          refine g_zret (u1 := (mS u 14 (fun _ => 2))) hx hb hret hlk hQ hP hD hS dX3_noFetch_61 ?_ ?_ ?_
          · exact rfl
          · exact rfl
          · exact (by rw [← hz, show mNoF p0 p1 (u 5) = 2 from by unfold mNoF; rw [if_neg c_4, if_pos c_42]])
      · exact absurd c_28 c_4
theorem lkX3_fetch_19 : Cond.fieldLink RX3 19 "FetchHouseModel" "hasCommit" "[Z" ∈ wsX3_fetch := List.mem_of_getElem? (i := 5) (by decide +kernel)
theorem lkX3_fetch_26 : Cond.fieldLink RX3 26 "FetchHouseModel" "refs" "[I" ∈ wsX3_fetch := List.mem_of_getElem? (i := 1) (by decide +kernel)
theorem lkX3_fetch_41 : Cond.fieldLink RX3 41 "FetchHouseModel" "marks" "[Z" ∈ wsX3_fetch := List.mem_of_getElem? (i := 3) (by decide +kernel)
theorem lkX3_fetch_44 : Cond.fieldLink RX3 44 "FetchHouseModel" "isCommon" "[Z" ∈ wsX3_fetch := List.mem_of_getElem? (i := 4) (by decide +kernel)
theorem lkX3_fetch_61 : Cond.fieldLink RX3 61 "FetchHouseModel" "made" "I" ∈ wsX3_fetch := List.mem_of_getElem? (i := 2) (by decide +kernel)
theorem inX3_fetch_RX3 : ∀ w ∈ u_ws RX3 TX3 18, w ∈ wsX3_fetch := fun w h => List.mem_cons_of_mem _ (List.mem_append_right _ h)
abbrev rmX3_fetch : Room := { frames := 8, cells := 0, slots := 0, locals := 175 }
set_option maxHeartbeats 4000000 in
set_option maxRecDepth 100000 in
theorem ctX3_fetch (l : Launch) (D : va_G) (cI cZ : ClassId) (q : Nat → Nat) (u : SM) (n : Nat) (hn : u 15 0 = nI n) (h60 : n ≤ 60) (hfi : ∀ k, k < n → (u 0 k = -1 ∨ ∃ j, j < 60 ∧ u 0 k = nI j)) (hse : ∀ k, k < n → (u 1 k = -1 ∨ ∃ j, j < 60 ∧ u 1 k = nI j)) (hsl : ∀ k, k < 4 * n → (u 2 k = -1 ∨ ∃ f, f < 100 ∧ u 2 k = nI f)) (r : Nat) (hr4 : r < 4) (p1 p2 : Int32) (h2 : ¬ mIn p1 0 60 = 0) (j0 : Nat) (hj0 : j0 < n) (hrj : u 5 r = nI j0) : gM l yX3_fetch wsX3_fetch rmX3_fetch D [(cI, .int), (cZ, .boolean)] (MW cI cZ q) (fun _ => True) [.ref (q 0), .int (nI r), .int p1, .int p2] u (some (.int (mFetch n (mReach n (u 3) (u 0) (u 1) (mTalk n (u 3) (u 0) (u 1) (u 10) (u 11) (u 12)).2.1 (u 13) j0 p1).1 (mTalk n (u 3) (u 0) (u 1) (u 10) (u 11) (u 12)).2.2.1 (u 2) p2 (u 3) (u 4)).1)) (mS (mS (mS (mS (mS (mS (mS (mS (mS (mS u 14 (fun _ => 0)) 10 (mTalk n (u 3) (u 0) (u 1) (u 10) (u 11) (u 12)).2.1) 11 (mTalk n (u 3) (u 0) (u 1) (u 10) (u 11) (u 12)).2.2.1) 12 (mTalk n (u 3) (u 0) (u 1) (u 10) (u 11) (u 12)).2.2.2) 17 (fun _ => (nI (mTalk n (u 3) (u 0) (u 1) (u 10) (u 11) (u 12)).1))) 10 (mReach n (u 3) (u 0) (u 1) (mTalk n (u 3) (u 0) (u 1) (u 10) (u 11) (u 12)).2.1 (u 13) j0 p1).1) 13 (mReach n (u 3) (u 0) (u 1) (mTalk n (u 3) (u 0) (u 1) (u 10) (u 11) (u 12)).2.1 (u 13) j0 p1).2) 3 (mFetch n (mReach n (u 3) (u 0) (u 1) (mTalk n (u 3) (u 0) (u 1) (u 10) (u 11) (u 12)).2.1 (u 13) j0 p1).1 (mTalk n (u 3) (u 0) (u 1) (u 10) (u 11) (u 12)).2.2.1 (u 2) p2 (u 3) (u 4)).2.1) 4 (mFetch n (mReach n (u 3) (u 0) (u 1) (mTalk n (u 3) (u 0) (u 1) (u 10) (u 11) (u 12)).2.1 (u 13) j0 p1).1 (mTalk n (u 3) (u 0) (u 1) (u 10) (u 11) (u 12)).2.2.1 (u 2) p2 (u 3) (u 4)).2.2) 5 (upd (u 5) (4 + r) (u 5 r))) := by
  refine g_start (cc := cX3_fetch) (maxL := 6) (ret := (some .int)) (by decide) rfl (Nat.le_of_ble_eq_true rfl) ?_
  intro p e s m below meth c A ls Q hx hb hml hret hts hown hlk hE hP hK hD hA hl hQ hS
  have hown : s.vm.findClass RX3 = some m.cls := hown
  have hl : lv_has ls 6 [(0, .ref (q 0)), (1, .int (nI r)), (2, .int p1), (3, .int p2)] := hl
  refine lv_aload_n hx hb dX3_fetch_0 rfl (lv_at hl 0 rfl) ?_
  refine lv_iload_n hx hb dX3_fetch_1 rfl (lv_at hl 1 rfl) ?_
  refine lv_iload_n hx hb dX3_fetch_2 rfl (lv_at hl 2 rfl) ?_
  refine g_callV (As := [.int (nI r), .int p1]) (rest := []) hx hb hml hown hts (ctX3_noFetch l D cI cZ q u n hn h60 r hr4 p1 h2 j0 hj0 hrj) gX3_fetch_X3_noFetch rfl rfl rfl hdX3_noFetch ⟨Nat.le_of_ble_eq_true rfl, Nat.le_of_ble_eq_true rfl⟩ gEM_true trivial hP hK hD hS hA 0 rfl rfl rfl hl.1 rfl (Nat.le_of_ble_eq_true rfl) dX3_fetch_3 ⟨Nat.zero_le _, Nat.zero_le _⟩ (fun H locs hP hD hS => ?_)
  obtain ⟨hP, hD⟩ := g_toPD hP hD (MW_ext (Y := (mS u 14 (fun _ => 0))) (by refine ⟨?_, ?_, ?_, ?_, ?_, ?_, ?_, ?_, ?_, ?_, ?_, ?_, ?_, ?_, ?_, ?_, ?_, ?_⟩ <;> simp only [mS_at, ↓reduceIte, Nat.reduceEqDiff] <;> rfl))
  refine W.eq (g2 := F0 m 6 ls [.int 0]) rfl ?_
  refine lv_if_eq (tgt := 11) hx hb dX3_fetch_6 (by decide) (fun c_6 => ?_) (fun c_6 => ?_)
  · refine lv_aload_n hx hb dX3_fetch_11 rfl (lv_at hl 0 rfl) ?_
    refine g_callV (As := []) (rest := []) hx hb hml hown hts (ctX3_talk l D cI cZ q (mS u 14 (fun _ => 0)) n hn h60) gX3_fetch_X3_talk rfl rfl rfl hdX3_talk ⟨Nat.le_of_ble_eq_true rfl, Nat.le_of_ble_eq_true rfl⟩ gEM_true trivial hP hK hD hS hA 0 rfl rfl rfl hl.1 rfl (Nat.le_of_ble_eq_true rfl) dX3_fetch_12 ⟨Nat.zero_le _, Nat.zero_le _⟩ (fun H locs hP hD hS => ?_)
    obtain ⟨hP, hD⟩ := g_toPD hP hD (MW_ext (Y := (mS (mS (mS (mS (mS u 14 (fun _ => 0)) 10 (mTalk n (u 3) (u 0) (u 1) (u 10) (u 11) (u 12)).2.1) 11 (mTalk n (u 3) (u 0) (u 1) (u 10) (u 11) (u 12)).2.2.1) 12 (mTalk n (u 3) (u 0) (u 1) (u 10) (u 11) (u 12)).2.2.2) 17 (fun _ => (nI (mTalk n (u 3) (u 0) (u 1) (u 10) (u 11) (u 12)).1)))) (by refine ⟨?_, ?_, ?_, ?_, ?_, ?_, ?_, ?_, ?_, ?_, ?_, ?_, ?_, ?_, ?_, ?_, ?_, ?_⟩ <;> simp only [mS_at, ↓reduceIte, Nat.reduceEqDiff] <;> rfl))
    refine W.eq (g2 := F0 m 15 ls []) rfl ?_
    refine lv_aload_n hx hb dX3_fetch_15 rfl (lv_at hl 0 rfl) ?_
    refine lv_aload_n hx hb dX3_fetch_16 rfl (lv_at hl 0 rfl) ?_
    refine va_get (ci := 3) (v := .ref (q 6)) (C := RX3) (T := TX3) (N := 18) hx hb hts inX3_fetch_RX3 hown hK hP 0 rfl rfl 7 (by decide) (hts _ lkX3_fetch_26) (fun _ h9 => h9) rfl dX3_fetch_17 ?_
    refine lv_iload_n hx hb dX3_fetch_20 rfl (lv_at hl 1 rfl) ?_
    refine g_iald (n := 8) (f := (u 5)) hx hb hK hP 6 0 (by rw [MW_get_5, show (mS (mS (mS (mS (mS u 14 (fun _ => 0)) 10 (mTalk n (u 3) (u 0) (u 1) (u 10) (u 11) (u 12)).2.1) 11 (mTalk n (u 3) (u 0) (u 1) (u 10) (u 11) (u 12)).2.2.1) 12 (mTalk n (u 3) (u 0) (u 1) (u 10) (u 11) (u 12)).2.2.2) 17 (fun _ => (nI (mTalk n (u 3) (u 0) (u 1) (u 10) (u 11) (u 12)).1))) 5 = (u 5) from by simp only [mS_at, ↓reduceIte, Nat.reduceEqDiff]]) rfl r (by omega) (by omega) rfl dX3_fetch_21 ?_
    refine W.eq (g2 := F0 m 22 ls [.int (nI j0), .ref (q 0)]) (by rw [hrj]) ?_
    refine lv_iload_n hx hb dX3_fetch_22 rfl (lv_at hl 2 rfl) ?_
    refine g_callV (As := [.int (nI j0), .int p1]) (rest := []) hx hb hml hown hts (ctX3_reach l D cI cZ q (mS (mS (mS (mS (mS u 14 (fun _ => 0)) 10 (mTalk n (u 3) (u 0) (u 1) (u 10) (u 11) (u 12)).2.1) 11 (mTalk n (u 3) (u 0) (u 1) (u 10) (u 11) (u 12)).2.2.1) 12 (mTalk n (u 3) (u 0) (u 1) (u 10) (u 11) (u 12)).2.2.2) 17 (fun _ => (nI (mTalk n (u 3) (u 0) (u 1) (u 10) (u 11) (u 12)).1))) n hn h60 hfi hse j0 hj0 p1) gX3_fetch_X3_reach rfl rfl rfl hdX3_reach ⟨Nat.le_of_ble_eq_true rfl, Nat.le_of_ble_eq_true rfl⟩ gEM_true trivial hP hK hD hS hA 0 rfl rfl rfl hl.1 rfl (Nat.le_of_ble_eq_true rfl) dX3_fetch_23 ⟨Nat.zero_le _, Nat.zero_le _⟩ (fun H locs hP hD hS => ?_)
    obtain ⟨hP, hD⟩ := g_toPD hP hD (MW_ext (Y := (mS (mS (mS (mS (mS (mS (mS u 14 (fun _ => 0)) 10 (mTalk n (u 3) (u 0) (u 1) (u 10) (u 11) (u 12)).2.1) 11 (mTalk n (u 3) (u 0) (u 1) (u 10) (u 11) (u 12)).2.2.1) 12 (mTalk n (u 3) (u 0) (u 1) (u 10) (u 11) (u 12)).2.2.2) 17 (fun _ => (nI (mTalk n (u 3) (u 0) (u 1) (u 10) (u 11) (u 12)).1))) 10 (mReach n (u 3) (u 0) (u 1) (mTalk n (u 3) (u 0) (u 1) (u 10) (u 11) (u 12)).2.1 (u 13) j0 p1).1) 13 (mReach n (u 3) (u 0) (u 1) (mTalk n (u 3) (u 0) (u 1) (u 10) (u 11) (u 12)).2.1 (u 13) j0 p1).2)) (by refine ⟨?_, ?_, ?_, ?_, ?_, ?_, ?_, ?_, ?_, ?_, ?_, ?_, ?_, ?_, ?_, ?_, ?_, ?_⟩ <;> simp only [mS_at, ↓reduceIte, Nat.reduceEqDiff] <;> rfl))
    refine W.eq (g2 := F0 m 26 ls []) rfl ?_
    refine lv_iconst (v := 0) hx hb dX3_fetch_26 (by decide +kernel) ?_
    refine lv_istore (lv' := [(4, .int 0), (0, .ref (q 0)), (1, .int (nI r)), (2, .int p1), (3, .int p2)]) hx hb dX3_fetch_27 hl (by decide) rfl (fun ls hl => ?_)
    refine lv_iconst (v := (nI 0)) hx hb dX3_fetch_29 (by decide +kernel) ?_
    refine lv_istore (lv' := [(5, .int (nI 0)), (4, .int 0), (0, .ref (q 0)), (1, .int (nI r)), (2, .int p1), (3, .int p2)]) hx hb dX3_fetch_30 hl (by decide) rfl (fun ls hl => ?_)
    have loop : ∀ (d k : Nat) (cn : Int32) (hc hf : Nat → Int32) (H : Heap) (locs : List Loc) (ls : Array Slot) (hP : va_P D vwCl (MW cI cZ q (mS (mS (mS (mS (mS (mS (mS (mS u 3 hc) 4 hf) 10 (mReach n (u 3) (u 0) (u 1) (mTalk n (u 3) (u 0) (u 1) (u 10) (u 11) (u 12)).2.1 (u 13) j0 p1).1) 11 (mTalk n (u 3) (u 0) (u 1) (u 10) (u 11) (u 12)).2.2.1) 12 (mTalk n (u 3) (u 0) (u 1) (u 10) (u 11) (u 12)).2.2.2) 13 (mReach n (u 3) (u 0) (u 1) (mTalk n (u 3) (u 0) (u 1) (u 10) (u 11) (u 12)).2.1 (u 13) j0 p1).2) 14 (fun _ => 0)) 17 (fun _ => (nI (mTalk n (u 3) (u 0) (u 1) (u 10) (u 11) (u 12)).1)))) H) (hD : va_D A (MW cI cZ q (mS (mS (mS (mS (mS (mS (mS (mS u 3 hc) 4 hf) 10 (mReach n (u 3) (u 0) (u 1) (mTalk n (u 3) (u 0) (u 1) (u 10) (u 11) (u 12)).2.1 (u 13) j0 p1).1) 11 (mTalk n (u 3) (u 0) (u 1) (u 10) (u 11) (u 12)).2.2.1) 12 (mTalk n (u 3) (u 0) (u 1) (u 10) (u 11) (u 12)).2.2.2) 13 (mReach n (u 3) (u 0) (u 1) (mTalk n (u 3) (u 0) (u 1) (u 10) (u 11) (u 12)).2.1 (u 13) j0 p1).2) 14 (fun _ => 0)) 17 (fun _ => (nI (mTalk n (u 3) (u 0) (u 1) (u 10) (u 11) (u 12)).1))))) (hS : va_S A s.heap H locs) (hl : lv_has ls 6 [(0, .ref (q 0)), (1, .int (nI r)), (2, .int p1), (3, .int p2), (4, .int cn), (5, .int (nI k))]) (hk : k + d = n) (hr : itU (mFetchStep n (mReach n (u 3) (u 0) (u 1) (mTalk n (u 3) (u 0) (u 1) (u 10) (u 11) (u 12)).2.1 (u 13) j0 p1).1 (mTalk n (u 3) (u 0) (u 1) (u 10) (u 11) (u 12)).2.2.1 (u 2) p2) d k (cn, hc, hf) = (mFetch n (mReach n (u 3) (u 0) (u 1) (mTalk n (u 3) (u 0) (u 1) (u 10) (u 11) (u 12)).2.1 (u 13) j0 p1).1 (mTalk n (u 3) (u 0) (u 1) (u 10) (u 11) (u 12)).2.2.1 (u 2) p2 (u 3) (u 4))), W p l e rmX3_fetch s m ([.ref (q 0), .int (nI r), .int p1, .int p2] : List Value).toArray below meth c H locs 0 0 Q (F0 m 32 ls []) := by
      intro d
      induction d with
      | zero =>
        intro k cn hc hf H locs ls hP hD hS hl hk hr
        refine lv_iload hx hb dX3_fetch_32 (lv_at hl 5 rfl) ?_
        refine lv_aload_n hx hb dX3_fetch_34 rfl (lv_at hl 0 rfl) ?_
        refine va_get (ci := 3) (v := .int (nI n)) (C := RX3) (T := TX3) (N := 18) hx hb hts inX3_fetch_RX3 hown hK hP 0 rfl rfl 1 (by decide) (hts _ lkX3_fetch_61) (fun _ h9 => h9) (congrArg (fun z => some (Value.int z)) hn) dX3_fetch_35 ?_
        refine lv_icmp_ge (tgt := 107) hx hb dX3_fetch_38 (by decide) (fun c_38 => ?_) (fun c_38 => ?_)
        · have n_38 : n ≤ k := (g_leI (a := n) (b := k) rfl rfl (by omega) (by omega)).mp c_38
          refine lv_aload_n hx hb dX3_fetch_107 rfl (lv_at hl 0 rfl) ?_
          refine va_get (ci := 3) (v := .ref (q 6)) (C := RX3) (T := TX3) (N := 18) hx hb hts inX3_fetch_RX3 hown hK hP 0 rfl rfl 7 (by decide) (hts _ lkX3_fetch_26) (fun _ h9 => h9) rfl dX3_fetch_108 ?_
          refine lv_iconst (v := 4) hx hb dX3_fetch_111 (by decide +kernel) ?_
          refine lv_iload_n hx hb dX3_fetch_112 rfl (lv_at hl 1 rfl) ?_
          refine lv_iadd hx hb dX3_fetch_113 ?_
          refine lv_aload_n hx hb dX3_fetch_114 rfl (lv_at hl 0 rfl) ?_
          refine va_get (ci := 3) (v := .ref (q 6)) (C := RX3) (T := TX3) (N := 18) hx hb hts inX3_fetch_RX3 hown hK hP 0 rfl rfl 7 (by decide) (hts _ lkX3_fetch_26) (fun _ h9 => h9) rfl dX3_fetch_115 ?_
          refine lv_iload_n hx hb dX3_fetch_118 rfl (lv_at hl 1 rfl) ?_
          refine g_iald (n := 8) (f := (u 5)) hx hb hK hP 6 0 (by rw [MW_get_5, show (mS (mS (mS (mS (mS (mS (mS (mS u 3 hc) 4 hf) 10 (mReach n (u 3) (u 0) (u 1) (mTalk n (u 3) (u 0) (u 1) (u 10) (u 11) (u 12)).2.1 (u 13) j0 p1).1) 11 (mTalk n (u 3) (u 0) (u 1) (u 10) (u 11) (u 12)).2.2.1) 12 (mTalk n (u 3) (u 0) (u 1) (u 10) (u 11) (u 12)).2.2.2) 13 (mReach n (u 3) (u 0) (u 1) (mTalk n (u 3) (u 0) (u 1) (u 10) (u 11) (u 12)).2.1 (u 13) j0 p1).2) 14 (fun _ => 0)) 17 (fun _ => (nI (mTalk n (u 3) (u 0) (u 1) (u 10) (u 11) (u 12)).1))) 5 = (u 5) from by simp only [mS_at, ↓reduceIte, Nat.reduceEqDiff]]) rfl r (by omega) (by omega) rfl dX3_fetch_119 ?_
          refine g_iast (n := 8) (f := (u 5)) (u' := (mS (mS (mS (mS (mS (mS (mS (mS (mS u 3 hc) 4 hf) 10 (mReach n (u 3) (u 0) (u 1) (mTalk n (u 3) (u 0) (u 1) (u 10) (u 11) (u 12)).2.1 (u 13) j0 p1).1) 11 (mTalk n (u 3) (u 0) (u 1) (u 10) (u 11) (u 12)).2.2.1) 12 (mTalk n (u 3) (u 0) (u 1) (u 10) (u 11) (u 12)).2.2.2) 13 (mReach n (u 3) (u 0) (u 1) (mTalk n (u 3) (u 0) (u 1) (u 10) (u 11) (u 12)).2.1 (u 13) j0 p1).2) 14 (fun _ => 0)) 17 (fun _ => (nI (mTalk n (u 3) (u 0) (u 1) (u 10) (u 11) (u 12)).1))) 5 (upd (u 5) (4 + r) ((u 5) r)))) hx hb hK hP hD hS 6 0 (by rw [MW_get_5, show (mS (mS (mS (mS (mS (mS (mS (mS u 3 hc) 4 hf) 10 (mReach n (u 3) (u 0) (u 1) (mTalk n (u 3) (u 0) (u 1) (u 10) (u 11) (u 12)).2.1 (u 13) j0 p1).1) 11 (mTalk n (u 3) (u 0) (u 1) (u 10) (u 11) (u 12)).2.2.1) 12 (mTalk n (u 3) (u 0) (u 1) (u 10) (u 11) (u 12)).2.2.2) 13 (mReach n (u 3) (u 0) (u 1) (mTalk n (u 3) (u 0) (u 1) (u 10) (u 11) (u 12)).2.1 (u 13) j0 p1).2) 14 (fun _ => 0)) 17 (fun _ => (nI (mTalk n (u 3) (u 0) (u 1) (u 10) (u 11) (u 12)).1))) 5 = (u 5) from by simp only [mS_at, ↓reduceIte, Nat.reduceEqDiff]]) rfl (4 + r) (by omega) (by omega) (g_addE rfl rfl) (MW_set_5 _ _) dX3_fetch_120 (fun H locs hP hD hS => ?_)
          refine lv_iload hx hb dX3_fetch_121 (lv_at hl 4 rfl) ?_
          refine g_iret (u1 := (mS (mS (mS (mS (mS (mS (mS (mS (mS u 3 hc) 4 hf) 10 (mReach n (u 3) (u 0) (u 1) (mTalk n (u 3) (u 0) (u 1) (u 10) (u 11) (u 12)).2.1 (u 13) j0 p1).1) 11 (mTalk n (u 3) (u 0) (u 1) (u 10) (u 11) (u 12)).2.2.1) 12 (mTalk n (u 3) (u 0) (u 1) (u 10) (u 11) (u 12)).2.2.2) 13 (mReach n (u 3) (u 0) (u 1) (mTalk n (u 3) (u 0) (u 1) (u 10) (u 11) (u 12)).2.1 (u 13) j0 p1).2) 14 (fun _ => 0)) 17 (fun _ => (nI (mTalk n (u 3) (u 0) (u 1) (u 10) (u 11) (u 12)).1))) 5 (upd (u 5) (4 + r) ((u 5) r)))) hx hb hret hlk hQ hP hD hS dX3_fetch_123 ?_ ?_
          · exact (by rw [← hr]; rfl)
          · exact (by rw [← hr] <;> exact (MW_ext (by refine ⟨?_, ?_, ?_, ?_, ?_, ?_, ?_, ?_, ?_, ?_, ?_, ?_, ?_, ?_, ?_, ?_, ?_, ?_⟩ <;> simp only [mS_at, ↓reduceIte, Nat.reduceEqDiff] <;> rfl)))
        · have n_38 : ¬ n ≤ k := fun h => c_38 ((g_leI (a := n) (b := k) rfl rfl (by omega) (by omega)).mpr h)
          exfalso; omega
      | succ d ih =>
        intro k cn hc hf H locs ls hP hD hS hl hk hr
        refine lv_iload hx hb dX3_fetch_32 (lv_at hl 5 rfl) ?_
        refine lv_aload_n hx hb dX3_fetch_34 rfl (lv_at hl 0 rfl) ?_
        refine va_get (ci := 3) (v := .int (nI n)) (C := RX3) (T := TX3) (N := 18) hx hb hts inX3_fetch_RX3 hown hK hP 0 rfl rfl 1 (by decide) (hts _ lkX3_fetch_61) (fun _ h9 => h9) (congrArg (fun z => some (Value.int z)) hn) dX3_fetch_35 ?_
        refine lv_icmp_ge (tgt := 107) hx hb dX3_fetch_38 (by decide) (fun c_38 => ?_) (fun c_38 => ?_)
        · have n_38 : n ≤ k := (g_leI (a := n) (b := k) rfl rfl (by omega) (by omega)).mp c_38
          exfalso; omega
        · have n_38 : ¬ n ≤ k := fun h => c_38 ((g_leI (a := n) (b := k) rfl rfl (by omega) (by omega)).mpr h)
          refine lv_aload_n hx hb dX3_fetch_41 rfl (lv_at hl 0 rfl) ?_
          refine va_get (ci := 3) (v := .ref (q 11)) (C := RX3) (T := TX3) (N := 18) hx hb hts inX3_fetch_RX3 hown hK hP 0 rfl rfl 14 (by decide) (hts _ lkX3_fetch_41) (fun _ h9 => h9) rfl dX3_fetch_42 ?_
          refine lv_iload hx hb dX3_fetch_45 (lv_at hl 5 rfl) ?_
          refine g_zald (n := 60) (f := (mReach n (u 3) (u 0) (u 1) (mTalk n (u 3) (u 0) (u 1) (u 10) (u 11) (u 12)).2.1 (u 13) j0 p1).1) hx hb hK hP 11 1 (by rw [MW_get_10, show (mS (mS (mS (mS (mS (mS (mS (mS u 3 hc) 4 hf) 10 (mReach n (u 3) (u 0) (u 1) (mTalk n (u 3) (u 0) (u 1) (u 10) (u 11) (u 12)).2.1 (u 13) j0 p1).1) 11 (mTalk n (u 3) (u 0) (u 1) (u 10) (u 11) (u 12)).2.2.1) 12 (mTalk n (u 3) (u 0) (u 1) (u 10) (u 11) (u 12)).2.2.2) 13 (mReach n (u 3) (u 0) (u 1) (mTalk n (u 3) (u 0) (u 1) (u 10) (u 11) (u 12)).2.1 (u 13) j0 p1).2) 14 (fun _ => 0)) 17 (fun _ => (nI (mTalk n (u 3) (u 0) (u 1) (u 10) (u 11) (u 12)).1))) 10 = (mReach n (u 3) (u 0) (u 1) (mTalk n (u 3) (u 0) (u 1) (u 10) (u 11) (u 12)).2.1 (u 13) j0 p1).1 from by simp only [mS_at, ↓reduceIte, Nat.reduceEqDiff]]) rfl k (by omega) (by omega) rfl dX3_fetch_47 ?_
          refine lv_if_eq (tgt := 101) hx hb dX3_fetch_48 (by decide) (fun c_48 => ?_) (fun c_48 => ?_)
          · refine lv_iinc (v := (nI (k + 1))) (lv' := [(5, .int (nI (k + 1))), (0, .ref (q 0)), (1, .int (nI r)), (2, .int p1), (3, .int p2), (4, .int cn)]) hx hb dX3_fetch_101 hl (k := 5) rfl (nI_1 _) (by decide) rfl (fun ls hl => ?_)
            refine lv_goto (tgt := 32) hx hb dX3_fetch_104 (by decide) ?_
            exact ih (k + 1) cn hc hf _ _ _ hP hD hS (lv_sub hl [1, 2, 3, 4, 5, 0] rfl) (by omega) (by rw [← hr]; show _ = itU _ d (k + 1) (mFetchStep _ _ _ _ _ k (cn, hc, hf)); rw [show mFetchStep n (mReach n (u 3) (u 0) (u 1) (mTalk n (u 3) (u 0) (u 1) (u 10) (u 11) (u 12)).2.1 (u 13) j0 p1).1 (mTalk n (u 3) (u 0) (u 1) (u 10) (u 11) (u 12)).2.2.1 (u 2) p2 k (cn, hc, hf) = (cn, hc, hf) from by unfold mFetchStep; rw [if_pos c_48]])
          · refine lv_aload_n hx hb dX3_fetch_51 rfl (lv_at hl 0 rfl) ?_
            refine va_get (ci := 3) (v := .ref (q 12)) (C := RX3) (T := TX3) (N := 18) hx hb hts inX3_fetch_RX3 hown hK hP 0 rfl rfl 15 (by decide) (hts _ lkX3_fetch_44) (fun _ h9 => h9) rfl dX3_fetch_52 ?_
            refine lv_iload hx hb dX3_fetch_55 (lv_at hl 5 rfl) ?_
            refine g_zald (n := 60) (f := (mTalk n (u 3) (u 0) (u 1) (u 10) (u 11) (u 12)).2.2.1) hx hb hK hP 12 1 (by rw [MW_get_11, show (mS (mS (mS (mS (mS (mS (mS (mS u 3 hc) 4 hf) 10 (mReach n (u 3) (u 0) (u 1) (mTalk n (u 3) (u 0) (u 1) (u 10) (u 11) (u 12)).2.1 (u 13) j0 p1).1) 11 (mTalk n (u 3) (u 0) (u 1) (u 10) (u 11) (u 12)).2.2.1) 12 (mTalk n (u 3) (u 0) (u 1) (u 10) (u 11) (u 12)).2.2.2) 13 (mReach n (u 3) (u 0) (u 1) (mTalk n (u 3) (u 0) (u 1) (u 10) (u 11) (u 12)).2.1 (u 13) j0 p1).2) 14 (fun _ => 0)) 17 (fun _ => (nI (mTalk n (u 3) (u 0) (u 1) (u 10) (u 11) (u 12)).1))) 11 = (mTalk n (u 3) (u 0) (u 1) (u 10) (u 11) (u 12)).2.2.1 from by simp only [mS_at, ↓reduceIte, Nat.reduceEqDiff]]) rfl k (by omega) (by omega) rfl dX3_fetch_57 ?_
            refine lv_if_ne (tgt := 101) hx hb dX3_fetch_58 (by decide) (fun c_58 => ?_) (fun c_58 => ?_)
            · refine lv_iinc (v := (nI (k + 1))) (lv' := [(5, .int (nI (k + 1))), (0, .ref (q 0)), (1, .int (nI r)), (2, .int p1), (3, .int p2), (4, .int cn)]) hx hb dX3_fetch_101 hl (k := 5) rfl (nI_1 _) (by decide) rfl (fun ls hl => ?_)
              refine lv_goto (tgt := 32) hx hb dX3_fetch_104 (by decide) ?_
              exact ih (k + 1) cn hc hf _ _ _ hP hD hS (lv_sub hl [1, 2, 3, 4, 5, 0] rfl) (by omega) (by rw [← hr]; show _ = itU _ d (k + 1) (mFetchStep _ _ _ _ _ k (cn, hc, hf)); rw [show mFetchStep n (mReach n (u 3) (u 0) (u 1) (mTalk n (u 3) (u 0) (u 1) (u 10) (u 11) (u 12)).2.1 (u 13) j0 p1).1 (mTalk n (u 3) (u 0) (u 1) (u 10) (u 11) (u 12)).2.2.1 (u 2) p2 k (cn, hc, hf) = (cn, hc, hf) from by unfold mFetchStep; rw [if_neg c_48, if_neg c_58]])
            · refine lv_iload hx hb dX3_fetch_61 (lv_at hl 4 rfl) ?_
              refine lv_aload_n hx hb dX3_fetch_63 rfl (lv_at hl 0 rfl) ?_
              refine lv_iconst (v := 1) hx hb dX3_fetch_64 (by decide +kernel) ?_
              refine lv_iload hx hb dX3_fetch_65 (lv_at hl 5 rfl) ?_
              refine g_callV (As := [.int 1, .int (nI k)]) (rest := [.int cn]) hx hb hml hown hts (ctX3_isIn_1 l D cI cZ q (mS (mS (mS (mS (mS (mS (mS (mS u 3 hc) 4 hf) 10 (mReach n (u 3) (u 0) (u 1) (mTalk n (u 3) (u 0) (u 1) (u 10) (u 11) (u 12)).2.1 (u 13) j0 p1).1) 11 (mTalk n (u 3) (u 0) (u 1) (u 10) (u 11) (u 12)).2.2.1) 12 (mTalk n (u 3) (u 0) (u 1) (u 10) (u 11) (u 12)).2.2.2) 13 (mReach n (u 3) (u 0) (u 1) (mTalk n (u 3) (u 0) (u 1) (u 10) (u 11) (u 12)).2.1 (u 13) j0 p1).2) 14 (fun _ => 0)) 17 (fun _ => (nI (mTalk n (u 3) (u 0) (u 1) (u 10) (u 11) (u 12)).1))) n hn h60 (nI k)) gX3_fetch_X3_isIn rfl rfl rfl hdX3_isIn ⟨Nat.le_of_ble_eq_true rfl, Nat.le_of_ble_eq_true rfl⟩ gEM_true trivial hP hK hD hS hA 0 rfl rfl rfl hl.1 rfl (Nat.le_of_ble_eq_true rfl) dX3_fetch_67 ⟨Nat.zero_le _, Nat.zero_le _⟩ (fun H locs hP hD hS => ?_)
              refine W.eq (g2 := F0 m 70 ls [.int (mHas n hc 1 (nI k)), .int cn]) rfl ?_
              refine lv_if_eq (tgt := 77) hx hb dX3_fetch_70 (by decide) (fun c_70 => ?_) (fun c_70 => ?_)
              · refine lv_iconst (v := 1) hx hb dX3_fetch_77 (by decide +kernel) ?_
                refine lv_iadd hx hb dX3_fetch_78 ?_
                refine lv_istore (lv' := [(4, .int (cn + 1)), (0, .ref (q 0)), (1, .int (nI r)), (2, .int p1), (3, .int p2), (5, .int (nI k))]) hx hb dX3_fetch_79 hl (by decide) rfl (fun ls hl => ?_)
                refine lv_aload_n hx hb dX3_fetch_81 rfl (lv_at hl 1 rfl) ?_
                refine va_get (ci := 3) (v := .ref (q 4)) (C := RX3) (T := TX3) (N := 18) hx hb hts inX3_fetch_RX3 hown hK hP 0 rfl rfl 5 (by decide) (hts _ lkX3_fetch_19) (fun _ h9 => h9) rfl dX3_fetch_82 ?_
                refine lv_bipush (v := 60) hx hb dX3_fetch_85 (by decide +kernel) ?_
                refine lv_iload hx hb dX3_fetch_87 (lv_at hl 5 rfl) ?_
                refine lv_iadd hx hb dX3_fetch_89 ?_
                refine lv_iconst (v := 1) hx hb dX3_fetch_90 (by decide +kernel) ?_
                refine g_zast (n := 120) (f := hc) (u' := (mS (mS (mS (mS (mS (mS (mS (mS (mS u 3 hc) 4 hf) 10 (mReach n (u 3) (u 0) (u 1) (mTalk n (u 3) (u 0) (u 1) (u 10) (u 11) (u 12)).2.1 (u 13) j0 p1).1) 11 (mTalk n (u 3) (u 0) (u 1) (u 10) (u 11) (u 12)).2.2.1) 12 (mTalk n (u 3) (u 0) (u 1) (u 10) (u 11) (u 12)).2.2.2) 13 (mReach n (u 3) (u 0) (u 1) (mTalk n (u 3) (u 0) (u 1) (u 10) (u 11) (u 12)).2.1 (u 13) j0 p1).2) 14 (fun _ => 0)) 17 (fun _ => (nI (mTalk n (u 3) (u 0) (u 1) (u 10) (u 11) (u 12)).1))) 3 (upd hc (60 + k) 1))) hx hb hK hP hD hS 4 1 (by rw [MW_get_3, show (mS (mS (mS (mS (mS (mS (mS (mS u 3 hc) 4 hf) 10 (mReach n (u 3) (u 0) (u 1) (mTalk n (u 3) (u 0) (u 1) (u 10) (u 11) (u 12)).2.1 (u 13) j0 p1).1) 11 (mTalk n (u 3) (u 0) (u 1) (u 10) (u 11) (u 12)).2.2.1) 12 (mTalk n (u 3) (u 0) (u 1) (u 10) (u 11) (u 12)).2.2.2) 13 (mReach n (u 3) (u 0) (u 1) (mTalk n (u 3) (u 0) (u 1) (u 10) (u 11) (u 12)).2.1 (u 13) j0 p1).2) 14 (fun _ => 0)) 17 (fun _ => (nI (mTalk n (u 3) (u 0) (u 1) (u 10) (u 11) (u 12)).1))) 3 = hc from by simp only [mS_at, ↓reduceIte, Nat.reduceEqDiff]]) rfl (60 + k) (by omega) (by omega) (g_addE rfl rfl) rfl (MW_set_3 _ _) dX3_fetch_91 (fun H locs hP hD hS => ?_)
                refine lv_aload_n hx hb dX3_fetch_92 rfl (lv_at hl 1 rfl) ?_
                refine lv_iconst (v := 0) hx hb dX3_fetch_93 (by decide +kernel) ?_
                refine lv_iconst (v := 1) hx hb dX3_fetch_94 (by decide +kernel) ?_
                refine lv_iload hx hb dX3_fetch_95 (lv_at hl 5 rfl) ?_
                refine lv_iload_n hx hb dX3_fetch_97 rfl (lv_at hl 4 rfl) ?_
                refine g_callV (As := [.int 0, .int 1, .int (nI k), .int p2]) (rest := []) hx hb hml hown hts (ctX3_bring_0 l D cI cZ q (mS (mS (mS (mS (mS (mS (mS (mS (mS u 3 hc) 4 hf) 10 (mReach n (u 3) (u 0) (u 1) (mTalk n (u 3) (u 0) (u 1) (u 10) (u 11) (u 12)).2.1 (u 13) j0 p1).1) 11 (mTalk n (u 3) (u 0) (u 1) (u 10) (u 11) (u 12)).2.2.1) 12 (mTalk n (u 3) (u 0) (u 1) (u 10) (u 11) (u 12)).2.2.2) 13 (mReach n (u 3) (u 0) (u 1) (mTalk n (u 3) (u 0) (u 1) (u 10) (u 11) (u 12)).2.1 (u 13) j0 p1).2) 14 (fun _ => 0)) 17 (fun _ => (nI (mTalk n (u 3) (u 0) (u 1) (u 10) (u 11) (u 12)).1))) 3 (upd hc (60 + k) 1)) n hn h60 hsl k (by omega) p2) gX3_fetch_X3_bring rfl rfl rfl hdX3_bring ⟨Nat.le_of_ble_eq_true rfl, Nat.le_of_ble_eq_true rfl⟩ gEM_true trivial hP hK hD hS hA 0 rfl rfl rfl hl.1 rfl (Nat.le_of_ble_eq_true rfl) dX3_fetch_98 ⟨Nat.zero_le _, Nat.zero_le _⟩ (fun H locs hP hD hS => ?_)
                obtain ⟨hP, hD⟩ := g_toPD hP hD (MW_ext (Y := (mS (mS (mS (mS (mS (mS (mS (mS (mS (mS u 3 hc) 4 hf) 10 (mReach n (u 3) (u 0) (u 1) (mTalk n (u 3) (u 0) (u 1) (u 10) (u 11) (u 12)).2.1 (u 13) j0 p1).1) 11 (mTalk n (u 3) (u 0) (u 1) (u 10) (u 11) (u 12)).2.2.1) 12 (mTalk n (u 3) (u 0) (u 1) (u 10) (u 11) (u 12)).2.2.2) 13 (mReach n (u 3) (u 0) (u 1) (mTalk n (u 3) (u 0) (u 1) (u 10) (u 11) (u 12)).2.1 (u 13) j0 p1).2) 14 (fun _ => 0)) 17 (fun _ => (nI (mTalk n (u 3) (u 0) (u 1) (u 10) (u 11) (u 12)).1))) 3 (upd hc (60 + k) 1)) 4 (mBring (u 2) 0 1 k p2 hf))) (by refine ⟨?_, ?_, ?_, ?_, ?_, ?_, ?_, ?_, ?_, ?_, ?_, ?_, ?_, ?_, ?_, ?_, ?_, ?_⟩ <;> simp only [mS_at, ↓reduceIte, Nat.reduceEqDiff] <;> rfl))
                refine W.eq (g2 := F0 m 101 ls []) rfl ?_
                refine lv_iinc (v := (nI (k + 1))) (lv' := [(5, .int (nI (k + 1))), (4, .int (cn + 1)), (0, .ref (q 0)), (1, .int (nI r)), (2, .int p1), (3, .int p2)]) hx hb dX3_fetch_101 hl (k := 5) rfl (nI_1 _) (by decide) rfl (fun ls hl => ?_)
                refine lv_goto (tgt := 32) hx hb dX3_fetch_104 (by decide) ?_
                rw [show MW cI cZ q (mS (mS (mS (mS (mS (mS (mS (mS (mS (mS u 3 hc) 4 hf) 10 (mReach n (u 3) (u 0) (u 1) (mTalk n (u 3) (u 0) (u 1) (u 10) (u 11) (u 12)).2.1 (u 13) j0 p1).1) 11 (mTalk n (u 3) (u 0) (u 1) (u 10) (u 11) (u 12)).2.2.1) 12 (mTalk n (u 3) (u 0) (u 1) (u 10) (u 11) (u 12)).2.2.2) 13 (mReach n (u 3) (u 0) (u 1) (mTalk n (u 3) (u 0) (u 1) (u 10) (u 11) (u 12)).2.1 (u 13) j0 p1).2) 14 (fun _ => 0)) 17 (fun _ => (nI (mTalk n (u 3) (u 0) (u 1) (u 10) (u 11) (u 12)).1))) 3 (upd hc (60 + k) 1)) 4 (mBring (u 2) 0 1 k p2 hf)) = MW cI cZ q (mS (mS (mS (mS (mS (mS (mS (mS u 3 (upd hc (60 + k) 1)) 4 (mBring (u 2) 0 1 k p2 hf)) 10 (mReach n (u 3) (u 0) (u 1) (mTalk n (u 3) (u 0) (u 1) (u 10) (u 11) (u 12)).2.1 (u 13) j0 p1).1) 11 (mTalk n (u 3) (u 0) (u 1) (u 10) (u 11) (u 12)).2.2.1) 12 (mTalk n (u 3) (u 0) (u 1) (u 10) (u 11) (u 12)).2.2.2) 13 (mReach n (u 3) (u 0) (u 1) (mTalk n (u 3) (u 0) (u 1) (u 10) (u 11) (u 12)).2.1 (u 13) j0 p1).2) 14 (fun _ => 0)) 17 (fun _ => (nI (mTalk n (u 3) (u 0) (u 1) (u 10) (u 11) (u 12)).1))) from (MW_ext (by refine ⟨?_, ?_, ?_, ?_, ?_, ?_, ?_, ?_, ?_, ?_, ?_, ?_, ?_, ?_, ?_, ?_, ?_, ?_⟩ <;> simp only [mS_at, ↓reduceIte, Nat.reduceEqDiff] <;> rfl))] at hP hD
                exact ih (k + 1) (cn + 1) (upd hc (60 + k) 1) (mBring (u 2) 0 1 k p2 hf) _ _ _ hP hD hS (lv_sub hl [2, 3, 4, 5, 1, 0] rfl) (by omega) (by rw [← hr]; show _ = itU _ d (k + 1) (mFetchStep _ _ _ _ _ k (cn, hc, hf)); rw [show mFetchStep n (mReach n (u 3) (u 0) (u 1) (mTalk n (u 3) (u 0) (u 1) (u 10) (u 11) (u 12)).2.1 (u 13) j0 p1).1 (mTalk n (u 3) (u 0) (u 1) (u 10) (u 11) (u 12)).2.2.1 (u 2) p2 k (cn, hc, hf) = ((cn + 1), (upd hc (60 + k) 1), (mBring (u 2) 0 1 k p2 hf)) from by unfold mFetchStep; rw [if_neg c_48, if_pos c_58, if_pos c_70]])
              · refine lv_iconst (v := 0) hx hb dX3_fetch_73 (by decide +kernel) ?_
                refine lv_goto (tgt := 78) hx hb dX3_fetch_74 (by decide) ?_
                refine lv_iadd hx hb dX3_fetch_78 ?_
                refine lv_istore (lv' := [(4, .int (cn + 0)), (0, .ref (q 0)), (1, .int (nI r)), (2, .int p1), (3, .int p2), (5, .int (nI k))]) hx hb dX3_fetch_79 hl (by decide) rfl (fun ls hl => ?_)
                refine lv_aload_n hx hb dX3_fetch_81 rfl (lv_at hl 1 rfl) ?_
                refine va_get (ci := 3) (v := .ref (q 4)) (C := RX3) (T := TX3) (N := 18) hx hb hts inX3_fetch_RX3 hown hK hP 0 rfl rfl 5 (by decide) (hts _ lkX3_fetch_19) (fun _ h9 => h9) rfl dX3_fetch_82 ?_
                refine lv_bipush (v := 60) hx hb dX3_fetch_85 (by decide +kernel) ?_
                refine lv_iload hx hb dX3_fetch_87 (lv_at hl 5 rfl) ?_
                refine lv_iadd hx hb dX3_fetch_89 ?_
                refine lv_iconst (v := 1) hx hb dX3_fetch_90 (by decide +kernel) ?_
                refine g_zast (n := 120) (f := hc) (u' := (mS (mS (mS (mS (mS (mS (mS (mS (mS u 3 hc) 4 hf) 10 (mReach n (u 3) (u 0) (u 1) (mTalk n (u 3) (u 0) (u 1) (u 10) (u 11) (u 12)).2.1 (u 13) j0 p1).1) 11 (mTalk n (u 3) (u 0) (u 1) (u 10) (u 11) (u 12)).2.2.1) 12 (mTalk n (u 3) (u 0) (u 1) (u 10) (u 11) (u 12)).2.2.2) 13 (mReach n (u 3) (u 0) (u 1) (mTalk n (u 3) (u 0) (u 1) (u 10) (u 11) (u 12)).2.1 (u 13) j0 p1).2) 14 (fun _ => 0)) 17 (fun _ => (nI (mTalk n (u 3) (u 0) (u 1) (u 10) (u 11) (u 12)).1))) 3 (upd hc (60 + k) 1))) hx hb hK hP hD hS 4 1 (by rw [MW_get_3, show (mS (mS (mS (mS (mS (mS (mS (mS u 3 hc) 4 hf) 10 (mReach n (u 3) (u 0) (u 1) (mTalk n (u 3) (u 0) (u 1) (u 10) (u 11) (u 12)).2.1 (u 13) j0 p1).1) 11 (mTalk n (u 3) (u 0) (u 1) (u 10) (u 11) (u 12)).2.2.1) 12 (mTalk n (u 3) (u 0) (u 1) (u 10) (u 11) (u 12)).2.2.2) 13 (mReach n (u 3) (u 0) (u 1) (mTalk n (u 3) (u 0) (u 1) (u 10) (u 11) (u 12)).2.1 (u 13) j0 p1).2) 14 (fun _ => 0)) 17 (fun _ => (nI (mTalk n (u 3) (u 0) (u 1) (u 10) (u 11) (u 12)).1))) 3 = hc from by simp only [mS_at, ↓reduceIte, Nat.reduceEqDiff]]) rfl (60 + k) (by omega) (by omega) (g_addE rfl rfl) rfl (MW_set_3 _ _) dX3_fetch_91 (fun H locs hP hD hS => ?_)
                refine lv_aload_n hx hb dX3_fetch_92 rfl (lv_at hl 1 rfl) ?_
                refine lv_iconst (v := 0) hx hb dX3_fetch_93 (by decide +kernel) ?_
                refine lv_iconst (v := 1) hx hb dX3_fetch_94 (by decide +kernel) ?_
                refine lv_iload hx hb dX3_fetch_95 (lv_at hl 5 rfl) ?_
                refine lv_iload_n hx hb dX3_fetch_97 rfl (lv_at hl 4 rfl) ?_
                refine g_callV (As := [.int 0, .int 1, .int (nI k), .int p2]) (rest := []) hx hb hml hown hts (ctX3_bring_0 l D cI cZ q (mS (mS (mS (mS (mS (mS (mS (mS (mS u 3 hc) 4 hf) 10 (mReach n (u 3) (u 0) (u 1) (mTalk n (u 3) (u 0) (u 1) (u 10) (u 11) (u 12)).2.1 (u 13) j0 p1).1) 11 (mTalk n (u 3) (u 0) (u 1) (u 10) (u 11) (u 12)).2.2.1) 12 (mTalk n (u 3) (u 0) (u 1) (u 10) (u 11) (u 12)).2.2.2) 13 (mReach n (u 3) (u 0) (u 1) (mTalk n (u 3) (u 0) (u 1) (u 10) (u 11) (u 12)).2.1 (u 13) j0 p1).2) 14 (fun _ => 0)) 17 (fun _ => (nI (mTalk n (u 3) (u 0) (u 1) (u 10) (u 11) (u 12)).1))) 3 (upd hc (60 + k) 1)) n hn h60 hsl k (by omega) p2) gX3_fetch_X3_bring rfl rfl rfl hdX3_bring ⟨Nat.le_of_ble_eq_true rfl, Nat.le_of_ble_eq_true rfl⟩ gEM_true trivial hP hK hD hS hA 0 rfl rfl rfl hl.1 rfl (Nat.le_of_ble_eq_true rfl) dX3_fetch_98 ⟨Nat.zero_le _, Nat.zero_le _⟩ (fun H locs hP hD hS => ?_)
                obtain ⟨hP, hD⟩ := g_toPD hP hD (MW_ext (Y := (mS (mS (mS (mS (mS (mS (mS (mS (mS (mS u 3 hc) 4 hf) 10 (mReach n (u 3) (u 0) (u 1) (mTalk n (u 3) (u 0) (u 1) (u 10) (u 11) (u 12)).2.1 (u 13) j0 p1).1) 11 (mTalk n (u 3) (u 0) (u 1) (u 10) (u 11) (u 12)).2.2.1) 12 (mTalk n (u 3) (u 0) (u 1) (u 10) (u 11) (u 12)).2.2.2) 13 (mReach n (u 3) (u 0) (u 1) (mTalk n (u 3) (u 0) (u 1) (u 10) (u 11) (u 12)).2.1 (u 13) j0 p1).2) 14 (fun _ => 0)) 17 (fun _ => (nI (mTalk n (u 3) (u 0) (u 1) (u 10) (u 11) (u 12)).1))) 3 (upd hc (60 + k) 1)) 4 (mBring (u 2) 0 1 k p2 hf))) (by refine ⟨?_, ?_, ?_, ?_, ?_, ?_, ?_, ?_, ?_, ?_, ?_, ?_, ?_, ?_, ?_, ?_, ?_, ?_⟩ <;> simp only [mS_at, ↓reduceIte, Nat.reduceEqDiff] <;> rfl))
                refine W.eq (g2 := F0 m 101 ls []) rfl ?_
                refine lv_iinc (v := (nI (k + 1))) (lv' := [(5, .int (nI (k + 1))), (4, .int (cn + 0)), (0, .ref (q 0)), (1, .int (nI r)), (2, .int p1), (3, .int p2)]) hx hb dX3_fetch_101 hl (k := 5) rfl (nI_1 _) (by decide) rfl (fun ls hl => ?_)
                refine lv_goto (tgt := 32) hx hb dX3_fetch_104 (by decide) ?_
                rw [show MW cI cZ q (mS (mS (mS (mS (mS (mS (mS (mS (mS (mS u 3 hc) 4 hf) 10 (mReach n (u 3) (u 0) (u 1) (mTalk n (u 3) (u 0) (u 1) (u 10) (u 11) (u 12)).2.1 (u 13) j0 p1).1) 11 (mTalk n (u 3) (u 0) (u 1) (u 10) (u 11) (u 12)).2.2.1) 12 (mTalk n (u 3) (u 0) (u 1) (u 10) (u 11) (u 12)).2.2.2) 13 (mReach n (u 3) (u 0) (u 1) (mTalk n (u 3) (u 0) (u 1) (u 10) (u 11) (u 12)).2.1 (u 13) j0 p1).2) 14 (fun _ => 0)) 17 (fun _ => (nI (mTalk n (u 3) (u 0) (u 1) (u 10) (u 11) (u 12)).1))) 3 (upd hc (60 + k) 1)) 4 (mBring (u 2) 0 1 k p2 hf)) = MW cI cZ q (mS (mS (mS (mS (mS (mS (mS (mS u 3 (upd hc (60 + k) 1)) 4 (mBring (u 2) 0 1 k p2 hf)) 10 (mReach n (u 3) (u 0) (u 1) (mTalk n (u 3) (u 0) (u 1) (u 10) (u 11) (u 12)).2.1 (u 13) j0 p1).1) 11 (mTalk n (u 3) (u 0) (u 1) (u 10) (u 11) (u 12)).2.2.1) 12 (mTalk n (u 3) (u 0) (u 1) (u 10) (u 11) (u 12)).2.2.2) 13 (mReach n (u 3) (u 0) (u 1) (mTalk n (u 3) (u 0) (u 1) (u 10) (u 11) (u 12)).2.1 (u 13) j0 p1).2) 14 (fun _ => 0)) 17 (fun _ => (nI (mTalk n (u 3) (u 0) (u 1) (u 10) (u 11) (u 12)).1))) from (MW_ext (by refine ⟨?_, ?_, ?_, ?_, ?_, ?_, ?_, ?_, ?_, ?_, ?_, ?_, ?_, ?_, ?_, ?_, ?_, ?_⟩ <;> simp only [mS_at, ↓reduceIte, Nat.reduceEqDiff] <;> rfl))] at hP hD
                exact ih (k + 1) (cn + 0) (upd hc (60 + k) 1) (mBring (u 2) 0 1 k p2 hf) _ _ _ hP hD hS (lv_sub hl [2, 3, 4, 5, 1, 0] rfl) (by omega) (by rw [← hr]; show _ = itU _ d (k + 1) (mFetchStep _ _ _ _ _ k (cn, hc, hf)); rw [show mFetchStep n (mReach n (u 3) (u 0) (u 1) (mTalk n (u 3) (u 0) (u 1) (u 10) (u 11) (u 12)).2.1 (u 13) j0 p1).1 (mTalk n (u 3) (u 0) (u 1) (u 10) (u 11) (u 12)).2.2.1 (u 2) p2 k (cn, hc, hf) = ((cn + 0), (upd hc (60 + k) 1), (mBring (u 2) 0 1 k p2 hf)) from by unfold mFetchStep; rw [if_neg c_48, if_pos c_58, if_neg c_70]])
    rw [show MW cI cZ q (mS (mS (mS (mS (mS (mS (mS u 14 (fun _ => 0)) 10 (mTalk n (u 3) (u 0) (u 1) (u 10) (u 11) (u 12)).2.1) 11 (mTalk n (u 3) (u 0) (u 1) (u 10) (u 11) (u 12)).2.2.1) 12 (mTalk n (u 3) (u 0) (u 1) (u 10) (u 11) (u 12)).2.2.2) 17 (fun _ => (nI (mTalk n (u 3) (u 0) (u 1) (u 10) (u 11) (u 12)).1))) 10 (mReach n (u 3) (u 0) (u 1) (mTalk n (u 3) (u 0) (u 1) (u 10) (u 11) (u 12)).2.1 (u 13) j0 p1).1) 13 (mReach n (u 3) (u 0) (u 1) (mTalk n (u 3) (u 0) (u 1) (u 10) (u 11) (u 12)).2.1 (u 13) j0 p1).2) = MW cI cZ q (mS (mS (mS (mS (mS (mS (mS (mS u 3 (u 3)) 4 (u 4)) 10 (mReach n (u 3) (u 0) (u 1) (mTalk n (u 3) (u 0) (u 1) (u 10) (u 11) (u 12)).2.1 (u 13) j0 p1).1) 11 (mTalk n (u 3) (u 0) (u 1) (u 10) (u 11) (u 12)).2.2.1) 12 (mTalk n (u 3) (u 0) (u 1) (u 10) (u 11) (u 12)).2.2.2) 13 (mReach n (u 3) (u 0) (u 1) (mTalk n (u 3) (u 0) (u 1) (u 10) (u 11) (u 12)).2.1 (u 13) j0 p1).2) 14 (fun _ => 0)) 17 (fun _ => (nI (mTalk n (u 3) (u 0) (u 1) (u 10) (u 11) (u 12)).1))) from (MW_ext (by refine ⟨?_, ?_, ?_, ?_, ?_, ?_, ?_, ?_, ?_, ?_, ?_, ?_, ?_, ?_, ?_, ?_, ?_, ?_⟩ <;> simp only [mS_at, ↓reduceIte, Nat.reduceEqDiff] <;> rfl))] at hP hD
    exact loop n 0 0 (u 3) (u 4) _ _ _ hP hD hS (lv_sub hl [2, 3, 4, 5, 1, 0] rfl) (by omega) rfl
  · exact absurd (show (0 : Int32) = 0 from rfl) c_6
abbrev rmX3_fetch_r : Room := { frames := 3, cells := 0, slots := 0, locals := 65 }
set_option maxHeartbeats 4000000 in
set_option maxRecDepth 100000 in
theorem ctX3_fetch_r (l : Launch) (D : va_G) (cI cZ : ClassId) (q : Nat → Nat) (u : SM) (n : Nat) (hn : u 15 0 = nI n) (h60 : n ≤ 60) (p0 p1 p2 z : Int32) (hz : (mNoF p0 p1 (u 5)) = z) (hz0 : ¬ z = 0) : gM l yX3_fetch wsX3_fetch rmX3_fetch_r D [(cI, .int), (cZ, .boolean)] (MW cI cZ q) (fun _ => True) [.ref (q 0), .int p0, .int p1, .int p2] u (some (.int 0)) (mS u 14 (fun _ => z)) := by
  refine g_start (cc := cX3_fetch) (maxL := 6) (ret := (some .int)) (by decide) rfl (Nat.le_of_ble_eq_true rfl) ?_
  intro p e s m below meth c A ls Q hx hb hml hret hts hown hlk hE hP hK hD hA hl hQ hS
  have hown : s.vm.findClass RX3 = some m.cls := hown
  have hl : lv_has ls 6 [(0, .ref (q 0)), (1, .int p0), (2, .int p1), (3, .int p2)] := hl
  refine lv_aload_n hx hb dX3_fetch_0 rfl (lv_at hl 0 rfl) ?_
  refine lv_iload_n hx hb dX3_fetch_1 rfl (lv_at hl 1 rfl) ?_
  refine lv_iload_n hx hb dX3_fetch_2 rfl (lv_at hl 2 rfl) ?_
  refine g_callV (As := [.int p0, .int p1]) (rest := []) hx hb hml hown hts (ctX3_noFetch_r l D cI cZ q u n hn h60 p0 p1 z hz hz0) gX3_fetch_X3_noFetch rfl rfl rfl hdX3_noFetch ⟨Nat.le_of_ble_eq_true rfl, Nat.le_of_ble_eq_true rfl⟩ gEM_true trivial hP hK hD hS hA 0 rfl rfl rfl hl.1 rfl (Nat.le_of_ble_eq_true rfl) dX3_fetch_3 ⟨Nat.zero_le _, Nat.zero_le _⟩ (fun H locs hP hD hS => ?_)
  obtain ⟨hP, hD⟩ := g_toPD hP hD (MW_ext (Y := (mS u 14 (fun _ => z))) (by refine ⟨?_, ?_, ?_, ?_, ?_, ?_, ?_, ?_, ?_, ?_, ?_, ?_, ?_, ?_, ?_, ?_, ?_, ?_⟩ <;> simp only [mS_at, ↓reduceIte, Nat.reduceEqDiff] <;> rfl))
  refine W.eq (g2 := F0 m 6 ls [.int 1]) rfl ?_
  refine lv_if_eq (tgt := 11) hx hb dX3_fetch_6 (by decide) (fun c_6 => ?_) (fun c_6 => ?_)
  · exact absurd c_6 (by decide)
  · refine lv_iconst (v := 0) hx hb dX3_fetch_9 (by decide +kernel) ?_
    refine g_iret (u1 := (mS u 14 (fun _ => z))) hx hb hret hlk hQ hP hD hS dX3_fetch_10 ?_ ?_
    · exact rfl
    · exact rfl
theorem lkX3_wouldFetch_26 : Cond.fieldLink RX3 26 "FetchHouseModel" "refs" "[I" ∈ wsX3_wouldFetch := List.mem_of_getElem? (i := 1) (by decide +kernel)
theorem lkX3_wouldFetch_41 : Cond.fieldLink RX3 41 "FetchHouseModel" "marks" "[Z" ∈ wsX3_wouldFetch := List.mem_of_getElem? (i := 3) (by decide +kernel)
theorem lkX3_wouldFetch_61 : Cond.fieldLink RX3 61 "FetchHouseModel" "made" "I" ∈ wsX3_wouldFetch := List.mem_of_getElem? (i := 2) (by decide +kernel)
theorem inX3_wouldFetch_RX3 : ∀ w ∈ u_ws RX3 TX3 18, w ∈ wsX3_wouldFetch := fun w h => List.mem_cons_of_mem _ (List.mem_append_right _ h)
abbrev rmX3_wouldFetch : Room := { frames := 8, cells := 0, slots := 0, locals := 175 }
set_option maxHeartbeats 4000000 in
set_option maxRecDepth 100000 in
theorem ctX3_wouldFetch (l : Launch) (D : va_G) (cI cZ : ClassId) (q : Nat → Nat) (u : SM) (n : Nat) (hn : u 15 0 = nI n) (h60 : n ≤ 60) (hfi : ∀ k, k < n → (u 0 k = -1 ∨ ∃ j, j < 60 ∧ u 0 k = nI j)) (hse : ∀ k, k < n → (u 1 k = -1 ∨ ∃ j, j < 60 ∧ u 1 k = nI j)) (r : Nat) (hr4 : r < 4) (p1 : Int32) (h2 : ¬ mIn p1 0 60 = 0) (j0 : Nat) (hj0 : j0 < n) (hrj : u 5 r = nI j0) : gM l yX3_wouldFetch wsX3_wouldFetch rmX3_wouldFetch D [(cI, .int), (cZ, .boolean)] (MW cI cZ q) (fun _ => True) [.ref (q 0), .int (nI r), .int p1] u (some (.int (mWould n (mReach n (u 3) (u 0) (u 1) (u 10) (u 13) j0 p1).1 (u 3)))) (mS (mS (mS u 14 (fun _ => 0)) 10 (mReach n (u 3) (u 0) (u 1) (u 10) (u 13) j0 p1).1) 13 (mReach n (u 3) (u 0) (u 1) (u 10) (u 13) j0 p1).2) := by
  refine g_start (cc := cX3_wouldFetch) (maxL := 5) (ret := (some .int)) (by decide) rfl (Nat.le_of_ble_eq_true rfl) ?_
  intro p e s m below meth c A ls Q hx hb hml hret hts hown hlk hE hP hK hD hA hl hQ hS
  have hown : s.vm.findClass RX3 = some m.cls := hown
  have hl : lv_has ls 5 [(0, .ref (q 0)), (1, .int (nI r)), (2, .int p1)] := hl
  refine lv_aload_n hx hb dX3_wouldFetch_0 rfl (lv_at hl 0 rfl) ?_
  refine lv_iload_n hx hb dX3_wouldFetch_1 rfl (lv_at hl 1 rfl) ?_
  refine lv_iload_n hx hb dX3_wouldFetch_2 rfl (lv_at hl 2 rfl) ?_
  refine g_callV (As := [.int (nI r), .int p1]) (rest := []) hx hb hml hown hts (ctX3_noFetch l D cI cZ q u n hn h60 r hr4 p1 h2 j0 hj0 hrj) gX3_wouldFetch_X3_noFetch rfl rfl rfl hdX3_noFetch ⟨Nat.le_of_ble_eq_true rfl, Nat.le_of_ble_eq_true rfl⟩ gEM_true trivial hP hK hD hS hA 0 rfl rfl rfl hl.1 rfl (Nat.le_of_ble_eq_true rfl) dX3_wouldFetch_3 ⟨Nat.zero_le _, Nat.zero_le _⟩ (fun H locs hP hD hS => ?_)
  obtain ⟨hP, hD⟩ := g_toPD hP hD (MW_ext (Y := (mS u 14 (fun _ => 0))) (by refine ⟨?_, ?_, ?_, ?_, ?_, ?_, ?_, ?_, ?_, ?_, ?_, ?_, ?_, ?_, ?_, ?_, ?_, ?_⟩ <;> simp only [mS_at, ↓reduceIte, Nat.reduceEqDiff] <;> rfl))
  refine W.eq (g2 := F0 m 6 ls [.int 0]) rfl ?_
  refine lv_if_eq (tgt := 11) hx hb dX3_wouldFetch_6 (by decide) (fun c_6 => ?_) (fun c_6 => ?_)
  · refine lv_aload_n hx hb dX3_wouldFetch_11 rfl (lv_at hl 0 rfl) ?_
    refine lv_aload_n hx hb dX3_wouldFetch_12 rfl (lv_at hl 0 rfl) ?_
    refine va_get (ci := 3) (v := .ref (q 6)) (C := RX3) (T := TX3) (N := 18) hx hb hts inX3_wouldFetch_RX3 hown hK hP 0 rfl rfl 7 (by decide) (hts _ lkX3_wouldFetch_26) (fun _ h9 => h9) rfl dX3_wouldFetch_13 ?_
    refine lv_iload_n hx hb dX3_wouldFetch_16 rfl (lv_at hl 1 rfl) ?_
    refine g_iald (n := 8) (f := (u 5)) hx hb hK hP 6 0 (by rw [MW_get_5, show (mS u 14 (fun _ => 0)) 5 = (u 5) from by simp only [mS_at, ↓reduceIte, Nat.reduceEqDiff]]) rfl r (by omega) (by omega) rfl dX3_wouldFetch_17 ?_
    refine W.eq (g2 := F0 m 18 ls [.int (nI j0), .ref (q 0)]) (by rw [hrj]) ?_
    refine lv_iload_n hx hb dX3_wouldFetch_18 rfl (lv_at hl 2 rfl) ?_
    refine g_callV (As := [.int (nI j0), .int p1]) (rest := []) hx hb hml hown hts (ctX3_reach l D cI cZ q (mS u 14 (fun _ => 0)) n hn h60 hfi hse j0 hj0 p1) gX3_wouldFetch_X3_reach rfl rfl rfl hdX3_reach ⟨Nat.le_of_ble_eq_true rfl, Nat.le_of_ble_eq_true rfl⟩ gEM_true trivial hP hK hD hS hA 0 rfl rfl rfl hl.1 rfl (Nat.le_of_ble_eq_true rfl) dX3_wouldFetch_19 ⟨Nat.zero_le _, Nat.zero_le _⟩ (fun H locs hP hD hS => ?_)
    obtain ⟨hP, hD⟩ := g_toPD hP hD (MW_ext (Y := (mS (mS (mS u 14 (fun _ => 0)) 10 (mReach n (u 3) (u 0) (u 1) (u 10) (u 13) j0 p1).1) 13 (mReach n (u 3) (u 0) (u 1) (u 10) (u 13) j0 p1).2)) (by refine ⟨?_, ?_, ?_, ?_, ?_, ?_, ?_, ?_, ?_, ?_, ?_, ?_, ?_, ?_, ?_, ?_, ?_, ?_⟩ <;> simp only [mS_at, ↓reduceIte, Nat.reduceEqDiff] <;> rfl))
    refine W.eq (g2 := F0 m 22 ls []) rfl ?_
    refine lv_iconst (v := 0) hx hb dX3_wouldFetch_22 (by decide +kernel) ?_
    refine lv_istore_n (lv' := [(3, .int 0), (0, .ref (q 0)), (1, .int (nI r)), (2, .int p1)]) hx hb dX3_wouldFetch_23 rfl hl (by decide) rfl (fun ls hl => ?_)
    refine lv_iconst (v := (nI 0)) hx hb dX3_wouldFetch_24 (by decide +kernel) ?_
    refine lv_istore (lv' := [(4, .int (nI 0)), (3, .int 0), (0, .ref (q 0)), (1, .int (nI r)), (2, .int p1)]) hx hb dX3_wouldFetch_25 hl (by decide) rfl (fun ls hl => ?_)
    have loop : ∀ (d k : Nat) (cn : Int32) (H : Heap) (locs : List Loc) (ls : Array Slot) (hP : va_P D vwCl (MW cI cZ q (mS (mS (mS u 10 (mReach n (u 3) (u 0) (u 1) (u 10) (u 13) j0 p1).1) 13 (mReach n (u 3) (u 0) (u 1) (u 10) (u 13) j0 p1).2) 14 (fun _ => 0))) H) (hD : va_D A (MW cI cZ q (mS (mS (mS u 10 (mReach n (u 3) (u 0) (u 1) (u 10) (u 13) j0 p1).1) 13 (mReach n (u 3) (u 0) (u 1) (u 10) (u 13) j0 p1).2) 14 (fun _ => 0)))) (hS : va_S A s.heap H locs) (hl : lv_has ls 5 [(0, .ref (q 0)), (1, .int (nI r)), (2, .int p1), (3, .int cn), (4, .int (nI k))]) (hk : k + d = n) (hr : itU (mWouldStep n (mReach n (u 3) (u 0) (u 1) (u 10) (u 13) j0 p1).1 (u 3)) d k cn = (mWould n (mReach n (u 3) (u 0) (u 1) (u 10) (u 13) j0 p1).1 (u 3))), W p l e rmX3_wouldFetch s m ([.ref (q 0), .int (nI r), .int p1] : List Value).toArray below meth c H locs 0 0 Q (F0 m 27 ls []) := by
      intro d
      induction d with
      | zero =>
        intro k cn H locs ls hP hD hS hl hk hr
        refine lv_iload hx hb dX3_wouldFetch_27 (lv_at hl 4 rfl) ?_
        refine lv_aload_n hx hb dX3_wouldFetch_29 rfl (lv_at hl 0 rfl) ?_
        refine va_get (ci := 3) (v := .int (nI n)) (C := RX3) (T := TX3) (N := 18) hx hb hts inX3_wouldFetch_RX3 hown hK hP 0 rfl rfl 1 (by decide) (hts _ lkX3_wouldFetch_61) (fun _ h9 => h9) (congrArg (fun z => some (Value.int z)) hn) dX3_wouldFetch_30 ?_
        refine lv_icmp_ge (tgt := 70) hx hb dX3_wouldFetch_33 (by decide) (fun c_33 => ?_) (fun c_33 => ?_)
        · have n_33 : n ≤ k := (g_leI (a := n) (b := k) rfl rfl (by omega) (by omega)).mp c_33
          refine lv_iload_n hx hb dX3_wouldFetch_70 rfl (lv_at hl 3 rfl) ?_
          refine g_iret (u1 := (mS (mS (mS u 10 (mReach n (u 3) (u 0) (u 1) (u 10) (u 13) j0 p1).1) 13 (mReach n (u 3) (u 0) (u 1) (u 10) (u 13) j0 p1).2) 14 (fun _ => 0))) hx hb hret hlk hQ hP hD hS dX3_wouldFetch_71 ?_ ?_
          · exact (by rw [← hr]; rfl)
          · exact (MW_ext (by refine ⟨?_, ?_, ?_, ?_, ?_, ?_, ?_, ?_, ?_, ?_, ?_, ?_, ?_, ?_, ?_, ?_, ?_, ?_⟩ <;> simp only [mS_at, ↓reduceIte, Nat.reduceEqDiff] <;> rfl))
        · have n_33 : ¬ n ≤ k := fun h => c_33 ((g_leI (a := n) (b := k) rfl rfl (by omega) (by omega)).mpr h)
          exfalso; omega
      | succ d ih =>
        intro k cn H locs ls hP hD hS hl hk hr
        refine lv_iload hx hb dX3_wouldFetch_27 (lv_at hl 4 rfl) ?_
        refine lv_aload_n hx hb dX3_wouldFetch_29 rfl (lv_at hl 0 rfl) ?_
        refine va_get (ci := 3) (v := .int (nI n)) (C := RX3) (T := TX3) (N := 18) hx hb hts inX3_wouldFetch_RX3 hown hK hP 0 rfl rfl 1 (by decide) (hts _ lkX3_wouldFetch_61) (fun _ h9 => h9) (congrArg (fun z => some (Value.int z)) hn) dX3_wouldFetch_30 ?_
        refine lv_icmp_ge (tgt := 70) hx hb dX3_wouldFetch_33 (by decide) (fun c_33 => ?_) (fun c_33 => ?_)
        · have n_33 : n ≤ k := (g_leI (a := n) (b := k) rfl rfl (by omega) (by omega)).mp c_33
          exfalso; omega
        · have n_33 : ¬ n ≤ k := fun h => c_33 ((g_leI (a := n) (b := k) rfl rfl (by omega) (by omega)).mpr h)
          refine lv_iload_n hx hb dX3_wouldFetch_36 rfl (lv_at hl 3 rfl) ?_
          refine lv_aload_n hx hb dX3_wouldFetch_37 rfl (lv_at hl 0 rfl) ?_
          refine va_get (ci := 3) (v := .ref (q 11)) (C := RX3) (T := TX3) (N := 18) hx hb hts inX3_wouldFetch_RX3 hown hK hP 0 rfl rfl 14 (by decide) (hts _ lkX3_wouldFetch_41) (fun _ h9 => h9) rfl dX3_wouldFetch_38 ?_
          refine lv_iload hx hb dX3_wouldFetch_41 (lv_at hl 4 rfl) ?_
          refine g_zald (n := 60) (f := (mReach n (u 3) (u 0) (u 1) (u 10) (u 13) j0 p1).1) hx hb hK hP 11 1 (by rw [MW_get_10, show (mS (mS (mS u 10 (mReach n (u 3) (u 0) (u 1) (u 10) (u 13) j0 p1).1) 13 (mReach n (u 3) (u 0) (u 1) (u 10) (u 13) j0 p1).2) 14 (fun _ => 0)) 10 = (mReach n (u 3) (u 0) (u 1) (u 10) (u 13) j0 p1).1 from by simp only [mS_at, ↓reduceIte, Nat.reduceEqDiff]]) rfl k (by omega) (by omega) rfl dX3_wouldFetch_43 ?_
          refine lv_if_eq (tgt := 61) hx hb dX3_wouldFetch_44 (by decide) (fun c_44 => ?_) (fun c_44 => ?_)
          · refine lv_iconst (v := 0) hx hb dX3_wouldFetch_61 (by decide +kernel) ?_
            refine lv_iadd hx hb dX3_wouldFetch_62 ?_
            refine lv_istore_n (lv' := [(3, .int (cn + 0)), (0, .ref (q 0)), (1, .int (nI r)), (2, .int p1), (4, .int (nI k))]) hx hb dX3_wouldFetch_63 rfl hl (by decide) rfl (fun ls hl => ?_)
            refine lv_iinc (v := (nI (k + 1))) (lv' := [(4, .int (nI (k + 1))), (3, .int (cn + 0)), (0, .ref (q 0)), (1, .int (nI r)), (2, .int p1)]) hx hb dX3_wouldFetch_64 hl (k := 4) rfl (nI_1 _) (by decide) rfl (fun ls hl => ?_)
            refine lv_goto (tgt := 27) hx hb dX3_wouldFetch_67 (by decide) ?_
            exact ih (k + 1) (cn + 0) _ _ _ hP hD hS (lv_sub hl [2, 3, 4, 1, 0] rfl) (by omega) (by rw [← hr]; show _ = itU _ d (k + 1) (mWouldStep _ _ _ k cn); rw [show mWouldStep n (mReach n (u 3) (u 0) (u 1) (u 10) (u 13) j0 p1).1 (u 3) k cn = (cn + 0) from by unfold mWouldStep; rw [if_pos c_44]])
          · refine lv_aload_n hx hb dX3_wouldFetch_47 rfl (lv_at hl 0 rfl) ?_
            refine lv_iconst (v := 1) hx hb dX3_wouldFetch_48 (by decide +kernel) ?_
            refine lv_iload hx hb dX3_wouldFetch_49 (lv_at hl 4 rfl) ?_
            refine g_callV (As := [.int 1, .int (nI k)]) (rest := [.int cn]) hx hb hml hown hts (ctX3_isIn_1 l D cI cZ q (mS (mS (mS u 10 (mReach n (u 3) (u 0) (u 1) (u 10) (u 13) j0 p1).1) 13 (mReach n (u 3) (u 0) (u 1) (u 10) (u 13) j0 p1).2) 14 (fun _ => 0)) n hn h60 (nI k)) gX3_wouldFetch_X3_isIn rfl rfl rfl hdX3_isIn ⟨Nat.le_of_ble_eq_true rfl, Nat.le_of_ble_eq_true rfl⟩ gEM_true trivial hP hK hD hS hA 0 rfl rfl rfl hl.1 rfl (Nat.le_of_ble_eq_true rfl) dX3_wouldFetch_51 ⟨Nat.zero_le _, Nat.zero_le _⟩ (fun H locs hP hD hS => ?_)
            refine W.eq (g2 := F0 m 54 ls [.int (mHas n (u 3) 1 (nI k)), .int cn]) rfl ?_
            refine lv_if_ne (tgt := 61) hx hb dX3_wouldFetch_54 (by decide) (fun c_54 => ?_) (fun c_54 => ?_)
            · refine lv_iconst (v := 0) hx hb dX3_wouldFetch_61 (by decide +kernel) ?_
              refine lv_iadd hx hb dX3_wouldFetch_62 ?_
              refine lv_istore_n (lv' := [(3, .int (cn + 0)), (0, .ref (q 0)), (1, .int (nI r)), (2, .int p1), (4, .int (nI k))]) hx hb dX3_wouldFetch_63 rfl hl (by decide) rfl (fun ls hl => ?_)
              refine lv_iinc (v := (nI (k + 1))) (lv' := [(4, .int (nI (k + 1))), (3, .int (cn + 0)), (0, .ref (q 0)), (1, .int (nI r)), (2, .int p1)]) hx hb dX3_wouldFetch_64 hl (k := 4) rfl (nI_1 _) (by decide) rfl (fun ls hl => ?_)
              refine lv_goto (tgt := 27) hx hb dX3_wouldFetch_67 (by decide) ?_
              exact ih (k + 1) (cn + 0) _ _ _ hP hD hS (lv_sub hl [2, 3, 4, 1, 0] rfl) (by omega) (by rw [← hr]; show _ = itU _ d (k + 1) (mWouldStep _ _ _ k cn); rw [show mWouldStep n (mReach n (u 3) (u 0) (u 1) (u 10) (u 13) j0 p1).1 (u 3) k cn = (cn + 0) from by unfold mWouldStep; rw [if_neg c_44, if_neg c_54]])
            · refine lv_iconst (v := 1) hx hb dX3_wouldFetch_57 (by decide +kernel) ?_
              refine lv_goto (tgt := 62) hx hb dX3_wouldFetch_58 (by decide) ?_
              refine lv_iadd hx hb dX3_wouldFetch_62 ?_
              refine lv_istore_n (lv' := [(3, .int (cn + 1)), (0, .ref (q 0)), (1, .int (nI r)), (2, .int p1), (4, .int (nI k))]) hx hb dX3_wouldFetch_63 rfl hl (by decide) rfl (fun ls hl => ?_)
              refine lv_iinc (v := (nI (k + 1))) (lv' := [(4, .int (nI (k + 1))), (3, .int (cn + 1)), (0, .ref (q 0)), (1, .int (nI r)), (2, .int p1)]) hx hb dX3_wouldFetch_64 hl (k := 4) rfl (nI_1 _) (by decide) rfl (fun ls hl => ?_)
              refine lv_goto (tgt := 27) hx hb dX3_wouldFetch_67 (by decide) ?_
              exact ih (k + 1) (cn + 1) _ _ _ hP hD hS (lv_sub hl [2, 3, 4, 1, 0] rfl) (by omega) (by rw [← hr]; show _ = itU _ d (k + 1) (mWouldStep _ _ _ k cn); rw [show mWouldStep n (mReach n (u 3) (u 0) (u 1) (u 10) (u 13) j0 p1).1 (u 3) k cn = (cn + 1) from by unfold mWouldStep; rw [if_neg c_44, if_pos c_54]])
    rw [show MW cI cZ q (mS (mS (mS u 14 (fun _ => 0)) 10 (mReach n (u 3) (u 0) (u 1) (u 10) (u 13) j0 p1).1) 13 (mReach n (u 3) (u 0) (u 1) (u 10) (u 13) j0 p1).2) = MW cI cZ q (mS (mS (mS u 10 (mReach n (u 3) (u 0) (u 1) (u 10) (u 13) j0 p1).1) 13 (mReach n (u 3) (u 0) (u 1) (u 10) (u 13) j0 p1).2) 14 (fun _ => 0)) from (MW_ext (by refine ⟨?_, ?_, ?_, ?_, ?_, ?_, ?_, ?_, ?_, ?_, ?_, ?_, ?_, ?_, ?_, ?_, ?_, ?_⟩ <;> simp only [mS_at, ↓reduceIte, Nat.reduceEqDiff] <;> rfl))] at hP hD
    exact loop n 0 0 _ _ _ hP hD hS (lv_sub hl [2, 3, 4, 1, 0] rfl) (by omega) rfl
  · exact absurd (show (0 : Int32) = 0 from rfl) c_6
abbrev rmX3_wouldFetch_r : Room := { frames := 3, cells := 0, slots := 0, locals := 65 }
set_option maxHeartbeats 4000000 in
set_option maxRecDepth 100000 in
theorem ctX3_wouldFetch_r (l : Launch) (D : va_G) (cI cZ : ClassId) (q : Nat → Nat) (u : SM) (n : Nat) (hn : u 15 0 = nI n) (h60 : n ≤ 60) (p0 p1 z : Int32) (hz : (mNoF p0 p1 (u 5)) = z) (hz0 : ¬ z = 0) : gM l yX3_wouldFetch wsX3_wouldFetch rmX3_wouldFetch_r D [(cI, .int), (cZ, .boolean)] (MW cI cZ q) (fun _ => True) [.ref (q 0), .int p0, .int p1] u (some (.int 0)) (mS u 14 (fun _ => z)) := by
  refine g_start (cc := cX3_wouldFetch) (maxL := 5) (ret := (some .int)) (by decide) rfl (Nat.le_of_ble_eq_true rfl) ?_
  intro p e s m below meth c A ls Q hx hb hml hret hts hown hlk hE hP hK hD hA hl hQ hS
  have hown : s.vm.findClass RX3 = some m.cls := hown
  have hl : lv_has ls 5 [(0, .ref (q 0)), (1, .int p0), (2, .int p1)] := hl
  refine lv_aload_n hx hb dX3_wouldFetch_0 rfl (lv_at hl 0 rfl) ?_
  refine lv_iload_n hx hb dX3_wouldFetch_1 rfl (lv_at hl 1 rfl) ?_
  refine lv_iload_n hx hb dX3_wouldFetch_2 rfl (lv_at hl 2 rfl) ?_
  refine g_callV (As := [.int p0, .int p1]) (rest := []) hx hb hml hown hts (ctX3_noFetch_r l D cI cZ q u n hn h60 p0 p1 z hz hz0) gX3_wouldFetch_X3_noFetch rfl rfl rfl hdX3_noFetch ⟨Nat.le_of_ble_eq_true rfl, Nat.le_of_ble_eq_true rfl⟩ gEM_true trivial hP hK hD hS hA 0 rfl rfl rfl hl.1 rfl (Nat.le_of_ble_eq_true rfl) dX3_wouldFetch_3 ⟨Nat.zero_le _, Nat.zero_le _⟩ (fun H locs hP hD hS => ?_)
  obtain ⟨hP, hD⟩ := g_toPD hP hD (MW_ext (Y := (mS u 14 (fun _ => z))) (by refine ⟨?_, ?_, ?_, ?_, ?_, ?_, ?_, ?_, ?_, ?_, ?_, ?_, ?_, ?_, ?_, ?_, ?_, ?_⟩ <;> simp only [mS_at, ↓reduceIte, Nat.reduceEqDiff] <;> rfl))
  refine W.eq (g2 := F0 m 6 ls [.int 1]) rfl ?_
  refine lv_if_eq (tgt := 11) hx hb dX3_wouldFetch_6 (by decide) (fun c_6 => ?_) (fun c_6 => ?_)
  · exact absurd c_6 (by decide)
  · refine lv_iconst (v := 0) hx hb dX3_wouldFetch_9 (by decide +kernel) ?_
    refine g_iret (u1 := (mS u 14 (fun _ => z))) hx hb hret hlk hQ hP hD hS dX3_wouldFetch_10 ?_ ?_
    · exact rfl
    · exact rfl
