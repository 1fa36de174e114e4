theorem lkX3_collect_19 : Cond.fieldLink RX3 19 "FetchHouseModel" "hasCommit" "[Z" ∈ wsX3_collect := List.mem_of_getElem? (i := 4) (by decide +kernel)
theorem lkX3_collect_23 : Cond.fieldLink RX3 23 "FetchHouseModel" "hasFile" "[Z" ∈ wsX3_collect := List.mem_of_getElem? (i := 5) (by decide +kernel)
theorem lkX3_collect_26 : Cond.fieldLink RX3 26 "FetchHouseModel" "refs" "[I" ∈ wsX3_collect := List.mem_of_getElem? (i := 1) (by decide +kernel)
theorem lkX3_collect_41 : Cond.fieldLink RX3 41 "FetchHouseModel" "marks" "[Z" ∈ wsX3_collect := List.mem_of_getElem? (i := 3) (by decide +kernel)
theorem lkX3_collect_61 : Cond.fieldLink RX3 61 "FetchHouseModel" "made" "I" ∈ wsX3_collect := List.mem_of_getElem? (i := 2) (by decide +kernel)
abbrev rmX3_collect_0 : Room := { frames := 6, cells := 0, slots := 0, locals := 130 }
set_option maxHeartbeats 4000000 in
set_option maxRecDepth 100000 in
theorem ctX3_collect_0 (l : Launch) (D : va_G) (cI cZ : ClassId) (q : Nat → Nat) (u : SM) (n : Nat) (hn : u 15 0 = nI n) (h60 : n ≤ 60) : gM l yX3_collect wsX3_collect rmX3_collect_0 D [(cI, .int), (cZ, .boolean)] (MW cI cZ q) (fun _ => True) [.ref (q 0), .int 0] u (some (.int (itU (mColC n 0 (mOn0 n (u 3) (u 0) (u 1) (mColM n (u 3) 0 (u 5) (u 10)))) n 0 (0, u 3)).1)) (mS (mS (mS (mS u 14 (fun _ => 0)) 10 (mOn0 n (u 3) (u 0) (u 1) (mColM n (u 3) 0 (u 5) (u 10)))) 3 (itU (mColC n 0 (mOn0 n (u 3) (u 0) (u 1) (mColM n (u 3) 0 (u 5) (u 10)))) n 0 (0, u 3)).2) 4 (mColFs n (itU (mColC n 0 (mOn0 n (u 3) (u 0) (u 1) (mColM n (u 3) 0 (u 5) (u 10)))) n 0 (0, u 3)).2 0 (u 2) (u 4))) := by
  refine g_start (cc := cX3_collect) (maxL := 4) (ret := (some .int)) (by decide) rfl (Nat.le_of_ble_eq_true rfl) ?_
  intro p e s m below meth c A ls Q hx hb hml hret hts hown hlk hE hP hK hD hA hl hQ hS
  have hown : s.vm.findClass RX3 = some m.cls := hown
  have hl : lv_has ls 4 [(0, .ref (q 0)), (1, .int 0)] := hl
  have hs : ¬ xRange 0 2 = 0 := by decide +kernel
  have hM := m01_on0 (n := n) (hc := u 3) (fi := u 0) (se := u 1) n _ (m01_col n (u 3) 0 (u 5) (u 10))
  refine lv_aload_n hx hb dX3_collect_0 rfl (lv_at hl 0 rfl) ?_
  refine lv_iload_n hx hb dX3_collect_1 rfl (lv_at hl 1 rfl) ?_
  refine g_callS0 (As := [.int 0]) (rest := [.ref (q 0)]) hx hb hml hown hts (ctX3_isStore l D cI cZ q 0) gX3_collect_X3_isStore rfl rfl rfl hdX3_isStore ⟨Nat.le_of_ble_eq_true rfl, Nat.le_of_ble_eq_true rfl⟩ gEM_true trivial hP hK hS hA rfl hl.1 rfl (Nat.le_of_ble_eq_true rfl) dX3_collect_2 ⟨Nat.zero_le _, Nat.zero_le _⟩ (fun H locs hP hS => ?_)
  refine W.eq (g2 := F0 m 5 ls [.int (xRange 0 2), .ref (q 0)]) rfl ?_
  refine lv_if_eq (tgt := 12) hx hb dX3_collect_5 (by decide) (fun c_5 => ?_) (fun c_5 => ?_)
  · exact absurd c_5 hs
  · refine lv_iconst (v := 0) hx hb dX3_collect_8 (by decide +kernel) ?_
    refine lv_goto (tgt := 13) hx hb dX3_collect_9 (by decide) ?_
    refine g_callV (As := [.int 0]) (rest := []) hx hb hml hown hts (ctX3_refused l D cI cZ q u 0) gX3_collect_X3_refused rfl rfl rfl hdX3_refused ⟨Nat.le_of_ble_eq_true rfl, Nat.le_of_ble_eq_true rfl⟩ gEM_true trivial hP hK hD hS hA 0 rfl rfl rfl hl.1 rfl (Nat.le_of_ble_eq_true rfl) dX3_collect_13 ⟨Nat.zero_le _, Nat.zero_le _⟩ (fun H locs hP hD hS => ?_)
    obtain ⟨hP, hD⟩ := g_toPD hP hD (MW_ext (Y := (mS u 14 (fun _ => 0))) (by refine ⟨?_, ?_, ?_, ?_, ?_, ?_, ?_, ?_, ?_, ?_, ?_, ?_, ?_, ?_, ?_, ?_, ?_, ?_⟩ <;> simp only [mS_at, ↓reduceIte, Nat.reduceEqDiff] <;> rfl))
    refine W.eq (g2 := F0 m 16 ls [.int (if 0 = 0 then 0 else 1)]) rfl ?_
    refine lv_if_eq (tgt := 21) hx hb dX3_collect_16 (by decide) (fun c_16 => ?_) (fun c_16 => ?_)
    · refine lv_aload_n hx hb dX3_collect_21 rfl (lv_at hl 0 rfl) ?_
      refine g_callV (As := []) (rest := []) hx hb hml hown hts (ctX3_clear l D cI cZ q (mS u 14 (fun _ => 0))) gX3_collect_X3_clear rfl rfl rfl hdX3_clear ⟨Nat.le_of_ble_eq_true rfl, Nat.le_of_ble_eq_true rfl⟩ gEM_true trivial hP hK hD hS hA 0 rfl rfl rfl hl.1 rfl (Nat.le_of_ble_eq_true rfl) dX3_collect_22 ⟨Nat.zero_le _, Nat.zero_le _⟩ (fun H locs hP hD hS => ?_)
      obtain ⟨hP, hD⟩ := g_toPD hP hD (MW_ext (Y := (mS (mS u 14 (fun _ => 0)) 10 (mClr (u 10)))) (by refine ⟨?_, ?_, ?_, ?_, ?_, ?_, ?_, ?_, ?_, ?_, ?_, ?_, ?_, ?_, ?_, ?_, ?_, ?_⟩ <;> simp only [mS_at, ↓reduceIte, Nat.reduceEqDiff] <;> rfl))
      refine W.eq (g2 := F0 m 25 ls []) rfl ?_
      refine lv_iconst (v := (nI 0)) hx hb dX3_collect_25 (by decide +kernel) ?_
      refine lv_istore_n (lv' := [(2, .int (nI 0)), (0, .ref (q 0)), (1, .int 0)]) hx hb dX3_collect_26 rfl hl (by decide) rfl (fun ls hl => ?_)
      have l1 : ∀ (d k : Nat) (mk : Nat → Int32) (H : Heap) (locs : List Loc) (ls : Array Slot) (hP : va_P D vwCl (MW cI cZ q (mS (mS u 10 mk) 14 (fun _ => 0))) H) (hD : va_D A (MW cI cZ q (mS (mS u 10 mk) 14 (fun _ => 0)))) (hS : va_S A s.heap H locs) (hl : lv_has ls 4 [(0, .ref (q 0)), (1, .int 0), (2, .int (nI k))]) (hk : k + d = 4) (hr : itU (mColStep n (u 3) 0 (u 5)) d k mk = (mColM n (u 3) 0 (u 5) (u 10))), W p l e rmX3_collect_0 s m ([.ref (q 0), .int 0] : List Value).toArray below meth c H locs 0 0 Q (F0 m 27 ls []) := by
        intro d
        induction d with
        | zero =>
          intro k mk H locs ls hP hD hS hl hk hr
          refine lv_iload_n hx hb dX3_collect_27 rfl (lv_at hl 2 rfl) ?_
          refine lv_iconst (v := 4) hx hb dX3_collect_28 (by decide +kernel) ?_
          refine lv_icmp_ge (tgt := 53) hx hb dX3_collect_29 (by decide) (fun c_29 => ?_) (fun c_29 => ?_)
          · have n_29 : 4 ≤ k := (g_leI (a := 4) (b := k) rfl rfl (by decide) (by omega)).mp c_29
            refine lv_aload_n hx hb dX3_collect_53 rfl (lv_at hl 0 rfl) ?_
            refine lv_iload_n hx hb dX3_collect_54 rfl (lv_at hl 1 rfl) ?_
            refine g_callV (As := [.int 0]) (rest := []) hx hb hml hown hts (ctX3_markOn_0 l D cI cZ q (mS (mS u 10 mk) 14 (fun _ => 0)) n hn h60) gX3_collect_X3_markOn rfl rfl rfl hdX3_markOn ⟨Nat.le_of_ble_eq_true rfl, Nat.le_of_ble_eq_true rfl⟩ gEM_true trivial hP hK hD hS hA 0 rfl rfl rfl hl.1 rfl (Nat.le_of_ble_eq_true rfl) dX3_collect_55 ⟨Nat.zero_le _, Nat.zero_le _⟩ (fun H locs hP hD hS => ?_)
            obtain ⟨hP, hD⟩ := g_toPD hP hD (MW_ext (Y := (mS (mS (mS u 10 mk) 14 (fun _ => 0)) 10 (mOn0 n (u 3) (u 0) (u 1) mk))) (by refine ⟨?_, ?_, ?_, ?_, ?_, ?_, ?_, ?_, ?_, ?_, ?_, ?_, ?_, ?_, ?_, ?_, ?_, ?_⟩ <;> simp only [mS_at, ↓reduceIte, Nat.reduceEqDiff] <;> rfl))
            refine W.eq (g2 := F0 m 58 ls []) rfl ?_
            refine lv_iconst (v := 0) hx hb dX3_collect_58 (by decide +kernel) ?_
            refine lv_istore_n (lv' := [(2, .int 0), (0, .ref (q 0)), (1, .int 0)]) hx hb dX3_collect_59 rfl hl (by decide) rfl (fun ls hl => ?_)
            refine lv_iconst (v := (nI 0)) hx hb dX3_collect_60 (by decide +kernel) ?_
            refine lv_istore_n (lv' := [(3, .int (nI 0)), (2, .int 0), (0, .ref (q 0)), (1, .int 0)]) hx hb dX3_collect_61 rfl hl (by decide) rfl (fun ls hl => ?_)
            have l2 : ∀ (d2 k2 : Nat) (cn : Int32) (hc2 : Nat → Int32) (H : Heap) (locs : List Loc) (ls : Array Slot) (hP : va_P D vwCl (MW cI cZ q (mS (mS (mS u 3 hc2) 10 (mOn0 n (u 3) (u 0) (u 1) (mColM n (u 3) 0 (u 5) (u 10)))) 14 (fun _ => 0))) H) (hD : va_D A (MW cI cZ q (mS (mS (mS u 3 hc2) 10 (mOn0 n (u 3) (u 0) (u 1) (mColM n (u 3) 0 (u 5) (u 10)))) 14 (fun _ => 0)))) (hS : va_S A s.heap H locs) (hl : lv_has ls 4 [(0, .ref (q 0)), (1, .int 0), (2, .int cn), (3, .int (nI k2))]) (hk2 : k2 + d2 = n) (hr2 : itU (mColC n 0 (mOn0 n (u 3) (u 0) (u 1) (mColM n (u 3) 0 (u 5) (u 10)))) d2 k2 (cn, hc2) = (itU (mColC n 0 (mOn0 n (u 3) (u 0) (u 1) (mColM n (u 3) 0 (u 5) (u 10)))) n 0 (0, u 3))), W p l e rmX3_collect_0 s m ([.ref (q 0), .int 0] : List Value).toArray below meth c H locs 0 0 Q (F0 m 62 ls []) := by
              intro d2
              induction d2 with
              | zero =>
                intro k2 cn hc2 H locs ls hP hD hS hl hk2 hr2
                refine lv_iload_n hx hb dX3_collect_62 rfl (lv_at hl 3 rfl) ?_
                refine lv_aload_n hx hb dX3_collect_63 rfl (lv_at hl 0 rfl) ?_
                refine va_get (ci := 3) (v := .int (nI n)) (C := RX3) (T := TX3) (N := 18) hx hb hts inX3_collect_RX3 hown hK hP 0 rfl rfl 1 (by decide) (hts _ lkX3_collect_61) (fun _ h9 => h9) (congrArg (fun z => some (Value.int z)) hn) dX3_collect_64 ?_
                refine lv_icmp_ge (tgt := 119) hx hb dX3_collect_67 (by decide) (fun c_67 => ?_) (fun c_67 => ?_)
                · have n_67 : n ≤ k2 := (g_leI (a := n) (b := k2) rfl rfl (by omega) (by omega)).mp c_67
                  have hF1 : cn = (itU (mColC n 0 (mOn0 n (u 3) (u 0) (u 1) (mColM n (u 3) 0 (u 5) (u 10)))) n 0 (0, u 3)).1 := congrArg Prod.fst hr2
                  have hF2 : hc2 = (itU (mColC n 0 (mOn0 n (u 3) (u 0) (u 1) (mColM n (u 3) 0 (u 5) (u 10)))) n 0 (0, u 3)).2 := congrArg Prod.snd hr2
                  refine lv_iconst (v := (nI 0)) hx hb dX3_collect_119 (by decide +kernel) ?_
                  refine lv_istore_n (lv' := [(3, .int (nI 0)), (0, .ref (q 0)), (1, .int 0), (2, .int cn)]) hx hb dX3_collect_120 rfl hl (by decide) rfl (fun ls hl => ?_)
                  have l3 : ∀ (d3 k3 : Nat) (hf : Nat → Int32) (H : Heap) (locs : List Loc) (ls : Array Slot) (hP : va_P D vwCl (MW cI cZ q (mS (mS (mS (mS u 3 hc2) 4 hf) 10 (mOn0 n (u 3) (u 0) (u 1) (mColM n (u 3) 0 (u 5) (u 10)))) 14 (fun _ => 0))) H) (hD : va_D A (MW cI cZ q (mS (mS (mS (mS u 3 hc2) 4 hf) 10 (mOn0 n (u 3) (u 0) (u 1) (mColM n (u 3) 0 (u 5) (u 10)))) 14 (fun _ => 0)))) (hS : va_S A s.heap H locs) (hl : lv_has ls 4 [(0, .ref (q 0)), (1, .int 0), (2, .int cn), (3, .int (nI k3))]) (hk3 : k3 + d3 = 100) (hr3 : itU (mColF n hc2 0 (u 2)) d3 k3 hf = (mColFs n hc2 0 (u 2) (u 4))), W p l e rmX3_collect_0 s m ([.ref (q 0), .int 0] : List Value).toArray below meth c H locs 0 0 Q (F0 m 121 ls []) := by
                    intro d3
                    induction d3 with
                    | zero =>
                      intro k3 hf H locs ls hP hD hS hl hk3 hr3
                      refine lv_iload_n hx hb dX3_collect_121 rfl (lv_at hl 3 rfl) ?_
                      refine lv_bipush (v := 100) hx hb dX3_collect_122 (by decide +kernel) ?_
                      refine lv_icmp_ge (tgt := 172) hx hb dX3_collect_124 (by decide) (fun c_124 => ?_) (fun c_124 => ?_)
                      · have n_124 : 100 ≤ k3 := (g_leI (a := 100) (b := k3) rfl rfl (by decide) (by omega)).mp c_124
                        refine lv_iload_n hx hb dX3_collect_172 rfl (lv_at hl 2 rfl) ?_
                        refine g_iret (u1 := (mS (mS (mS (mS u 3 hc2) 4 hf) 10 (mOn0 n (u 3) (u 0) (u 1) (mColM n (u 3) 0 (u 5) (u 10)))) 14 (fun _ => 0))) hx hb hret hlk hQ hP hD hS dX3_collect_173 ?_ ?_
                        · exact (by rw [← hF1])
                        · exact (by rw [← hF2, ← hr3] <;> exact (MW_ext (by refine ⟨?_, ?_, ?_, ?_, ?_, ?_, ?_, ?_, ?_, ?_, ?_, ?_, ?_, ?_, ?_, ?_, ?_, ?_⟩ <;> simp only [mS_at, ↓reduceIte, Nat.reduceEqDiff] <;> rfl)))
                      · have n_124 : ¬ 100 ≤ k3 := fun h => c_124 ((g_leI (a := 100) (b := k3) rfl rfl (by decide) (by omega)).mpr h)
                        exfalso; omega
                    | succ d3 ih =>
                      intro k3 hf H locs ls hP hD hS hl hk3 hr3
                      refine lv_iload_n hx hb dX3_collect_121 rfl (lv_at hl 3 rfl) ?_
                      refine lv_bipush (v := 100) hx hb dX3_collect_122 (by decide +kernel) ?_
                      refine lv_icmp_ge (tgt := 172) hx hb dX3_collect_124 (by decide) (fun c_124 => ?_) (fun c_124 => ?_)
                      · have n_124 : 100 ≤ k3 := (g_leI (a := 100) (b := k3) rfl rfl (by decide) (by omega)).mp c_124
                        exfalso; omega
                      · have n_124 : ¬ 100 ≤ k3 := fun h => c_124 ((g_leI (a := 100) (b := k3) rfl rfl (by decide) (by omega)).mpr h)
                        refine lv_aload_n hx hb dX3_collect_127 rfl (lv_at hl 0 rfl) ?_
                        refine va_get (ci := 3) (v := .ref (q 5)) (C := RX3) (T := TX3) (N := 18) hx hb hts inX3_collect_RX3 hown hK hP 0 rfl rfl 6 (by decide) (hts _ lkX3_collect_23) (fun _ h9 => h9) rfl dX3_collect_128 ?_
                        refine lv_bipush (v := 100) hx hb dX3_collect_131 (by decide +kernel) ?_
                        refine lv_iload_n hx hb dX3_collect_133 rfl (lv_at hl 1 rfl) ?_
                        refine lv_imul hx hb dX3_collect_134 ?_
                        refine lv_iload_n hx hb dX3_collect_135 rfl (lv_at hl 3 rfl) ?_
                        refine lv_iadd hx hb dX3_collect_136 ?_
                        refine lv_aload_n hx hb dX3_collect_137 rfl (lv_at hl 0 rfl) ?_
                        refine va_get (ci := 3) (v := .ref (q 5)) (C := RX3) (T := TX3) (N := 18) hx hb hts inX3_collect_RX3 hown hK hP 0 rfl rfl 6 (by decide) (hts _ lkX3_collect_23) (fun _ h9 => h9) rfl dX3_collect_138 ?_
                        refine lv_bipush (v := 100) hx hb dX3_collect_141 (by decide +kernel) ?_
                        refine lv_iload_n hx hb dX3_collect_143 rfl (lv_at hl 1 rfl) ?_
                        refine lv_imul hx hb dX3_collect_144 ?_
                        refine lv_iload_n hx hb dX3_collect_145 rfl (lv_at hl 3 rfl) ?_
                        refine lv_iadd hx hb dX3_collect_146 ?_
                        refine g_zald (n := 200) (f := hf) hx hb hK hP 5 1 (by rw [MW_get_4, show (mS (mS (mS (mS u 3 hc2) 4 hf) 10 (mOn0 n (u 3) (u 0) (u 1) (mColM n (u 3) 0 (u 5) (u 10)))) 14 (fun _ => 0)) 4 = hf from by simp only [mS_at, ↓reduceIte, Nat.reduceEqDiff]]) rfl (100 * 0 + k3) (by omega) (by omega) (g_addE (g_mulE rfl rfl) rfl) dX3_collect_147 ?_
                        refine lv_if_eq (tgt := 164) hx hb dX3_collect_148 (by decide) (fun c_148 => ?_) (fun c_148 => ?_)
                        · refine lv_iconst (v := 0) hx hb dX3_collect_164 (by decide +kernel) ?_
                          refine g_zast (n := 200) (f := hf) (u' := (mS (mS (mS (mS (mS u 3 hc2) 4 hf) 10 (mOn0 n (u 3) (u 0) (u 1) (mColM n (u 3) 0 (u 5) (u 10)))) 14 (fun _ => 0)) 4 (upd hf (100 * 0 + k3) 0))) hx hb hK hP hD hS 5 1 (by rw [MW_get_4, show (mS (mS (mS (mS u 3 hc2) 4 hf) 10 (mOn0 n (u 3) (u 0) (u 1) (mColM n (u 3) 0 (u 5) (u 10)))) 14 (fun _ => 0)) 4 = hf from by simp only [mS_at, ↓reduceIte, Nat.reduceEqDiff]]) rfl (100 * 0 + k3) (by omega) (by omega) (g_addE (g_mulE rfl rfl) rfl) rfl (MW_set_4 _ _) dX3_collect_165 (fun H locs hP hD hS => ?_)
                          refine lv_iinc (v := (nI (k3 + 1))) (lv' := [(3, .int (nI (k3 + 1))), (0, .ref (q 0)), (1, .int 0), (2, .int cn)]) hx hb dX3_collect_166 hl (k := 3) rfl (nI_1 _) (by decide) rfl (fun ls hl => ?_)
                          refine lv_goto (tgt := 121) hx hb dX3_collect_169 (by decide) ?_
                          rw [show MW cI cZ q (mS (mS (mS (mS (mS u 3 hc2) 4 hf) 10 (mOn0 n (u 3) (u 0) (u 1) (mColM n (u 3) 0 (u 5) (u 10)))) 14 (fun _ => 0)) 4 (upd hf (100 * 0 + k3) 0)) = MW cI cZ q (mS (mS (mS (mS u 3 hc2) 4 (upd hf (100 * 0 + k3) 0)) 10 (mOn0 n (u 3) (u 0) (u 1) (mColM n (u 3) 0 (u 5) (u 10)))) 14 (fun _ => 0)) from (MW_ext (by refine ⟨?_, ?_, ?_, ?_, ?_, ?_, ?_, ?_, ?_, ?_, ?_, ?_, ?_, ?_, ?_, ?_, ?_, ?_⟩ <;> simp only [mS_at, ↓reduceIte, Nat.reduceEqDiff] <;> rfl))] at hP hD
                          exact ih (k3 + 1) (upd hf (100 * 0 + k3) 0) _ _ _ hP hD hS (lv_sub hl [1, 2, 3, 0] rfl) (by omega) (by rw [← hr3]; show _ = itU _ d3 (k3 + 1) (mColF n hc2 0 (u 2) k3 hf); rw [show mColF n hc2 0 (u 2) k3 hf = (upd hf (100 * 0 + k3) 0) from by unfold mColF; rw [if_pos c_148]])
                        · refine lv_aload_n hx hb dX3_collect_151 rfl (lv_at hl 0 rfl) ?_
                          refine lv_iload_n hx hb dX3_collect_152 rfl (lv_at hl 1 rfl) ?_
                          refine lv_iload_n hx hb dX3_collect_153 rfl (lv_at hl 3 rfl) ?_
                          refine g_callV (As := [.int 0, .int (nI k3)]) (rest := [.int ((100 * 0) + (nI k3)), .ref (q 5)]) hx hb hml hown hts (ctX3_isNeeded_0 l D cI cZ q (mS (mS (mS (mS u 3 hc2) 4 hf) 10 (mOn0 n (u 3) (u 0) (u 1) (mColM n (u 3) 0 (u 5) (u 10)))) 14 (fun _ => 0)) n hn h60 (nI k3)) gX3_collect_X3_isNeeded rfl rfl rfl hdX3_isNeeded ⟨Nat.le_of_ble_eq_true rfl, Nat.le_of_ble_eq_true rfl⟩ gEM_true trivial hP hK hD hS hA 0 rfl rfl rfl hl.1 rfl (Nat.le_of_ble_eq_true rfl) dX3_collect_154 ⟨Nat.zero_le _, Nat.zero_le _⟩ (fun H locs hP hD hS => ?_)
                          refine W.eq (g2 := F0 m 157 ls [.int (mNeed n hc2 0 (u 2) (nI k3)), .int ((100 * 0) + (nI k3)), .ref (q 5)]) rfl ?_
                          refine lv_if_eq (tgt := 164) hx hb dX3_collect_157 (by decide) (fun c_157 => ?_) (fun c_157 => ?_)
                          · refine lv_iconst (v := 0) hx hb dX3_collect_164 (by decide +kernel) ?_
                            refine g_zast (n := 200) (f := hf) (u' := (mS (mS (mS (mS (mS u 3 hc2) 4 hf) 10 (mOn0 n (u 3) (u 0) (u 1) (mColM n (u 3) 0 (u 5) (u 10)))) 14 (fun _ => 0)) 4 (upd hf (100 * 0 + k3) 0))) hx hb hK hP hD hS 5 1 (by rw [MW_get_4, show (mS (mS (mS (mS u 3 hc2) 4 hf) 10 (mOn0 n (u 3) (u 0) (u 1) (mColM n (u 3) 0 (u 5) (u 10)))) 14 (fun _ => 0)) 4 = hf from by simp only [mS_at, ↓reduceIte, Nat.reduceEqDiff]]) rfl (100 * 0 + k3) (by omega) (by omega) (g_addE (g_mulE rfl rfl) rfl) rfl (MW_set_4 _ _) dX3_collect_165 (fun H locs hP hD hS => ?_)
                            refine lv_iinc (v := (nI (k3 + 1))) (lv' := [(3, .int (nI (k3 + 1))), (0, .ref (q 0)), (1, .int 0), (2, .int cn)]) hx hb dX3_collect_166 hl (k := 3) rfl (nI_1 _) (by decide) rfl (fun ls hl => ?_)
                            refine lv_goto (tgt := 121) hx hb dX3_collect_169 (by decide) ?_
                            rw [show MW cI cZ q (mS (mS (mS (mS (mS u 3 hc2) 4 hf) 10 (mOn0 n (u 3) (u 0) (u 1) (mColM n (u 3) 0 (u 5) (u 10)))) 14 (fun _ => 0)) 4 (upd hf (100 * 0 + k3) 0)) = MW cI cZ q (mS (mS (mS (mS u 3 hc2) 4 (upd hf (100 * 0 + k3) 0)) 10 (mOn0 n (u 3) (u 0) (u 1) (mColM n (u 3) 0 (u 5) (u 10)))) 14 (fun _ => 0)) from (MW_ext (by refine ⟨?_, ?_, ?_, ?_, ?_, ?_, ?_, ?_, ?_, ?_, ?_, ?_, ?_, ?_, ?_, ?_, ?_, ?_⟩ <;> simp only [mS_at, ↓reduceIte, Nat.reduceEqDiff] <;> rfl))] at hP hD
                            exact ih (k3 + 1) (upd hf (100 * 0 + k3) 0) _ _ _ hP hD hS (lv_sub hl [1, 2, 3, 0] rfl) (by omega) (by rw [← hr3]; show _ = itU _ d3 (k3 + 1) (mColF n hc2 0 (u 2) k3 hf); rw [show mColF n hc2 0 (u 2) k3 hf = (upd hf (100 * 0 + k3) 0) from by unfold mColF; rw [if_neg c_148, if_pos c_157]])
                          · refine lv_iconst (v := 1) hx hb dX3_collect_160 (by decide +kernel) ?_
                            refine lv_goto (tgt := 165) hx hb dX3_collect_161 (by decide) ?_
                            refine g_zast (n := 200) (f := hf) (u' := (mS (mS (mS (mS (mS u 3 hc2) 4 hf) 10 (mOn0 n (u 3) (u 0) (u 1) (mColM n (u 3) 0 (u 5) (u 10)))) 14 (fun _ => 0)) 4 (upd hf (100 * 0 + k3) 1))) hx hb hK hP hD hS 5 1 (by rw [MW_get_4, show (mS (mS (mS (mS u 3 hc2) 4 hf) 10 (mOn0 n (u 3) (u 0) (u 1) (mColM n (u 3) 0 (u 5) (u 10)))) 14 (fun _ => 0)) 4 = hf from by simp only [mS_at, ↓reduceIte, Nat.reduceEqDiff]]) rfl (100 * 0 + k3) (by omega) (by omega) (g_addE (g_mulE rfl rfl) rfl) rfl (MW_set_4 _ _) dX3_collect_165 (fun H locs hP hD hS => ?_)
                            refine lv_iinc (v := (nI (k3 + 1))) (lv' := [(3, .int (nI (k3 + 1))), (0, .ref (q 0)), (1, .int 0), (2, .int cn)]) hx hb dX3_collect_166 hl (k := 3) rfl (nI_1 _) (by decide) rfl (fun ls hl => ?_)
                            refine lv_goto (tgt := 121) hx hb dX3_collect_169 (by decide) ?_
                            rw [show MW cI cZ q (mS (mS (mS (mS (mS u 3 hc2) 4 hf) 10 (mOn0 n (u 3) (u 0) (u 1) (mColM n (u 3) 0 (u 5) (u 10)))) 14 (fun _ => 0)) 4 (upd hf (100 * 0 + k3) 1)) = MW cI cZ q (mS (mS (mS (mS u 3 hc2) 4 (upd hf (100 * 0 + k3) 1)) 10 (mOn0 n (u 3) (u 0) (u 1) (mColM n (u 3) 0 (u 5) (u 10)))) 14 (fun _ => 0)) from (MW_ext (by refine ⟨?_, ?_, ?_, ?_, ?_, ?_, ?_, ?_, ?_, ?_, ?_, ?_, ?_, ?_, ?_, ?_, ?_, ?_⟩ <;> simp only [mS_at, ↓reduceIte, Nat.reduceEqDiff] <;> rfl))] at hP hD
                            exact ih (k3 + 1) (upd hf (100 * 0 + k3) 1) _ _ _ hP hD hS (lv_sub hl [1, 2, 3, 0] rfl) (by omega) (by rw [← hr3]; show _ = itU _ d3 (k3 + 1) (mColF n hc2 0 (u 2) k3 hf); rw [show mColF n hc2 0 (u 2) k3 hf = (upd hf (100 * 0 + k3) 1) from by unfold mColF; rw [if_neg c_148, if_neg c_157]])
                  rw [show MW cI cZ q (mS (mS (mS u 3 hc2) 10 (mOn0 n (u 3) (u 0) (u 1) (mColM n (u 3) 0 (u 5) (u 10)))) 14 (fun _ => 0)) = MW cI cZ q (mS (mS (mS (mS u 3 hc2) 4 (u 4)) 10 (mOn0 n (u 3) (u 0) (u 1) (mColM n (u 3) 0 (u 5) (u 10)))) 14 (fun _ => 0)) from (MW_ext (by refine ⟨?_, ?_, ?_, ?_, ?_, ?_, ?_, ?_, ?_, ?_, ?_, ?_, ?_, ?_, ?_, ?_, ?_, ?_⟩ <;> simp only [mS_at, ↓reduceIte, Nat.reduceEqDiff] <;> rfl))] at hP hD
                  exact l3 100 0 (u 4) _ _ _ hP hD hS (lv_sub hl [1, 2, 3, 0] rfl) (by omega) (opq_eq _).symm
                · have n_67 : ¬ n ≤ k2 := fun h => c_67 ((g_leI (a := n) (b := k2) rfl rfl (by omega) (by omega)).mpr h)
                  exfalso; omega
              | succ d2 ih =>
                intro k2 cn hc2 H locs ls hP hD hS hl hk2 hr2
                refine lv_iload_n hx hb dX3_collect_62 rfl (lv_at hl 3 rfl) ?_
                refine lv_aload_n hx hb dX3_collect_63 rfl (lv_at hl 0 rfl) ?_
                refine va_get (ci := 3) (v := .int (nI n)) (C := RX3) (T := TX3) (N := 18) hx hb hts inX3_collect_RX3 hown hK hP 0 rfl rfl 1 (by decide) (hts _ lkX3_collect_61) (fun _ h9 => h9) (congrArg (fun z => some (Value.int z)) hn) dX3_collect_64 ?_
                refine lv_icmp_ge (tgt := 119) hx hb dX3_collect_67 (by decide) (fun c_67 => ?_) (fun c_67 => ?_)
                · have n_67 : n ≤ k2 := (g_leI (a := n) (b := k2) rfl rfl (by omega) (by omega)).mp c_67
                  exfalso; omega
                · have n_67 : ¬ n ≤ k2 := fun h => c_67 ((g_leI (a := n) (b := k2) rfl rfl (by omega) (by omega)).mpr h)
                  refine lv_iload_n hx hb dX3_collect_70 rfl (lv_at hl 2 rfl) ?_
                  refine lv_aload_n hx hb dX3_collect_71 rfl (lv_at hl 0 rfl) ?_
                  refine lv_iload_n hx hb dX3_collect_72 rfl (lv_at hl 1 rfl) ?_
                  refine lv_iload_n hx hb dX3_collect_73 rfl (lv_at hl 3 rfl) ?_
                  refine g_callV (As := [.int 0, .int (nI k2)]) (rest := [.int cn]) hx hb hml hown hts (ctX3_isIn_0 l D cI cZ q (mS (mS (mS u 3 hc2) 10 (mOn0 n (u 3) (u 0) (u 1) (mColM n (u 3) 0 (u 5) (u 10)))) 14 (fun _ => 0)) n hn h60 (nI k2)) gX3_collect_X3_isIn rfl rfl rfl hdX3_isIn ⟨Nat.le_of_ble_eq_true rfl, Nat.le_of_ble_eq_true rfl⟩ gEM_true trivial hP hK hD hS hA 0 rfl rfl rfl hl.1 rfl (Nat.le_of_ble_eq_true rfl) dX3_collect_74 ⟨Nat.zero_le _, Nat.zero_le _⟩ (fun H locs hP hD hS => ?_)
                  refine W.eq (g2 := F0 m 77 ls [.int (mHas n hc2 0 (nI k2)), .int cn]) rfl ?_
                  refine lv_if_eq (tgt := 93) hx hb dX3_collect_77 (by decide) (fun c_77 => ?_) (fun c_77 => ?_)
                  · refine lv_iconst (v := 0) hx hb dX3_collect_93 (by decide +kernel) ?_
                    refine lv_iadd hx hb dX3_collect_94 ?_
                    refine lv_istore_n (lv' := [(2, .int (cn + 0)), (0, .ref (q 0)), (1, .int 0), (3, .int (nI k2))]) hx hb dX3_collect_95 rfl hl (by decide) rfl (fun ls hl => ?_)
                    refine lv_aload_n hx hb dX3_collect_96 rfl (lv_at hl 1 rfl) ?_
                    refine va_get (ci := 3) (v := .ref (q 4)) (C := RX3) (T := TX3) (N := 18) hx hb hts inX3_collect_RX3 hown hK hP 0 rfl rfl 5 (by decide) (hts _ lkX3_collect_19) (fun _ h9 => h9) rfl dX3_collect_97 ?_
                    refine lv_bipush (v := 60) hx hb dX3_collect_100 (by decide +kernel) ?_
                    refine lv_iload_n hx hb dX3_collect_102 rfl (lv_at hl 2 rfl) ?_
                    refine lv_imul hx hb dX3_collect_103 ?_
                    refine lv_iload_n hx hb dX3_collect_104 rfl (lv_at hl 3 rfl) ?_
                    refine lv_iadd hx hb dX3_collect_105 ?_
                    refine lv_aload_n hx hb dX3_collect_106 rfl (lv_at hl 1 rfl) ?_
                    refine va_get (ci := 3) (v := .ref (q 11)) (C := RX3) (T := TX3) (N := 18) hx hb hts inX3_collect_RX3 hown hK hP 0 rfl rfl 14 (by decide) (hts _ lkX3_collect_41) (fun _ h9 => h9) rfl dX3_collect_107 ?_
                    refine lv_iload_n hx hb dX3_collect_110 rfl (lv_at hl 3 rfl) ?_
                    refine g_zald (n := 60) (f := (mOn0 n (u 3) (u 0) (u 1) (mColM n (u 3) 0 (u 5) (u 10)))) hx hb hK hP 11 1 (by rw [MW_get_10, show (mS (mS (mS u 3 hc2) 10 (mOn0 n (u 3) (u 0) (u 1) (mColM n (u 3) 0 (u 5) (u 10)))) 14 (fun _ => 0)) 10 = (mOn0 n (u 3) (u 0) (u 1) (mColM n (u 3) 0 (u 5) (u 10))) from by simp only [mS_at, ↓reduceIte, Nat.reduceEqDiff]]) rfl k2 (by omega) (by omega) rfl dX3_collect_111 ?_
                    refine g_zast (n := 120) (f := hc2) (u' := (mS (mS (mS (mS u 3 hc2) 10 (mOn0 n (u 3) (u 0) (u 1) (mColM n (u 3) 0 (u 5) (u 10)))) 14 (fun _ => 0)) 3 (upd hc2 (60 * 0 + k2) ((mOn0 n (u 3) (u 0) (u 1) (mColM n (u 3) 0 (u 5) (u 10))) k2)))) hx hb hK hP hD hS 4 1 (by rw [MW_get_3, show (mS (mS (mS u 3 hc2) 10 (mOn0 n (u 3) (u 0) (u 1) (mColM n (u 3) 0 (u 5) (u 10)))) 14 (fun _ => 0)) 3 = hc2 from by simp only [mS_at, ↓reduceIte, Nat.reduceEqDiff]]) rfl (60 * 0 + k2) (by omega) (by omega) (g_addE (g_mulE rfl rfl) rfl) (g_vn01 _ (hM k2 (by omega))) (MW_set_3 _ _) dX3_collect_112 (fun H locs hP hD hS => ?_)
                    refine lv_iinc (v := (nI (k2 + 1))) (lv' := [(3, .int (nI (k2 + 1))), (2, .int (cn + 0)), (0, .ref (q 0)), (1, .int 0)]) hx hb dX3_collect_113 hl (k := 3) rfl (nI_1 _) (by decide) rfl (fun ls hl => ?_)
                    refine lv_goto (tgt := 62) hx hb dX3_collect_116 (by decide) ?_
                    rw [show MW cI cZ q (mS (mS (mS (mS u 3 hc2) 10 (mOn0 n (u 3) (u 0) (u 1) (mColM n (u 3) 0 (u 5) (u 10)))) 14 (fun _ => 0)) 3 (upd hc2 (60 * 0 + k2) ((mOn0 n (u 3) (u 0) (u 1) (mColM n (u 3) 0 (u 5) (u 10))) k2))) = MW cI cZ q (mS (mS (mS u 3 (upd hc2 (60 * 0 + k2) ((mOn0 n (u 3) (u 0) (u 1) (mColM n (u 3) 0 (u 5) (u 10))) k2))) 10 (mOn0 n (u 3) (u 0) (u 1) (mColM n (u 3) 0 (u 5) (u 10)))) 14 (fun _ => 0)) from (MW_ext (by refine ⟨?_, ?_, ?_, ?_, ?_, ?_, ?_, ?_, ?_, ?_, ?_, ?_, ?_, ?_, ?_, ?_, ?_, ?_⟩ <;> simp only [mS_at, ↓reduceIte, Nat.reduceEqDiff] <;> rfl))] at hP hD
                    exact ih (k2 + 1) (cn + 0) (upd hc2 (60 * 0 + k2) ((mOn0 n (u 3) (u 0) (u 1) (mColM n (u 3) 0 (u 5) (u 10))) k2)) _ _ _ hP hD hS (lv_sub hl [2, 3, 1, 0] rfl) (by omega) (by rw [← hr2]; show _ = itU _ d2 (k2 + 1) (mColC n 0 (mOn0 n (u 3) (u 0) (u 1) (mColM n (u 3) 0 (u 5) (u 10))) k2 (cn, hc2)); rw [show mColC n 0 (mOn0 n (u 3) (u 0) (u 1) (mColM n (u 3) 0 (u 5) (u 10))) k2 (cn, hc2) = ((cn + 0), (upd hc2 (60 * 0 + k2) ((mOn0 n (u 3) (u 0) (u 1) (mColM n (u 3) 0 (u 5) (u 10))) k2))) from by unfold mColC; rw [if_pos c_77]])
                  · refine lv_aload_n hx hb dX3_collect_80 rfl (lv_at hl 0 rfl) ?_
                    refine va_get (ci := 3) (v := .ref (q 11)) (C := RX3) (T := TX3) (N := 18) hx hb hts inX3_collect_RX3 hown hK hP 0 rfl rfl 14 (by decide) (hts _ lkX3_collect_41) (fun _ h9 => h9) rfl dX3_collect_81 ?_
                    refine lv_iload_n hx hb dX3_collect_84 rfl (lv_at hl 3 rfl) ?_
                    refine g_zald (n := 60) (f := (mOn0 n (u 3) (u 0) (u 1) (mColM n (u 3) 0 (u 5) (u 10)))) hx hb hK hP 11 1 (by rw [MW_get_10, show (mS (mS (mS u 3 hc2) 10 (mOn0 n (u 3) (u 0) (u 1) (mColM n (u 3) 0 (u 5) (u 10)))) 14 (fun _ => 0)) 10 = (mOn0 n (u 3) (u 0) (u 1) (mColM n (u 3) 0 (u 5) (u 10))) from by simp only [mS_at, ↓reduceIte, Nat.reduceEqDiff]]) rfl k2 (by omega) (by omega) rfl dX3_collect_85 ?_
                    refine lv_if_ne (tgt := 93) hx hb dX3_collect_86 (by decide) (fun c_86 => ?_) (fun c_86 => ?_)
                    · refine lv_iconst (v := 0) hx hb dX3_collect_93 (by decide +kernel) ?_
                      refine lv_iadd hx hb dX3_collect_94 ?_
                      refine lv_istore_n (lv' := [(2, .int (cn + 0)), (0, .ref (q 0)), (1, .int 0), (3, .int (nI k2))]) hx hb dX3_collect_95 rfl hl (by decide) rfl (fun ls hl => ?_)
                      refine lv_aload_n hx hb dX3_collect_96 rfl (lv_at hl 1 rfl) ?_
                      refine va_get (ci := 3) (v := .ref (q 4)) (C := RX3) (T := TX3) (N := 18) hx hb hts inX3_collect_RX3 hown hK hP 0 rfl rfl 5 (by decide) (hts _ lkX3_collect_19) (fun _ h9 => h9) rfl dX3_collect_97 ?_
                      refine lv_bipush (v := 60) hx hb dX3_collect_100 (by decide +kernel) ?_
                      refine lv_iload_n hx hb dX3_collect_102 rfl (lv_at hl 2 rfl) ?_
                      refine lv_imul hx hb dX3_collect_103 ?_
                      refine lv_iload_n hx hb dX3_collect_104 rfl (lv_at hl 3 rfl) ?_
                      refine lv_iadd hx hb dX3_collect_105 ?_
                      refine lv_aload_n hx hb dX3_collect_106 rfl (lv_at hl 1 rfl) ?_
                      refine va_get (ci := 3) (v := .ref (q 11)) (C := RX3) (T := TX3) (N := 18) hx hb hts inX3_collect_RX3 hown hK hP 0 rfl rfl 14 (by decide) (hts _ lkX3_collect_41) (fun _ h9 => h9) rfl dX3_collect_107 ?_
                      refine lv_iload_n hx hb dX3_collect_110 rfl (lv_at hl 3 rfl) ?_
                      refine g_zald (n := 60) (f := (mOn0 n (u 3) (u 0) (u 1) (mColM n (u 3) 0 (u 5) (u 10)))) hx hb hK hP 11 1 (by rw [MW_get_10, show (mS (mS (mS u 3 hc2) 10 (mOn0 n (u 3) (u 0) (u 1) (mColM n (u 3) 0 (u 5) (u 10)))) 14 (fun _ => 0)) 10 = (mOn0 n (u 3) (u 0) (u 1) (mColM n (u 3) 0 (u 5) (u 10))) from by simp only [mS_at, ↓reduceIte, Nat.reduceEqDiff]]) rfl k2 (by omega) (by omega) rfl dX3_collect_111 ?_
                      refine g_zast (n := 120) (f := hc2) (u' := (mS (mS (mS (mS u 3 hc2) 10 (mOn0 n (u 3) (u 0) (u 1) (mColM n (u 3) 0 (u 5) (u 10)))) 14 (fun _ => 0)) 3 (upd hc2 (60 * 0 + k2) ((mOn0 n (u 3) (u 0) (u 1) (mColM n (u 3) 0 (u 5) (u 10))) k2)))) hx hb hK hP hD hS 4 1 (by rw [MW_get_3, show (mS (mS (mS u 3 hc2) 10 (mOn0 n (u 3) (u 0) (u 1) (mColM n (u 3) 0 (u 5) (u 10)))) 14 (fun _ => 0)) 3 = hc2 from by simp only [mS_at, ↓reduceIte, Nat.reduceEqDiff]]) rfl (60 * 0 + k2) (by omega) (by omega) (g_addE (g_mulE rfl rfl) rfl) (g_vn01 _ (hM k2 (by omega))) (MW_set_3 _ _) dX3_collect_112 (fun H locs hP hD hS => ?_)
                      refine lv_iinc (v := (nI (k2 + 1))) (lv' := [(3, .int (nI (k2 + 1))), (2, .int (cn + 0)), (0, .ref (q 0)), (1, .int 0)]) hx hb dX3_collect_113 hl (k := 3) rfl (nI_1 _) (by decide) rfl (fun ls hl => ?_)
                      refine lv_goto (tgt := 62) hx hb dX3_collect_116 (by decide) ?_
                      rw [show MW cI cZ q (mS (mS (mS (mS u 3 hc2) 10 (mOn0 n (u 3) (u 0) (u 1) (mColM n (u 3) 0 (u 5) (u 10)))) 14 (fun _ => 0)) 3 (upd hc2 (60 * 0 + k2) ((mOn0 n (u 3) (u 0) (u 1) (mColM n (u 3) 0 (u 5) (u 10))) k2))) = MW cI cZ q (mS (mS (mS u 3 (upd hc2 (60 * 0 + k2) ((mOn0 n (u 3) (u 0) (u 1) (mColM n (u 3) 0 (u 5) (u 10))) k2))) 10 (mOn0 n (u 3) (u 0) (u 1) (mColM n (u 3) 0 (u 5) (u 10)))) 14 (fun _ => 0)) from (MW_ext (by refine ⟨?_, ?_, ?_, ?_, ?_, ?_, ?_, ?_, ?_, ?_, ?_, ?_, ?_, ?_, ?_, ?_, ?_, ?_⟩ <;> simp only [mS_at, ↓reduceIte, Nat.reduceEqDiff] <;> rfl))] at hP hD
                      exact ih (k2 + 1) (cn + 0) (upd hc2 (60 * 0 + k2) ((mOn0 n (u 3) (u 0) (u 1) (mColM n (u 3) 0 (u 5) (u 10))) k2)) _ _ _ hP hD hS (lv_sub hl [2, 3, 1, 0] rfl) (by omega) (by rw [← hr2]; show _ = itU _ d2 (k2 + 1) (mColC n 0 (mOn0 n (u 3) (u 0) (u 1) (mColM n (u 3) 0 (u 5) (u 10))) k2 (cn, hc2)); rw [show mColC n 0 (mOn0 n (u 3) (u 0) (u 1) (mColM n (u 3) 0 (u 5) (u 10))) k2 (cn, hc2) = ((cn + 0), (upd hc2 (60 * 0 + k2) ((mOn0 n (u 3) (u 0) (u 1) (mColM n (u 3) 0 (u 5) (u 10))) k2))) from by unfold mColC; rw [if_neg c_77, if_neg c_86]])
                    · refine lv_iconst (v := 1) hx hb dX3_collect_89 (by decide +kernel) ?_
                      refine lv_goto (tgt := 94) hx hb dX3_collect_90 (by decide) ?_
                      refine lv_iadd hx hb dX3_collect_94 ?_
                      refine lv_istore_n (lv' := [(2, .int (cn + 1)), (0, .ref (q 0)), (1, .int 0), (3, .int (nI k2))]) hx hb dX3_collect_95 rfl hl (by decide) rfl (fun ls hl => ?_)
                      refine lv_aload_n hx hb dX3_collect_96 rfl (lv_at hl 1 rfl) ?_
                      refine va_get (ci := 3) (v := .ref (q 4)) (C := RX3) (T := TX3) (N := 18) hx hb hts inX3_collect_RX3 hown hK hP 0 rfl rfl 5 (by decide) (hts _ lkX3_collect_19) (fun _ h9 => h9) rfl dX3_collect_97 ?_
                      refine lv_bipush (v := 60) hx hb dX3_collect_100 (by decide +kernel) ?_
                      refine lv_iload_n hx hb dX3_collect_102 rfl (lv_at hl 2 rfl) ?_
                      refine lv_imul hx hb dX3_collect_103 ?_
                      refine lv_iload_n hx hb dX3_collect_104 rfl (lv_at hl 3 rfl) ?_
                      refine lv_iadd hx hb dX3_collect_105 ?_
                      refine lv_aload_n hx hb dX3_collect_106 rfl (lv_at hl 1 rfl) ?_
                      refine va_get (ci := 3) (v := .ref (q 11)) (C := RX3) (T := TX3) (N := 18) hx hb hts inX3_collect_RX3 hown hK hP 0 rfl rfl 14 (by decide) (hts _ lkX3_collect_41) (fun _ h9 => h9) rfl dX3_collect_107 ?_
                      refine lv_iload_n hx hb dX3_collect_110 rfl (lv_at hl 3 rfl) ?_
                      refine g_zald (n := 60) (f := (mOn0 n (u 3) (u 0) (u 1) (mColM n (u 3) 0 (u 5) (u 10)))) hx hb hK hP 11 1 (by rw [MW_get_10, show (mS (mS (mS u 3 hc2) 10 (mOn0 n (u 3) (u 0) (u 1) (mColM n (u 3) 0 (u 5) (u 10)))) 14 (fun _ => 0)) 10 = (mOn0 n (u 3) (u 0) (u 1) (mColM n (u 3) 0 (u 5) (u 10))) from by simp only [mS_at, ↓reduceIte, Nat.reduceEqDiff]]) rfl k2 (by omega) (by omega) rfl dX3_collect_111 ?_
                      refine g_zast (n := 120) (f := hc2) (u' := (mS (mS (mS (mS u 3 hc2) 10 (mOn0 n (u 3) (u 0) (u 1) (mColM n (u 3) 0 (u 5) (u 10)))) 14 (fun _ => 0)) 3 (upd hc2 (60 * 0 + k2) ((mOn0 n (u 3) (u 0) (u 1) (mColM n (u 3) 0 (u 5) (u 10))) k2)))) hx hb hK hP hD hS 4 1 (by rw [MW_get_3, show (mS (mS (mS u 3 hc2) 10 (mOn0 n (u 3) (u 0) (u 1) (mColM n (u 3) 0 (u 5) (u 10)))) 14 (fun _ => 0)) 3 = hc2 from by simp only [mS_at, ↓reduceIte, Nat.reduceEqDiff]]) rfl (60 * 0 + k2) (by omega) (by omega) (g_addE (g_mulE rfl rfl) rfl) (g_vn01 _ (hM k2 (by omega))) (MW_set_3 _ _) dX3_collect_112 (fun H locs hP hD hS => ?_)
                      refine lv_iinc (v := (nI (k2 + 1))) (lv' := [(3, .int (nI (k2 + 1))), (2, .int (cn + 1)), (0, .ref (q 0)), (1, .int 0)]) hx hb dX3_collect_113 hl (k := 3) rfl (nI_1 _) (by decide) rfl (fun ls hl => ?_)
                      refine lv_goto (tgt := 62) hx hb dX3_collect_116 (by decide) ?_
                      rw [show MW cI cZ q (mS (mS (mS (mS u 3 hc2) 10 (mOn0 n (u 3) (u 0) (u 1) (mColM n (u 3) 0 (u 5) (u 10)))) 14 (fun _ => 0)) 3 (upd hc2 (60 * 0 + k2) ((mOn0 n (u 3) (u 0) (u 1) (mColM n (u 3) 0 (u 5) (u 10))) k2))) = MW cI cZ q (mS (mS (mS u 3 (upd hc2 (60 * 0 + k2) ((mOn0 n (u 3) (u 0) (u 1) (mColM n (u 3) 0 (u 5) (u 10))) k2))) 10 (mOn0 n (u 3) (u 0) (u 1) (mColM n (u 3) 0 (u 5) (u 10)))) 14 (fun _ => 0)) from (MW_ext (by refine ⟨?_, ?_, ?_, ?_, ?_, ?_, ?_, ?_, ?_, ?_, ?_, ?_, ?_, ?_, ?_, ?_, ?_, ?_⟩ <;> simp only [mS_at, ↓reduceIte, Nat.reduceEqDiff] <;> rfl))] at hP hD
                      exact ih (k2 + 1) (cn + 1) (upd hc2 (60 * 0 + k2) ((mOn0 n (u 3) (u 0) (u 1) (mColM n (u 3) 0 (u 5) (u 10))) k2)) _ _ _ hP hD hS (lv_sub hl [2, 3, 1, 0] rfl) (by omega) (by rw [← hr2]; show _ = itU _ d2 (k2 + 1) (mColC n 0 (mOn0 n (u 3) (u 0) (u 1) (mColM n (u 3) 0 (u 5) (u 10))) k2 (cn, hc2)); rw [show mColC n 0 (mOn0 n (u 3) (u 0) (u 1) (mColM n (u 3) 0 (u 5) (u 10))) k2 (cn, hc2) = ((cn + 1), (upd hc2 (60 * 0 + k2) ((mOn0 n (u 3) (u 0) (u 1) (mColM n (u 3) 0 (u 5) (u 10))) k2))) from by unfold mColC; rw [if_neg c_77, if_pos c_86]])
            rw [show MW cI cZ q (mS (mS (mS u 10 mk) 14 (fun _ => 0)) 10 (mOn0 n (u 3) (u 0) (u 1) mk)) = MW cI cZ q (mS (mS (mS u 3 (u 3)) 10 (mOn0 n (u 3) (u 0) (u 1) mk)) 14 (fun _ => 0)) from (MW_ext (by refine ⟨?_, ?_, ?_, ?_, ?_, ?_, ?_, ?_, ?_, ?_, ?_, ?_, ?_, ?_, ?_, ?_, ?_, ?_⟩ <;> simp only [mS_at, ↓reduceIte, Nat.reduceEqDiff] <;> rfl))] at hP hD
            rw [show mk = (mColM n (u 3) 0 (u 5) (u 10)) from hr] at hP hD
            exact l2 n 0 0 (u 3) _ _ _ hP hD hS (lv_sub hl [2, 3, 1, 0] rfl) (by omega) rfl
          · have n_29 : ¬ 4 ≤ k := fun h => c_29 ((g_leI (a := 4) (b := k) rfl rfl (by decide) (by omega)).mpr h)
            exfalso; omega
        | succ d ih =>
          intro k mk H locs ls hP hD hS hl hk hr
          refine lv_iload_n hx hb dX3_collect_27 rfl (lv_at hl 2 rfl) ?_
          refine lv_iconst (v := 4) hx hb dX3_collect_28 (by decide +kernel) ?_
          refine lv_icmp_ge (tgt := 53) hx hb dX3_collect_29 (by decide) (fun c_29 => ?_) (fun c_29 => ?_)
          · have n_29 : 4 ≤ k := (g_leI (a := 4) (b := k) rfl rfl (by decide) (by omega)).mp c_29
            exfalso; omega
          · have n_29 : ¬ 4 ≤ k := fun h => c_29 ((g_leI (a := 4) (b := k) rfl rfl (by decide) (by omega)).mpr h)
            refine lv_aload_n hx hb dX3_collect_32 rfl (lv_at hl 0 rfl) ?_
            refine lv_iload_n hx hb dX3_collect_33 rfl (lv_at hl 1 rfl) ?_
            refine lv_aload_n hx hb dX3_collect_34 rfl (lv_at hl 0 rfl) ?_
            refine va_get (ci := 3) (v := .ref (q 6)) (C := RX3) (T := TX3) (N := 18) hx hb hts inX3_collect_RX3 hown hK hP 0 rfl rfl 7 (by decide) (hts _ lkX3_collect_26) (fun _ h9 => h9) rfl dX3_collect_35 ?_
            refine lv_iconst (v := 4) hx hb dX3_collect_38 (by decide +kernel) ?_
            refine lv_iload_n hx hb dX3_collect_39 rfl (lv_at hl 1 rfl) ?_
            refine lv_imul hx hb dX3_collect_40 ?_
            refine lv_iload_n hx hb dX3_collect_41 rfl (lv_at hl 2 rfl) ?_
            refine lv_iadd hx hb dX3_collect_42 ?_
            refine g_iald (n := 8) (f := (u 5)) hx hb hK hP 6 0 (by rw [MW_get_5, show (mS (mS u 10 mk) 14 (fun _ => 0)) 5 = (u 5) from by simp only [mS_at, ↓reduceIte, Nat.reduceEqDiff]]) rfl (4 * 0 + k) (by omega) (by omega) (g_addE (g_mulE rfl rfl) rfl) dX3_collect_43 ?_
            refine g_callV (As := [.int 0, .int ((u 5) (4 * 0 + k))]) (rest := []) hx hb hml hown hts (ctX3_mark_0 l D cI cZ q (mS (mS u 10 mk) 14 (fun _ => 0)) n hn h60 ((u 5) (4 * 0 + k))) gX3_collect_X3_mark rfl rfl rfl hdX3_mark ⟨Nat.le_of_ble_eq_true rfl, Nat.le_of_ble_eq_true rfl⟩ gEM_true trivial hP hK hD hS hA 0 rfl rfl rfl hl.1 rfl (Nat.le_of_ble_eq_true rfl) dX3_collect_44 ⟨Nat.zero_le _, Nat.zero_le _⟩ (fun H locs hP hD hS => ?_)
            obtain ⟨hP, hD⟩ := g_toPD hP hD (MW_ext (Y := (mS (mS (mS u 10 mk) 14 (fun _ => 0)) 10 (mMark n (u 3) 0 mk ((u 5) (4 * 0 + k))))) (by refine ⟨?_, ?_, ?_, ?_, ?_, ?_, ?_, ?_, ?_, ?_, ?_, ?_, ?_, ?_, ?_, ?_, ?_, ?_⟩ <;> simp only [mS_at, ↓reduceIte, Nat.reduceEqDiff] <;> rfl))
            refine W.eq (g2 := F0 m 47 ls []) rfl ?_
            refine lv_iinc (v := (nI (k + 1))) (lv' := [(2, .int (nI (k + 1))), (0, .ref (q 0)), (1, .int 0)]) hx hb dX3_collect_47 hl (k := 2) rfl (nI_1 _) (by decide) rfl (fun ls hl => ?_)
            refine lv_goto (tgt := 27) hx hb dX3_collect_50 (by decide) ?_
            rw [show MW cI cZ q (mS (mS (mS u 10 mk) 14 (fun _ => 0)) 10 (mMark n (u 3) 0 mk ((u 5) (4 * 0 + k)))) = MW cI cZ q (mS (mS u 10 (mMark n (u 3) 0 mk ((u 5) (4 * 0 + k)))) 14 (fun _ => 0)) from (MW_ext (by refine ⟨?_, ?_, ?_, ?_, ?_, ?_, ?_, ?_, ?_, ?_, ?_, ?_, ?_, ?_, ?_, ?_, ?_, ?_⟩ <;> simp only [mS_at, ↓reduceIte, Nat.reduceEqDiff] <;> rfl))] at hP hD
            exact ih (k + 1) (mMark n (u 3) 0 mk ((u 5) (4 * 0 + k))) _ _ _ hP hD hS (lv_sub hl [1, 2, 0] rfl) (by omega) (by rw [← hr]; rfl)
      rw [show MW cI cZ q (mS (mS u 14 (fun _ => 0)) 10 (mClr (u 10))) = MW cI cZ q (mS (mS u 10 (mClr (u 10))) 14 (fun _ => 0)) from (MW_ext (by refine ⟨?_, ?_, ?_, ?_, ?_, ?_, ?_, ?_, ?_, ?_, ?_, ?_, ?_, ?_, ?_, ?_, ?_, ?_⟩ <;> simp only [mS_at, ↓reduceIte, Nat.reduceEqDiff] <;> rfl))] at hP hD
      exact l1 4 0 (mClr (u 10)) _ _ _ hP hD hS (lv_sub hl [1, 2, 0] rfl) (by omega) (opq_eq _).symm
    · exact absurd (show (0 : Int32) = 0 from rfl) c_16
abbrev rmX3_collect_1 : Room := { frames := 6, cells := 0, slots := 0, locals := 130 }
set_option maxHeartbeats 4000000 in
set_option maxRecDepth 100000 in
theorem ctX3_collect_1 (l : Launch) (D : va_G) (cI cZ : ClassId) (q : Nat → Nat) (u : SM) (n : Nat) (hn : u 15 0 = nI n) (h60 : n ≤ 60) : gM l yX3_collect wsX3_collect rmX3_collect_1 D [(cI, .int), (cZ, .boolean)] (MW cI cZ q) (fun _ => True) [.ref (q 0), .int 1] u (some (.int (itU (mColC n 1 (mOn1 n (u 3) (u 0) (u 1) (mColM n (u 3) 1 (u 5) (u 10)))) n 0 (0, u 3)).1)) (mS (mS (mS (mS u 14 (fun _ => 0)) 10 (mOn1 n (u 3) (u 0) (u 1) (mColM n (u 3) 1 (u 5) (u 10)))) 3 (itU (mColC n 1 (mOn1 n (u 3) (u 0) (u 1) (mColM n (u 3) 1 (u 5) (u 10)))) n 0 (0, u 3)).2) 4 (mColFs n (itU (mColC n 1 (mOn1 n (u 3) (u 0) (u 1) (mColM n (u 3) 1 (u 5) (u 10)))) n 0 (0, u 3)).2 1 (u 2) (u 4))) := by
  refine g_start (cc := cX3_collect) (maxL := 4) (ret := (some .int)) (by decide) rfl (Nat.le_of_ble_eq_true rfl) ?_
  intro p e s m below meth c A ls Q hx hb hml hret hts hown hlk hE hP hK hD hA hl hQ hS
  have hown : s.vm.findClass RX3 = some m.cls := hown
  have hl : lv_has ls 4 [(0, .ref (q 0)), (1, .int 1)] := hl
  have hs : ¬ xRange 1 2 = 0 := by decide +kernel
  have hM := m01_on1 (n := n) (hc := u 3) (fi := u 0) (se := u 1) n _ (m01_col n (u 3) 1 (u 5) (u 10))
  refine lv_aload_n hx hb dX3_collect_0 rfl (lv_at hl 0 rfl) ?_
  refine lv_iload_n hx hb dX3_collect_1 rfl (lv_at hl 1 rfl) ?_
  refine g_callS0 (As := [.int 1]) (rest := [.ref (q 0)]) hx hb hml hown hts (ctX3_isStore l D cI cZ q 1) gX3_collect_X3_isStore rfl rfl rfl hdX3_isStore ⟨Nat.le_of_ble_eq_true rfl, Nat.le_of_ble_eq_true rfl⟩ gEM_true trivial hP hK hS hA rfl hl.1 rfl (Nat.le_of_ble_eq_true rfl) dX3_collect_2 ⟨Nat.zero_le _, Nat.zero_le _⟩ (fun H locs hP hS => ?_)
  refine W.eq (g2 := F0 m 5 ls [.int (xRange 1 2), .ref (q 0)]) rfl ?_
  refine lv_if_eq (tgt := 12) hx hb dX3_collect_5 (by decide) (fun c_5 => ?_) (fun c_5 => ?_)
  · exact absurd c_5 hs
  · refine lv_iconst (v := 0) hx hb dX3_collect_8 (by decide +kernel) ?_
    refine lv_goto (tgt := 13) hx hb dX3_collect_9 (by decide) ?_
    refine g_callV (As := [.int 0]) (rest := []) hx hb hml hown hts (ctX3_refused l D cI cZ q u 0) gX3_collect_X3_refused rfl rfl rfl hdX3_refused ⟨Nat.le_of_ble_eq_true rfl, Nat.le_of_ble_eq_true rfl⟩ gEM_true trivial hP hK hD hS hA 0 rfl rfl rfl hl.1 rfl (Nat.le_of_ble_eq_true rfl) dX3_collect_13 ⟨Nat.zero_le _, Nat.zero_le _⟩ (fun H locs hP hD hS => ?_)
    obtain ⟨hP, hD⟩ := g_toPD hP hD (MW_ext (Y := (mS u 14 (fun _ => 0))) (by refine ⟨?_, ?_, ?_, ?_, ?_, ?_, ?_, ?_, ?_, ?_, ?_, ?_, ?_, ?_, ?_, ?_, ?_, ?_⟩ <;> simp only [mS_at, ↓reduceIte, Nat.reduceEqDiff] <;> rfl))
    refine W.eq (g2 := F0 m 16 ls [.int (if 0 = 0 then 0 else 1)]) rfl ?_
    refine lv_if_eq (tgt := 21) hx hb dX3_collect_16 (by decide) (fun c_16 => ?_) (fun c_16 => ?_)
    · refine lv_aload_n hx hb dX3_collect_21 rfl (lv_at hl 0 rfl) ?_
      refine g_callV (As := []) (rest := []) hx hb hml hown hts (ctX3_clear l D cI cZ q (mS u 14 (fun _ => 0))) gX3_collect_X3_clear rfl rfl rfl hdX3_clear ⟨Nat.le_of_ble_eq_true rfl, Nat.le_of_ble_eq_true rfl⟩ gEM_true trivial hP hK hD hS hA 0 rfl rfl rfl hl.1 rfl (Nat.le_of_ble_eq_true rfl) dX3_collect_22 ⟨Nat.zero_le _, Nat.zero_le _⟩ (fun H locs hP hD hS => ?_)
      obtain ⟨hP, hD⟩ := g_toPD hP hD (MW_ext (Y := (mS (mS u 14 (fun _ => 0)) 10 (mClr (u 10)))) (by refine ⟨?_, ?_, ?_, ?_, ?_, ?_, ?_, ?_, ?_, ?_, ?_, ?_, ?_, ?_, ?_, ?_, ?_, ?_⟩ <;> simp only [mS_at, ↓reduceIte, Nat.reduceEqDiff] <;> rfl))
      refine W.eq (g2 := F0 m 25 ls []) rfl ?_
      refine lv_iconst (v := (nI 0)) hx hb dX3_collect_25 (by decide +kernel) ?_
      refine lv_istore_n (lv' := [(2, .int (nI 0)), (0, .ref (q 0)), (1, .int 1)]) hx hb dX3_collect_26 rfl hl (by decide) rfl (fun ls hl => ?_)
      have l1 : ∀ (d k : Nat) (mk : Nat → Int32) (H : Heap) (locs : List Loc) (ls : Array Slot) (hP : va_P D vwCl (MW cI cZ q (mS (mS u 10 mk) 14 (fun _ => 0))) H) (hD : va_D A (MW cI cZ q (mS (mS u 10 mk) 14 (fun _ => 0)))) (hS : va_S A s.heap H locs) (hl : lv_has ls 4 [(0, .ref (q 0)), (1, .int 1), (2, .int (nI k))]) (hk : k + d = 4) (hr : itU (mColStep n (u 3) 1 (u 5)) d k mk = (mColM n (u 3) 1 (u 5) (u 10))), W p l e rmX3_collect_1 s m ([.ref (q 0), .int 1] : List Value).toArray below meth c H locs 0 0 Q (F0 m 27 ls []) := by
        intro d
        induction d with
        | zero =>
          intro k mk H locs ls hP hD hS hl hk hr
          refine lv_iload_n hx hb dX3_collect_27 rfl (lv_at hl 2 rfl) ?_
          refine lv_iconst (v := 4) hx hb dX3_collect_28 (by decide +kernel) ?_
          refine lv_icmp_ge (tgt := 53) hx hb dX3_collect_29 (by decide) (fun c_29 => ?_) (fun c_29 => ?_)
          · have n_29 : 4 ≤ k := (g_leI (a := 4) (b := k) rfl rfl (by decide) (by omega)).mp c_29
            refine lv_aload_n hx hb dX3_collect_53 rfl (lv_at hl 0 rfl) ?_
            refine lv_iload_n hx hb dX3_collect_54 rfl (lv_at hl 1 rfl) ?_
            refine g_callV (As := [.int 1]) (rest := []) hx hb hml hown hts (ctX3_markOn_1 l D cI cZ q (mS (mS u 10 mk) 14 (fun _ => 0)) n hn h60) gX3_collect_X3_markOn rfl rfl rfl hdX3_markOn ⟨Nat.le_of_ble_eq_true rfl, Nat.le_of_ble_eq_true rfl⟩ gEM_true trivial hP hK hD hS hA 0 rfl rfl rfl hl.1 rfl (Nat.le_of_ble_eq_true rfl) dX3_collect_55 ⟨Nat.zero_le _, Nat.zero_le _⟩ (fun H locs hP hD hS => ?_)
            obtain ⟨hP, hD⟩ := g_toPD hP hD (MW_ext (Y := (mS (mS (mS u 10 mk) 14 (fun _ => 0)) 10 (mOn1 n (u 3) (u 0) (u 1) mk))) (by refine ⟨?_, ?_, ?_, ?_, ?_, ?_, ?_, ?_, ?_, ?_, ?_, ?_, ?_, ?_, ?_, ?_, ?_, ?_⟩ <;> simp only [mS_at, ↓reduceIte, Nat.reduceEqDiff] <;> rfl))
            refine W.eq (g2 := F0 m 58 ls []) rfl ?_
            refine lv_iconst (v := 0) hx hb dX3_collect_58 (by decide +kernel) ?_
            refine lv_istore_n (lv' := [(2, .int 0), (0, .ref (q 0)), (1, .int 1)]) hx hb dX3_collect_59 rfl hl (by decide) rfl (fun ls hl => ?_)
            refine lv_iconst (v := (nI 0)) hx hb dX3_collect_60 (by decide +kernel) ?_
            refine lv_istore_n (lv' := [(3, .int (nI 0)), (2, .int 0), (0, .ref (q 0)), (1, .int 1)]) hx hb dX3_collect_61 rfl hl (by decide) rfl (fun ls hl => ?_)
            have l2 : ∀ (d2 k2 : Nat) (cn : Int32) (hc2 : Nat → Int32) (H : Heap) (locs : List Loc) (ls : Array Slot) (hP : va_P D vwCl (MW cI cZ q (mS (mS (mS u 3 hc2) 10 (mOn1 n (u 3) (u 0) (u 1) (mColM n (u 3) 1 (u 5) (u 10)))) 14 (fun _ => 0))) H) (hD : va_D A (MW cI cZ q (mS (mS (mS u 3 hc2) 10 (mOn1 n (u 3) (u 0) (u 1) (mColM n (u 3) 1 (u 5) (u 10)))) 14 (fun _ => 0)))) (hS : va_S A s.heap H locs) (hl : lv_has ls 4 [(0, .ref (q 0)), (1, .int 1), (2, .int cn), (3, .int (nI k2))]) (hk2 : k2 + d2 = n) (hr2 : itU (mColC n 1 (mOn1 n (u 3) (u 0) (u 1) (mColM n (u 3) 1 (u 5) (u 10)))) d2 k2 (cn, hc2) = (itU (mColC n 1 (mOn1 n (u 3) (u 0) (u 1) (mColM n (u 3) 1 (u 5) (u 10)))) n 0 (0, u 3))), W p l e rmX3_collect_1 s m ([.ref (q 0), .int 1] : List Value).toArray below meth c H locs 0 0 Q (F0 m 62 ls []) := by
              intro d2
              induction d2 with
              | zero =>
                intro k2 cn hc2 H locs ls hP hD hS hl hk2 hr2
                refine lv_iload_n hx hb dX3_collect_62 rfl (lv_at hl 3 rfl) ?_
                refine lv_aload_n hx hb dX3_collect_63 rfl (lv_at hl 0 rfl) ?_
                refine va_get (ci := 3) (v := .int (nI n)) (C := RX3) (T := TX3) (N := 18) hx hb hts inX3_collect_RX3 hown hK hP 0 rfl rfl 1 (by decide) (hts _ lkX3_collect_61) (fun _ h9 => h9) (congrArg (fun z => some (Value.int z)) hn) dX3_collect_64 ?_
                refine lv_icmp_ge (tgt := 119) hx hb dX3_collect_67 (by decide) (fun c_67 => ?_) (fun c_67 => ?_)
                · have n_67 : n ≤ k2 := (g_leI (a := n) (b := k2) rfl rfl (by omega) (by omega)).mp c_67
                  have hF1 : cn = (itU (mColC n 1 (mOn1 n (u 3) (u 0) (u 1) (mColM n (u 3) 1 (u 5) (u 10)))) n 0 (0, u 3)).1 := congrArg Prod.fst hr2
                  have hF2 : hc2 = (itU (mColC n 1 (mOn1 n (u 3) (u 0) (u 1) (mColM n (u 3) 1 (u 5) (u 10)))) n 0 (0, u 3)).2 := congrArg Prod.snd hr2
                  refine lv_iconst (v := (nI 0)) hx hb dX3_collect_119 (by decide +kernel) ?_
                  refine lv_istore_n (lv' := [(3, .int (nI 0)), (0, .ref (q 0)), (1, .int 1), (2, .int cn)]) hx hb dX3_collect_120 rfl hl (by decide) rfl (fun ls hl => ?_)
                  have l3 : ∀ (d3 k3 : Nat) (hf : Nat → Int32) (H : Heap) (locs : List Loc) (ls : Array Slot) (hP : va_P D vwCl (MW cI cZ q (mS (mS (mS (mS u 3 hc2) 4 hf) 10 (mOn1 n (u 3) (u 0) (u 1) (mColM n (u 3) 1 (u 5) (u 10)))) 14 (fun _ => 0))) H) (hD : va_D A (MW cI cZ q (mS (mS (mS (mS u 3 hc2) 4 hf) 10 (mOn1 n (u 3) (u 0) (u 1) (mColM n (u 3) 1 (u 5) (u 10)))) 14 (fun _ => 0)))) (hS : va_S A s.heap H locs) (hl : lv_has ls 4 [(0, .ref (q 0)), (1, .int 1), (2, .int cn), (3, .int (nI k3))]) (hk3 : k3 + d3 = 100) (hr3 : itU (mColF n hc2 1 (u 2)) d3 k3 hf = (mColFs n hc2 1 (u 2) (u 4))), W p l e rmX3_collect_1 s m ([.ref (q 0), .int 1] : List Value).toArray below meth c H locs 0 0 Q (F0 m 121 ls []) := by
                    intro d3
                    induction d3 with
                    | zero =>
                      intro k3 hf H locs ls hP hD hS hl hk3 hr3
                      refine lv_iload_n hx hb dX3_collect_121 rfl (lv_at hl 3 rfl) ?_
                      refine lv_bipush (v := 100) hx hb dX3_collect_122 (by decide +kernel) ?_
                      refine lv_icmp_ge (tgt := 172) hx hb dX3_collect_124 (by decide) (fun c_124 => ?_) (fun c_124 => ?_)
                      · have n_124 : 100 ≤ k3 := (g_leI (a := 100) (b := k3) rfl rfl (by decide) (by omega)).mp c_124
                        refine lv_iload_n hx hb dX3_collect_172 rfl (lv_at hl 2 rfl) ?_
                        refine g_iret (u1 := (mS (mS (mS (mS u 3 hc2) 4 hf) 10 (mOn1 n (u 3) (u 0) (u 1) (mColM n (u 3) 1 (u 5) (u 10)))) 14 (fun _ => 0))) hx hb hret hlk hQ hP hD hS dX3_collect_173 ?_ ?_
                        · exact (by rw [← hF1])
                        · exact (by rw [← hF2, ← hr3] <;> exact (MW_ext (by refine ⟨?_, ?_, ?_, ?_, ?_, ?_, ?_, ?_, ?_, ?_, ?_, ?_, ?_, ?_, ?_, ?_, ?_, ?_⟩ <;> simp only [mS_at, ↓reduceIte, Nat.reduceEqDiff] <;> rfl)))
                      · have n_124 : ¬ 100 ≤ k3 := fun h => c_124 ((g_leI (a := 100) (b := k3) rfl rfl (by decide) (by omega)).mpr h)
                        exfalso; omega
                    | succ d3 ih =>
                      intro k3 hf H locs ls hP hD hS hl hk3 hr3
                      refine lv_iload_n hx hb dX3_collect_121 rfl (lv_at hl 3 rfl) ?_
                      refine lv_bipush (v := 100) hx hb dX3_collect_122 (by decide +kernel) ?_
                      refine lv_icmp_ge (tgt := 172) hx hb dX3_collect_124 (by decide) (fun c_124 => ?_) (fun c_124 => ?_)
                      · have n_124 : 100 ≤ k3 := (g_leI (a := 100) (b := k3) rfl rfl (by decide) (by omega)).mp c_124
                        exfalso; omega
                      · have n_124 : ¬ 100 ≤ k3 := fun h => c_124 ((g_leI (a := 100) (b := k3) rfl rfl (by decide) (by omega)).mpr h)
                        refine lv_aload_n hx hb dX3_collect_127 rfl (lv_at hl 0 rfl) ?_
                        refine va_get (ci := 3) (v := .ref (q 5)) (C := RX3) (T := TX3) (N := 18) hx hb hts inX3_collect_RX3 hown hK hP 0 rfl rfl 6 (by decide) (hts _ lkX3_collect_23) (fun _ h9 => h9) rfl dX3_collect_128 ?_
                        refine lv_bipush (v := 100) hx hb dX3_collect_131 (by decide +kernel) ?_
                        refine lv_iload_n hx hb dX3_collect_133 rfl (lv_at hl 1 rfl) ?_
                        refine lv_imul hx hb dX3_collect_134 ?_
                        refine lv_iload_n hx hb dX3_collect_135 rfl (lv_at hl 3 rfl) ?_
                        refine lv_iadd hx hb dX3_collect_136 ?_
                        refine lv_aload_n hx hb dX3_collect_137 rfl (lv_at hl 0 rfl) ?_
                        refine va_get (ci := 3) (v := .ref (q 5)) (C := RX3) (T := TX3) (N := 18) hx hb hts inX3_collect_RX3 hown hK hP 0 rfl rfl 6 (by decide) (hts _ lkX3_collect_23) (fun _ h9 => h9) rfl dX3_collect_138 ?_
                        refine lv_bipush (v := 100) hx hb dX3_collect_141 (by decide +kernel) ?_
                        refine lv_iload_n hx hb dX3_collect_143 rfl (lv_at hl 1 rfl) ?_
                        refine lv_imul hx hb dX3_collect_144 ?_
                        refine lv_iload_n hx hb dX3_collect_145 rfl (lv_at hl 3 rfl) ?_
                        refine lv_iadd hx hb dX3_collect_146 ?_
                        refine g_zald (n := 200) (f := hf) hx hb hK hP 5 1 (by rw [MW_get_4, show (mS (mS (mS (mS u 3 hc2) 4 hf) 10 (mOn1 n (u 3) (u 0) (u 1) (mColM n (u 3) 1 (u 5) (u 10)))) 14 (fun _ => 0)) 4 = hf from by simp only [mS_at, ↓reduceIte, Nat.reduceEqDiff]]) rfl (100 * 1 + k3) (by omega) (by omega) (g_addE (g_mulE rfl rfl) rfl) dX3_collect_147 ?_
                        refine lv_if_eq (tgt := 164) hx hb dX3_collect_148 (by decide) (fun c_148 => ?_) (fun c_148 => ?_)
                        · refine lv_iconst (v := 0) hx hb dX3_collect_164 (by decide +kernel) ?_
                          refine g_zast (n := 200) (f := hf) (u' := (mS (mS (mS (mS (mS u 3 hc2) 4 hf) 10 (mOn1 n (u 3) (u 0) (u 1) (mColM n (u 3) 1 (u 5) (u 10)))) 14 (fun _ => 0)) 4 (upd hf (100 * 1 + k3) 0))) hx hb hK hP hD hS 5 1 (by rw [MW_get_4, show (mS (mS (mS (mS u 3 hc2) 4 hf) 10 (mOn1 n (u 3) (u 0) (u 1) (mColM n (u 3) 1 (u 5) (u 10)))) 14 (fun _ => 0)) 4 = hf from by simp only [mS_at, ↓reduceIte, Nat.reduceEqDiff]]) rfl (100 * 1 + k3) (by omega) (by omega) (g_addE (g_mulE rfl rfl) rfl) rfl (MW_set_4 _ _) dX3_collect_165 (fun H locs hP hD hS => ?_)
                          refine lv_iinc (v := (nI (k3 + 1))) (lv' := [(3, .int (nI (k3 + 1))), (0, .ref (q 0)), (1, .int 1), (2, .int cn)]) hx hb dX3_collect_166 hl (k := 3) rfl (nI_1 _) (by decide) rfl (fun ls hl => ?_)
                          refine lv_goto (tgt := 121) hx hb dX3_collect_169 (by decide) ?_
                          rw [show MW cI cZ q (mS (mS (mS (mS (mS u 3 hc2) 4 hf) 10 (mOn1 n (u 3) (u 0) (u 1) (mColM n (u 3) 1 (u 5) (u 10)))) 14 (fun _ => 0)) 4 (upd hf (100 * 1 + k3) 0)) = MW cI cZ q (mS (mS (mS (mS u 3 hc2) 4 (upd hf (100 * 1 + k3) 0)) 10 (mOn1 n (u 3) (u 0) (u 1) (mColM n (u 3) 1 (u 5) (u 10)))) 14 (fun _ => 0)) from (MW_ext (by refine ⟨?_, ?_, ?_, ?_, ?_, ?_, ?_, ?_, ?_, ?_, ?_, ?_, ?_, ?_, ?_, ?_, ?_, ?_⟩ <;> simp only [mS_at, ↓reduceIte, Nat.reduceEqDiff] <;> rfl))] at hP hD
                          exact ih (k3 + 1) (upd hf (100 * 1 + k3) 0) _ _ _ hP hD hS (lv_sub hl [1, 2, 3, 0] rfl) (by omega) (by rw [← hr3]; show _ = itU _ d3 (k3 + 1) (mColF n hc2 1 (u 2) k3 hf); rw [show mColF n hc2 1 (u 2) k3 hf = (upd hf (100 * 1 + k3) 0) from by unfold mColF; rw [if_pos c_148]])
                        · refine lv_aload_n hx hb dX3_collect_151 rfl (lv_at hl 0 rfl) ?_
                          refine lv_iload_n hx hb dX3_collect_152 rfl (lv_at hl 1 rfl) ?_
                          refine lv_iload_n hx hb dX3_collect_153 rfl (lv_at hl 3 rfl) ?_
                          refine g_callV (As := [.int 1, .int (nI k3)]) (rest := [.int ((100 * 1) + (nI k3)), .ref (q 5)]) hx hb hml hown hts (ctX3_isNeeded_1 l D cI cZ q (mS (mS (mS (mS u 3 hc2) 4 hf) 10 (mOn1 n (u 3) (u 0) (u 1) (mColM n (u 3) 1 (u 5) (u 10)))) 14 (fun _ => 0)) n hn h60 (nI k3)) gX3_collect_X3_isNeeded rfl rfl rfl hdX3_isNeeded ⟨Nat.le_of_ble_eq_true rfl, Nat.le_of_ble_eq_true rfl⟩ gEM_true trivial hP hK hD hS hA 0 rfl rfl rfl hl.1 rfl (Nat.le_of_ble_eq_true rfl) dX3_collect_154 ⟨Nat.zero_le _, Nat.zero_le _⟩ (fun H locs hP hD hS => ?_)
                          refine W.eq (g2 := F0 m 157 ls [.int (mNeed n hc2 1 (u 2) (nI k3)), .int ((100 * 1) + (nI k3)), .ref (q 5)]) rfl ?_
                          refine lv_if_eq (tgt := 164) hx hb dX3_collect_157 (by decide) (fun c_157 => ?_) (fun c_157 => ?_)
                          · refine lv_iconst (v := 0) hx hb dX3_collect_164 (by decide +kernel) ?_
                            refine g_zast (n := 200) (f := hf) (u' := (mS (mS (mS (mS (mS u 3 hc2) 4 hf) 10 (mOn1 n (u 3) (u 0) (u 1) (mColM n (u 3) 1 (u 5) (u 10)))) 14 (fun _ => 0)) 4 (upd hf (100 * 1 + k3) 0))) hx hb hK hP hD hS 5 1 (by rw [MW_get_4, show (mS (mS (mS (mS u 3 hc2) 4 hf) 10 (mOn1 n (u 3) (u 0) (u 1) (mColM n (u 3) 1 (u 5) (u 10)))) 14 (fun _ => 0)) 4 = hf from by simp only [mS_at, ↓reduceIte, Nat.reduceEqDiff]]) rfl (100 * 1 + k3) (by omega) (by omega) (g_addE (g_mulE rfl rfl) rfl) rfl (MW_set_4 _ _) dX3_collect_165 (fun H locs hP hD hS => ?_)
                            refine lv_iinc (v := (nI (k3 + 1))) (lv' := [(3, .int (nI (k3 + 1))), (0, .ref (q 0)), (1, .int 1), (2, .int cn)]) hx hb dX3_collect_166 hl (k := 3) rfl (nI_1 _) (by decide) rfl (fun ls hl => ?_)
                            refine lv_goto (tgt := 121) hx hb dX3_collect_169 (by decide) ?_
                            rw [show MW cI cZ q (mS (mS (mS (mS (mS u 3 hc2) 4 hf) 10 (mOn1 n (u 3) (u 0) (u 1) (mColM n (u 3) 1 (u 5) (u 10)))) 14 (fun _ => 0)) 4 (upd hf (100 * 1 + k3) 0)) = MW cI cZ q (mS (mS (mS (mS u 3 hc2) 4 (upd hf (100 * 1 + k3) 0)) 10 (mOn1 n (u 3) (u 0) (u 1) (mColM n (u 3) 1 (u 5) (u 10)))) 14 (fun _ => 0)) from (MW_ext (by refine ⟨?_, ?_, ?_, ?_, ?_, ?_, ?_, ?_, ?_, ?_, ?_, ?_, ?_, ?_, ?_, ?_, ?_, ?_⟩ <;> simp only [mS_at, ↓reduceIte, Nat.reduceEqDiff] <;> rfl))] at hP hD
                            exact ih (k3 + 1) (upd hf (100 * 1 + k3) 0) _ _ _ hP hD hS (lv_sub hl [1, 2, 3, 0] rfl) (by omega) (by rw [← hr3]; show _ = itU _ d3 (k3 + 1) (mColF n hc2 1 (u 2) k3 hf); rw [show mColF n hc2 1 (u 2) k3 hf = (upd hf (100 * 1 + k3) 0) from by unfold mColF; rw [if_neg c_148, if_pos c_157]])
                          · refine lv_iconst (v := 1) hx hb dX3_collect_160 (by decide +kernel) ?_
                            refine lv_goto (tgt := 165) hx hb dX3_collect_161 (by decide) ?_
                            refine g_zast (n := 200) (f := hf) (u' := (mS (mS (mS (mS (mS u 3 hc2) 4 hf) 10 (mOn1 n (u 3) (u 0) (u 1) (mColM n (u 3) 1 (u 5) (u 10)))) 14 (fun _ => 0)) 4 (upd hf (100 * 1 + k3) 1))) hx hb hK hP hD hS 5 1 (by rw [MW_get_4, show (mS (mS (mS (mS u 3 hc2) 4 hf) 10 (mOn1 n (u 3) (u 0) (u 1) (mColM n (u 3) 1 (u 5) (u 10)))) 14 (fun _ => 0)) 4 = hf from by simp only [mS_at, ↓reduceIte, Nat.reduceEqDiff]]) rfl (100 * 1 + k3) (by omega) (by omega) (g_addE (g_mulE rfl rfl) rfl) rfl (MW_set_4 _ _) dX3_collect_165 (fun H locs hP hD hS => ?_)
                            refine lv_iinc (v := (nI (k3 + 1))) (lv' := [(3, .int (nI (k3 + 1))), (0, .ref (q 0)), (1, .int 1), (2, .int cn)]) hx hb dX3_collect_166 hl (k := 3) rfl (nI_1 _) (by decide) rfl (fun ls hl => ?_)
                            refine lv_goto (tgt := 121) hx hb dX3_collect_169 (by decide) ?_
                            rw [show MW cI cZ q (mS (mS (mS (mS (mS u 3 hc2) 4 hf) 10 (mOn1 n (u 3) (u 0) (u 1) (mColM n (u 3) 1 (u 5) (u 10)))) 14 (fun _ => 0)) 4 (upd hf (100 * 1 + k3) 1)) = MW cI cZ q (mS (mS (mS (mS u 3 hc2) 4 (upd hf (100 * 1 + k3) 1)) 10 (mOn1 n (u 3) (u 0) (u 1) (mColM n (u 3) 1 (u 5) (u 10)))) 14 (fun _ => 0)) from (MW_ext (by refine ⟨?_, ?_, ?_, ?_, ?_, ?_, ?_, ?_, ?_, ?_, ?_, ?_, ?_, ?_, ?_, ?_, ?_, ?_⟩ <;> simp only [mS_at, ↓reduceIte, Nat.reduceEqDiff] <;> rfl))] at hP hD
                            exact ih (k3 + 1) (upd hf (100 * 1 + k3) 1) _ _ _ hP hD hS (lv_sub hl [1, 2, 3, 0] rfl) (by omega) (by rw [← hr3]; show _ = itU _ d3 (k3 + 1) (mColF n hc2 1 (u 2) k3 hf); rw [show mColF n hc2 1 (u 2) k3 hf = (upd hf (100 * 1 + k3) 1) from by unfold mColF; rw [if_neg c_148, if_neg c_157]])
                  rw [show MW cI cZ q (mS (mS (mS u 3 hc2) 10 (mOn1 n (u 3) (u 0) (u 1) (mColM n (u 3) 1 (u 5) (u 10)))) 14 (fun _ => 0)) = MW cI cZ q (mS (mS (mS (mS u 3 hc2) 4 (u 4)) 10 (mOn1 n (u 3) (u 0) (u 1) (mColM n (u 3) 1 (u 5) (u 10)))) 14 (fun _ => 0)) from (MW_ext (by refine ⟨?_, ?_, ?_, ?_, ?_, ?_, ?_, ?_, ?_, ?_, ?_, ?_, ?_, ?_, ?_, ?_, ?_, ?_⟩ <;> simp only [mS_at, ↓reduceIte, Nat.reduceEqDiff] <;> rfl))] at hP hD
                  exact l3 100 0 (u 4) _ _ _ hP hD hS (lv_sub hl [1, 2, 3, 0] rfl) (by omega) (opq_eq _).symm
                · have n_67 : ¬ n ≤ k2 := fun h => c_67 ((g_leI (a := n) (b := k2) rfl rfl (by omega) (by omega)).mpr h)
                  exfalso; omega
              | succ d2 ih =>
                intro k2 cn hc2 H locs ls hP hD hS hl hk2 hr2
                refine lv_iload_n hx hb dX3_collect_62 rfl (lv_at hl 3 rfl) ?_
                refine lv_aload_n hx hb dX3_collect_63 rfl (lv_at hl 0 rfl) ?_
                refine va_get (ci := 3) (v := .int (nI n)) (C := RX3) (T := TX3) (N := 18) hx hb hts inX3_collect_RX3 hown hK hP 0 rfl rfl 1 (by decide) (hts _ lkX3_collect_61) (fun _ h9 => h9) (congrArg (fun z => some (Value.int z)) hn) dX3_collect_64 ?_
                refine lv_icmp_ge (tgt := 119) hx hb dX3_collect_67 (by decide) (fun c_67 => ?_) (fun c_67 => ?_)
                · have n_67 : n ≤ k2 := (g_leI (a := n) (b := k2) rfl rfl (by omega) (by omega)).mp c_67
                  exfalso; omega
                · have n_67 : ¬ n ≤ k2 := fun h => c_67 ((g_leI (a := n) (b := k2) rfl rfl (by omega) (by omega)).mpr h)
                  refine lv_iload_n hx hb dX3_collect_70 rfl (lv_at hl 2 rfl) ?_
                  refine lv_aload_n hx hb dX3_collect_71 rfl (lv_at hl 0 rfl) ?_
                  refine lv_iload_n hx hb dX3_collect_72 rfl (lv_at hl 1 rfl) ?_
                  refine lv_iload_n hx hb dX3_collect_73 rfl (lv_at hl 3 rfl) ?_
                  refine g_callV (As := [.int 1, .int (nI k2)]) (rest := [.int cn]) hx hb hml hown hts (ctX3_isIn_1 l D cI cZ q (mS (mS (mS u 3 hc2) 10 (mOn1 n (u 3) (u 0) (u 1) (mColM n (u 3) 1 (u 5) (u 10)))) 14 (fun _ => 0)) n hn h60 (nI k2)) gX3_collect_X3_isIn rfl rfl rfl hdX3_isIn ⟨Nat.le_of_ble_eq_true rfl, Nat.le_of_ble_eq_true rfl⟩ gEM_true trivial hP hK hD hS hA 0 rfl rfl rfl hl.1 rfl (Nat.le_of_ble_eq_true rfl) dX3_collect_74 ⟨Nat.zero_le _, Nat.zero_le _⟩ (fun H locs hP hD hS => ?_)
                  refine W.eq (g2 := F0 m 77 ls [.int (mHas n hc2 1 (nI k2)), .int cn]) rfl ?_
                  refine lv_if_eq (tgt := 93) hx hb dX3_collect_77 (by decide) (fun c_77 => ?_) (fun c_77 => ?_)
                  · refine lv_iconst (v := 0) hx hb dX3_collect_93 (by decide +kernel) ?_
                    refine lv_iadd hx hb dX3_collect_94 ?_
                    refine lv_istore_n (lv' := [(2, .int (cn + 0)), (0, .ref (q 0)), (1, .int 1), (3, .int (nI k2))]) hx hb dX3_collect_95 rfl hl (by decide) rfl (fun ls hl => ?_)
                    refine lv_aload_n hx hb dX3_collect_96 rfl (lv_at hl 1 rfl) ?_
                    refine va_get (ci := 3) (v := .ref (q 4)) (C := RX3) (T := TX3) (N := 18) hx hb hts inX3_collect_RX3 hown hK hP 0 rfl rfl 5 (by decide) (hts _ lkX3_collect_19) (fun _ h9 => h9) rfl dX3_collect_97 ?_
                    refine lv_bipush (v := 60) hx hb dX3_collect_100 (by decide +kernel) ?_
                    refine lv_iload_n hx hb dX3_collect_102 rfl (lv_at hl 2 rfl) ?_
                    refine lv_imul hx hb dX3_collect_103 ?_
                    refine lv_iload_n hx hb dX3_collect_104 rfl (lv_at hl 3 rfl) ?_
                    refine lv_iadd hx hb dX3_collect_105 ?_
                    refine lv_aload_n hx hb dX3_collect_106 rfl (lv_at hl 1 rfl) ?_
                    refine va_get (ci := 3) (v := .ref (q 11)) (C := RX3) (T := TX3) (N := 18) hx hb hts inX3_collect_RX3 hown hK hP 0 rfl rfl 14 (by decide) (hts _ lkX3_collect_41) (fun _ h9 => h9) rfl dX3_collect_107 ?_
                    refine lv_iload_n hx hb dX3_collect_110 rfl (lv_at hl 3 rfl) ?_
                    refine g_zald (n := 60) (f := (mOn1 n (u 3) (u 0) (u 1) (mColM n (u 3) 1 (u 5) (u 10)))) hx hb hK hP 11 1 (by rw [MW_get_10, show (mS (mS (mS u 3 hc2) 10 (mOn1 n (u 3) (u 0) (u 1) (mColM n (u 3) 1 (u 5) (u 10)))) 14 (fun _ => 0)) 10 = (mOn1 n (u 3) (u 0) (u 1) (mColM n (u 3) 1 (u 5) (u 10))) from by simp only [mS_at, ↓reduceIte, Nat.reduceEqDiff]]) rfl k2 (by omega) (by omega) rfl dX3_collect_111 ?_
                    refine g_zast (n := 120) (f := hc2) (u' := (mS (mS (mS (mS u 3 hc2) 10 (mOn1 n (u 3) (u 0) (u 1) (mColM n (u 3) 1 (u 5) (u 10)))) 14 (fun _ => 0)) 3 (upd hc2 (60 * 1 + k2) ((mOn1 n (u 3) (u 0) (u 1) (mColM n (u 3) 1 (u 5) (u 10))) k2)))) hx hb hK hP hD hS 4 1 (by rw [MW_get_3, show (mS (mS (mS u 3 hc2) 10 (mOn1 n (u 3) (u 0) (u 1) (mColM n (u 3) 1 (u 5) (u 10)))) 14 (fun _ => 0)) 3 = hc2 from by simp only [mS_at, ↓reduceIte, Nat.reduceEqDiff]]) rfl (60 * 1 + k2) (by omega) (by omega) (g_addE (g_mulE rfl rfl) rfl) (g_vn01 _ (hM k2 (by omega))) (MW_set_3 _ _) dX3_collect_112 (fun H locs hP hD hS => ?_)
                    refine lv_iinc (v := (nI (k2 + 1))) (lv' := [(3, .int (nI (k2 + 1))), (2, .int (cn + 0)), (0, .ref (q 0)), (1, .int 1)]) hx hb dX3_collect_113 hl (k := 3) rfl (nI_1 _) (by decide) rfl (fun ls hl => ?_)
                    refine lv_goto (tgt := 62) hx hb dX3_collect_116 (by decide) ?_
                    rw [show MW cI cZ q (mS (mS (mS (mS u 3 hc2) 10 (mOn1 n (u 3) (u 0) (u 1) (mColM n (u 3) 1 (u 5) (u 10)))) 14 (fun _ => 0)) 3 (upd hc2 (60 * 1 + k2) ((mOn1 n (u 3) (u 0) (u 1) (mColM n (u 3) 1 (u 5) (u 10))) k2))) = MW cI cZ q (mS (mS (mS u 3 (upd hc2 (60 * 1 + k2) ((mOn1 n (u 3) (u 0) (u 1) (mColM n (u 3) 1 (u 5) (u 10))) k2))) 10 (mOn1 n (u 3) (u 0) (u 1) (mColM n (u 3) 1 (u 5) (u 10)))) 14 (fun _ => 0)) from (MW_ext (by refine ⟨?_, ?_, ?_, ?_, ?_, ?_, ?_, ?_, ?_, ?_, ?_, ?_, ?_, ?_, ?_, ?_, ?_, ?_⟩ <;> simp only [mS_at, ↓reduceIte, Nat.reduceEqDiff] <;> rfl))] at hP hD
                    exact ih (k2 + 1) (cn + 0) (upd hc2 (60 * 1 + k2) ((mOn1 n (u 3) (u 0) (u 1) (mColM n (u 3) 1 (u 5) (u 10))) k2)) _ _ _ hP hD hS (lv_sub hl [2, 3, 1, 0] rfl) (by omega) (by rw [← hr2]; show _ = itU _ d2 (k2 + 1) (mColC n 1 (mOn1 n (u 3) (u 0) (u 1) (mColM n (u 3) 1 (u 5) (u 10))) k2 (cn, hc2)); rw [show mColC n 1 (mOn1 n (u 3) (u 0) (u 1) (mColM n (u 3) 1 (u 5) (u 10))) k2 (cn, hc2) = ((cn + 0), (upd hc2 (60 * 1 + k2) ((mOn1 n (u 3) (u 0) (u 1) (mColM n (u 3) 1 (u 5) (u 10))) k2))) from by unfold mColC; rw [if_pos c_77]])
                  · refine lv_aload_n hx hb dX3_collect_80 rfl (lv_at hl 0 rfl) ?_
                    refine va_get (ci := 3) (v := .ref (q 11)) (C := RX3) (T := TX3) (N := 18) hx hb hts inX3_collect_RX3 hown hK hP 0 rfl rfl 14 (by decide) (hts _ lkX3_collect_41) (fun _ h9 => h9) rfl dX3_collect_81 ?_
                    refine lv_iload_n hx hb dX3_collect_84 rfl (lv_at hl 3 rfl) ?_
                    refine g_zald (n := 60) (f := (mOn1 n (u 3) (u 0) (u 1) (mColM n (u 3) 1 (u 5) (u 10)))) hx hb hK hP 11 1 (by rw [MW_get_10, show (mS (mS (mS u 3 hc2) 10 (mOn1 n (u 3) (u 0) (u 1) (mColM n (u 3) 1 (u 5) (u 10)))) 14 (fun _ => 0)) 10 = (mOn1 n (u 3) (u 0) (u 1) (mColM n (u 3) 1 (u 5) (u 10))) from by simp only [mS_at, ↓reduceIte, Nat.reduceEqDiff]]) rfl k2 (by omega) (by omega) rfl dX3_collect_85 ?_
                    refine lv_if_ne (tgt := 93) hx hb dX3_collect_86 (by decide) (fun c_86 => ?_) (fun c_86 => ?_)
                    · refine lv_iconst (v := 0) hx hb dX3_collect_93 (by decide +kernel) ?_
                      refine lv_iadd hx hb dX3_collect_94 ?_
                      refine lv_istore_n (lv' := [(2, .int (cn + 0)), (0, .ref (q 0)), (1, .int 1), (3, .int (nI k2))]) hx hb dX3_collect_95 rfl hl (by decide) rfl (fun ls hl => ?_)
                      refine lv_aload_n hx hb dX3_collect_96 rfl (lv_at hl 1 rfl) ?_
                      refine va_get (ci := 3) (v := .ref (q 4)) (C := RX3) (T := TX3) (N := 18) hx hb hts inX3_collect_RX3 hown hK hP 0 rfl rfl 5 (by decide) (hts _ lkX3_collect_19) (fun _ h9 => h9) rfl dX3_collect_97 ?_
                      refine lv_bipush (v := 60) hx hb dX3_collect_100 (by decide +kernel) ?_
                      refine lv_iload_n hx hb dX3_collect_102 rfl (lv_at hl 2 rfl) ?_
                      refine lv_imul hx hb dX3_collect_103 ?_
                      refine lv_iload_n hx hb dX3_collect_104 rfl (lv_at hl 3 rfl) ?_
                      refine lv_iadd hx hb dX3_collect_105 ?_
                      refine lv_aload_n hx hb dX3_collect_106 rfl (lv_at hl 1 rfl) ?_
                      refine va_get (ci := 3) (v := .ref (q 11)) (C := RX3) (T := TX3) (N := 18) hx hb hts inX3_collect_RX3 hown hK hP 0 rfl rfl 14 (by decide) (hts _ lkX3_collect_41) (fun _ h9 => h9) rfl dX3_collect_107 ?_
                      refine lv_iload_n hx hb dX3_collect_110 rfl (lv_at hl 3 rfl) ?_
                      refine g_zald (n := 60) (f := (mOn1 n (u 3) (u 0) (u 1) (mColM n (u 3) 1 (u 5) (u 10)))) hx hb hK hP 11 1 (by rw [MW_get_10, show (mS (mS (mS u 3 hc2) 10 (mOn1 n (u 3) (u 0) (u 1) (mColM n (u 3) 1 (u 5) (u 10)))) 14 (fun _ => 0)) 10 = (mOn1 n (u 3) (u 0) (u 1) (mColM n (u 3) 1 (u 5) (u 10))) from by simp only [mS_at, ↓reduceIte, Nat.reduceEqDiff]]) rfl k2 (by omega) (by omega) rfl dX3_collect_111 ?_
                      refine g_zast (n := 120) (f := hc2) (u' := (mS (mS (mS (mS u 3 hc2) 10 (mOn1 n (u 3) (u 0) (u 1) (mColM n (u 3) 1 (u 5) (u 10)))) 14 (fun _ => 0)) 3 (upd hc2 (60 * 1 + k2) ((mOn1 n (u 3) (u 0) (u 1) (mColM n (u 3) 1 (u 5) (u 10))) k2)))) hx hb hK hP hD hS 4 1 (by rw [MW_get_3, show (mS (mS (mS u 3 hc2) 10 (mOn1 n (u 3) (u 0) (u 1) (mColM n (u 3) 1 (u 5) (u 10)))) 14 (fun _ => 0)) 3 = hc2 from by simp only [mS_at, ↓reduceIte, Nat.reduceEqDiff]]) rfl (60 * 1 + k2) (by omega) (by omega) (g_addE (g_mulE rfl rfl) rfl) (g_vn01 _ (hM k2 (by omega))) (MW_set_3 _ _) dX3_collect_112 (fun H locs hP hD hS => ?_)
                      refine lv_iinc (v := (nI (k2 + 1))) (lv' := [(3, .int (nI (k2 + 1))), (2, .int (cn + 0)), (0, .ref (q 0)), (1, .int 1)]) hx hb dX3_collect_113 hl (k := 3) rfl (nI_1 _) (by decide) rfl (fun ls hl => ?_)
                      refine lv_goto (tgt := 62) hx hb dX3_collect_116 (by decide) ?_
                      rw [show MW cI cZ q (mS (mS (mS (mS u 3 hc2) 10 (mOn1 n (u 3) (u 0) (u 1) (mColM n (u 3) 1 (u 5) (u 10)))) 14 (fun _ => 0)) 3 (upd hc2 (60 * 1 + k2) ((mOn1 n (u 3) (u 0) (u 1) (mColM n (u 3) 1 (u 5) (u 10))) k2))) = MW cI cZ q (mS (mS (mS u 3 (upd hc2 (60 * 1 + k2) ((mOn1 n (u 3) (u 0) (u 1) (mColM n (u 3) 1 (u 5) (u 10))) k2))) 10 (mOn1 n (u 3) (u 0) (u 1) (mColM n (u 3) 1 (u 5) (u 10)))) 14 (fun _ => 0)) from (MW_ext (by refine ⟨?_, ?_, ?_, ?_, ?_, ?_, ?_, ?_, ?_, ?_, ?_, ?_, ?_, ?_, ?_, ?_, ?_, ?_⟩ <;> simp only [mS_at, ↓reduceIte, Nat.reduceEqDiff] <;> rfl))] at hP hD
                      exact ih (k2 + 1) (cn + 0) (upd hc2 (60 * 1 + k2) ((mOn1 n (u 3) (u 0) (u 1) (mColM n (u 3) 1 (u 5) (u 10))) k2)) _ _ _ hP hD hS (lv_sub hl [2, 3, 1, 0] rfl) (by omega) (by rw [← hr2]; show _ = itU _ d2 (k2 + 1) (mColC n 1 (mOn1 n (u 3) (u 0) (u 1) (mColM n (u 3) 1 (u 5) (u 10))) k2 (cn, hc2)); rw [show mColC n 1 (mOn1 n (u 3) (u 0) (u 1) (mColM n (u 3) 1 (u 5) (u 10))) k2 (cn, hc2) = ((cn + 0), (upd hc2 (60 * 1 + k2) ((mOn1 n (u 3) (u 0) (u 1) (mColM n (u 3) 1 (u 5) (u 10))) k2))) from by unfold mColC; rw [if_neg c_77, if_neg c_86]])
                    · refine lv_iconst (v := 1) hx hb dX3_collect_89 (by decide +kernel) ?_
                      refine lv_goto (tgt := 94) hx hb dX3_collect_90 (by decide) ?_
                      refine lv_iadd hx hb dX3_collect_94 ?_
                      refine lv_istore_n (lv' := [(2, .int (cn + 1)), (0, .ref (q 0)), (1, .int 1), (3, .int (nI k2))]) hx hb dX3_collect_95 rfl hl (by decide) rfl (fun ls hl => ?_)
                      refine lv_aload_n hx hb dX3_collect_96 rfl (lv_at hl 1 rfl) ?_
                      refine va_get (ci := 3) (v := .ref (q 4)) (C := RX3) (T := TX3) (N := 18) hx hb hts inX3_collect_RX3 hown hK hP 0 rfl rfl 5 (by decide) (hts _ lkX3_collect_19) (fun _ h9 => h9) rfl dX3_collect_97 ?_
                      refine lv_bipush (v := 60) hx hb dX3_collect_100 (by decide +kernel) ?_
                      refine lv_iload_n hx hb dX3_collect_102 rfl (lv_at hl 2 rfl) ?_
                      refine lv_imul hx hb dX3_collect_103 ?_
                      refine lv_iload_n hx hb dX3_collect_104 rfl (lv_at hl 3 rfl) ?_
                      refine lv_iadd hx hb dX3_collect_105 ?_
                      refine lv_aload_n hx hb dX3_collect_106 rfl (lv_at hl 1 rfl) ?_
                      refine va_get (ci := 3) (v := .ref (q 11)) (C := RX3) (T := TX3) (N := 18) hx hb hts inX3_collect_RX3 hown hK hP 0 rfl rfl 14 (by decide) (hts _ lkX3_collect_41) (fun _ h9 => h9) rfl dX3_collect_107 ?_
                      refine lv_iload_n hx hb dX3_collect_110 rfl (lv_at hl 3 rfl) ?_
                      refine g_zald (n := 60) (f := (mOn1 n (u 3) (u 0) (u 1) (mColM n (u 3) 1 (u 5) (u 10)))) hx hb hK hP 11 1 (by rw [MW_get_10, show (mS (mS (mS u 3 hc2) 10 (mOn1 n (u 3) (u 0) (u 1) (mColM n (u 3) 1 (u 5) (u 10)))) 14 (fun _ => 0)) 10 = (mOn1 n (u 3) (u 0) (u 1) (mColM n (u 3) 1 (u 5) (u 10))) from by simp only [mS_at, ↓reduceIte, Nat.reduceEqDiff]]) rfl k2 (by omega) (by omega) rfl dX3_collect_111 ?_
                      refine g_zast (n := 120) (f := hc2) (u' := (mS (mS (mS (mS u 3 hc2) 10 (mOn1 n (u 3) (u 0) (u 1) (mColM n (u 3) 1 (u 5) (u 10)))) 14 (fun _ => 0)) 3 (upd hc2 (60 * 1 + k2) ((mOn1 n (u 3) (u 0) (u 1) (mColM n (u 3) 1 (u 5) (u 10))) k2)))) hx hb hK hP hD hS 4 1 (by rw [MW_get_3, show (mS (mS (mS u 3 hc2) 10 (mOn1 n (u 3) (u 0) (u 1) (mColM n (u 3) 1 (u 5) (u 10)))) 14 (fun _ => 0)) 3 = hc2 from by simp only [mS_at, ↓reduceIte, Nat.reduceEqDiff]]) rfl (60 * 1 + k2) (by omega) (by omega) (g_addE (g_mulE rfl rfl) rfl) (g_vn01 _ (hM k2 (by omega))) (MW_set_3 _ _) dX3_collect_112 (fun H locs hP hD hS => ?_)
                      refine lv_iinc (v := (nI (k2 + 1))) (lv' := [(3, .int (nI (k2 + 1))), (2, .int (cn + 1)), (0, .ref (q 0)), (1, .int 1)]) hx hb dX3_collect_113 hl (k := 3) rfl (nI_1 _) (by decide) rfl (fun ls hl => ?_)
                      refine lv_goto (tgt := 62) hx hb dX3_collect_116 (by decide) ?_
                      rw [show MW cI cZ q (mS (mS (mS (mS u 3 hc2) 10 (mOn1 n (u 3) (u 0) (u 1) (mColM n (u 3) 1 (u 5) (u 10)))) 14 (fun _ => 0)) 3 (upd hc2 (60 * 1 + k2) ((mOn1 n (u 3) (u 0) (u 1) (mColM n (u 3) 1 (u 5) (u 10))) k2))) = MW cI cZ q (mS (mS (mS u 3 (upd hc2 (60 * 1 + k2) ((mOn1 n (u 3) (u 0) (u 1) (mColM n (u 3) 1 (u 5) (u 10))) k2))) 10 (mOn1 n (u 3) (u 0) (u 1) (mColM n (u 3) 1 (u 5) (u 10)))) 14 (fun _ => 0)) from (MW_ext (by refine ⟨?_, ?_, ?_, ?_, ?_, ?_, ?_, ?_, ?_, ?_, ?_, ?_, ?_, ?_, ?_, ?_, ?_, ?_⟩ <;> simp only [mS_at, ↓reduceIte, Nat.reduceEqDiff] <;> rfl))] at hP hD
                      exact ih (k2 + 1) (cn + 1) (upd hc2 (60 * 1 + k2) ((mOn1 n (u 3) (u 0) (u 1) (mColM n (u 3) 1 (u 5) (u 10))) k2)) _ _ _ hP hD hS (lv_sub hl [2, 3, 1, 0] rfl) (by omega) (by rw [← hr2]; show _ = itU _ d2 (k2 + 1) (mColC n 1 (mOn1 n (u 3) (u 0) (u 1) (mColM n (u 3) 1 (u 5) (u 10))) k2 (cn, hc2)); rw [show mColC n 1 (mOn1 n (u 3) (u 0) (u 1) (mColM n (u 3) 1 (u 5) (u 10))) k2 (cn, hc2) = ((cn + 1), (upd hc2 (60 * 1 + k2) ((mOn1 n (u 3) (u 0) (u 1) (mColM n (u 3) 1 (u 5) (u 10))) k2))) from by unfold mColC; rw [if_neg c_77, if_pos c_86]])
            rw [show MW cI cZ q (mS (mS (mS u 10 mk) 14 (fun _ => 0)) 10 (mOn1 n (u 3) (u 0) (u 1) mk)) = MW cI cZ q (mS (mS (mS u 3 (u 3)) 10 (mOn1 n (u 3) (u 0) (u 1) mk)) 14 (fun _ => 0)) from (MW_ext (by refine ⟨?_, ?_, ?_, ?_, ?_, ?_, ?_, ?_, ?_, ?_, ?_, ?_, ?_, ?_, ?_, ?_, ?_, ?_⟩ <;> simp only [mS_at, ↓reduceIte, Nat.reduceEqDiff] <;> rfl))] at hP hD
            rw [show mk = (mColM n (u 3) 1 (u 5) (u 10)) from hr] at hP hD
            exact l2 n 0 0 (u 3) _ _ _ hP hD hS (lv_sub hl [2, 3, 1, 0] rfl) (by omega) rfl
          · have n_29 : ¬ 4 ≤ k := fun h => c_29 ((g_leI (a := 4) (b := k) rfl rfl (by decide) (by omega)).mpr h)
            exfalso; omega
        | succ d ih =>
          intro k mk H locs ls hP hD hS hl hk hr
          refine lv_iload_n hx hb dX3_collect_27 rfl (lv_at hl 2 rfl) ?_
          refine lv_iconst (v := 4) hx hb dX3_collect_28 (by decide +kernel) ?_
          refine lv_icmp_ge (tgt := 53) hx hb dX3_collect_29 (by decide) (fun c_29 => ?_) (fun c_29 => ?_)
          · have n_29 : 4 ≤ k := (g_leI (a := 4) (b := k) rfl rfl (by decide) (by omega)).mp c_29
            exfalso; omega
          · have n_29 : ¬ 4 ≤ k := fun h => c_29 ((g_leI (a := 4) (b := k) rfl rfl (by decide) (by omega)).mpr h)
            refine lv_aload_n hx hb dX3_collect_32 rfl (lv_at hl 0 rfl) ?_
            refine lv_iload_n hx hb dX3_collect_33 rfl (lv_at hl 1 rfl) ?_
            refine lv_aload_n hx hb dX3_collect_34 rfl (lv_at hl 0 rfl) ?_
            refine va_get (ci := 3) (v := .ref (q 6)) (C := RX3) (T := TX3) (N := 18) hx hb hts inX3_collect_RX3 hown hK hP 0 rfl rfl 7 (by decide) (hts _ lkX3_collect_26) (fun _ h9 => h9) rfl dX3_collect_35 ?_
            refine lv_iconst (v := 4) hx hb dX3_collect_38 (by decide +kernel) ?_
            refine lv_iload_n hx hb dX3_collect_39 rfl (lv_at hl 1 rfl) ?_
            refine lv_imul hx hb dX3_collect_40 ?_
            refine lv_iload_n hx hb dX3_collect_41 rfl (lv_at hl 2 rfl) ?_
            refine lv_iadd hx hb dX3_collect_42 ?_
            refine g_iald (n := 8) (f := (u 5)) hx hb hK hP 6 0 (by rw [MW_get_5, show (mS (mS u 10 mk) 14 (fun _ => 0)) 5 = (u 5) from by simp only [mS_at, ↓reduceIte, Nat.reduceEqDiff]]) rfl (4 * 1 + k) (by omega) (by omega) (g_addE (g_mulE rfl rfl) rfl) dX3_collect_43 ?_
            refine g_callV (As := [.int 1, .int ((u 5) (4 * 1 + k))]) (rest := []) hx hb hml hown hts (ctX3_mark_1 l D cI cZ q (mS (mS u 10 mk) 14 (fun _ => 0)) n hn h60 ((u 5) (4 * 1 + k))) gX3_collect_X3_mark rfl rfl rfl hdX3_mark ⟨Nat.le_of_ble_eq_true rfl, Nat.le_of_ble_eq_true rfl⟩ gEM_true trivial hP hK hD hS hA 0 rfl rfl rfl hl.1 rfl (Nat.le_of_ble_eq_true rfl) dX3_collect_44 ⟨Nat.zero_le _, Nat.zero_le _⟩ (fun H locs hP hD hS => ?_)
            obtain ⟨hP, hD⟩ := g_toPD hP hD (MW_ext (Y := (mS (mS (mS u 10 mk) 14 (fun _ => 0)) 10 (mMark n (u 3) 1 mk ((u 5) (4 * 1 + k))))) (by refine ⟨?_, ?_, ?_, ?_, ?_, ?_, ?_, ?_, ?_, ?_, ?_, ?_, ?_, ?_, ?_, ?_, ?_, ?_⟩ <;> simp only [mS_at, ↓reduceIte, Nat.reduceEqDiff] <;> rfl))
            refine W.eq (g2 := F0 m 47 ls []) rfl ?_
            refine lv_iinc (v := (nI (k + 1))) (lv' := [(2, .int (nI (k + 1))), (0, .ref (q 0)), (1, .int 1)]) hx hb dX3_collect_47 hl (k := 2) rfl (nI_1 _) (by decide) rfl (fun ls hl => ?_)
            refine lv_goto (tgt := 27) hx hb dX3_collect_50 (by decide) ?_
            rw [show MW cI cZ q (mS (mS (mS u 10 mk) 14 (fun _ => 0)) 10 (mMark n (u 3) 1 mk ((u 5) (4 * 1 + k)))) = MW cI cZ q (mS (mS u 10 (mMark n (u 3) 1 mk ((u 5) (4 * 1 + k)))) 14 (fun _ => 0)) from (MW_ext (by refine ⟨?_, ?_, ?_, ?_, ?_, ?_, ?_, ?_, ?_, ?_, ?_, ?_, ?_, ?_, ?_, ?_, ?_, ?_⟩ <;> simp only [mS_at, ↓reduceIte, Nat.reduceEqDiff] <;> rfl))] at hP hD
            exact ih (k + 1) (mMark n (u 3) 1 mk ((u 5) (4 * 1 + k))) _ _ _ hP hD hS (lv_sub hl [1, 2, 0] rfl) (by omega) (by rw [← hr]; rfl)
      rw [show MW cI cZ q (mS (mS u 14 (fun _ => 0)) 10 (mClr (u 10))) = MW cI cZ q (mS (mS u 10 (mClr (u 10))) 14 (fun _ => 0)) from (MW_ext (by refine ⟨?_, ?_, ?_, ?_, ?_, ?_, ?_, ?_, ?_, ?_, ?_, ?_, ?_, ?_, ?_, ?_, ?_, ?_⟩ <;> simp only [mS_at, ↓reduceIte, Nat.reduceEqDiff] <;> rfl))] at hP hD
      exact l1 4 0 (mClr (u 10)) _ _ _ hP hD hS (lv_sub hl [1, 2, 0] rfl) (by omega) (opq_eq _).symm
    · exact absurd (show (0 : Int32) = 0 from rfl) c_16
