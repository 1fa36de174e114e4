/-! THE LAW: what holds of a house, here of one whose refs are for none -/
theorem xLack_le (nd fl : Nat → Int32) : ∃ m : Nat, m ≤ 100 ∧ xLack nd fl = nI m := by
  unfold xLack
  have h := itU_inv (f := xLackStep nd fl) (fun i (t : Int32) => ∃ m : Nat, m ≤ i ∧ t = nI m) 100 0 (fun k _ _ a ⟨m, hm, ha⟩ => by
    unfold xLackStep
    by_cases c1 : nd k = 0
    · rw [if_pos c1]; exact ⟨m, by omega, ha⟩
    · rw [if_neg c1]
      by_cases c2 : fl k = 0
      · rw [if_pos c2]; exact ⟨m + 1, by omega, by rw [ha]; exact nI_1 m⟩
      · rw [if_neg c2]; exact ⟨m, by omega, ha⟩) 0 ⟨0, Nat.le_refl 0, nI_0.symm⟩
  exact h
/-- of the commit k beside o -/
def HA (u : SX) (n o k : Nat) : Prop :=
  (¬ xCon (xAnc n (u.1 0) (u.1 1) (xSet (nI o)) (u.2 0)) (nI k) = 0 → xCon (u.2 0) (nI k) = nI 1 ∧ xCon (u.2 0) (nI o) = nI 1 ∧ k ≤ o) ∧
  (¬ xCon (xAnc n (u.1 0) (u.1 1) (xSet (nI o)) (u.2 1)) (nI k) = 0 → xCon (u.2 1) (nI k) = nI 1 ∧ xCon (u.2 1) (nI o) = nI 1 ∧ k ≤ o) ∧
  (k = o → xCon (xAnc n (u.1 0) (u.1 1) (xSet (nI o)) (u.2 0)) (nI k) = xCon (u.2 0) (nI k) ∧ xCon (xAnc n (u.1 0) (u.1 1) (xSet (nI o)) (u.2 1)) (nI k) = xCon (u.2 1) (nI k)) ∧
  (¬ xCon (xShallow n (u.1 0) (u.1 1) (u.2 1)) (nI k) = 0 → xCon (u.2 1) (nI k) = nI 1) ∧
  (¬ xCon (xAnc n (u.1 0) (u.1 1) (xSet (nI o)) (u.2 1)) (nI k) = 0 → ¬ xCon (u.2 0) (nI o) = 0 → xCon (xAnc n (u.1 0) (u.1 1) (xSet (nI o)) (u.2 0)) (nI k) = nI 1)
theorem HA_sF {u : SX} {n o k : Nat} (h : HA u n o k) : HA (sF n u) n o k := h
abbrev rmL_holds : Room := { frames := 10, cells := 0, slots := 0, locals := 264 }
theorem hdL_holds : yL_holds.cls ≠ "java/lang/invoke/MethodHandle" ∧ yL_holds.cls ≠ "java/lang/invoke/VarHandle" ∧ (parseMethodDescriptor yL_holds.desc).map (fun d => d.parameters.length) = some 2 := by decide +kernel
set_option maxHeartbeats 4000000 in
set_option maxRecDepth 100000 in
theorem cr_holds0 (l : Launch) (hst : l.stackTraces = false) (D : va_G) (cI cZ : ClassId) (q : Nat → Nat) (u : SX) (n : Nat) (hn : u.1 15 0 = nI n) (h60 : n ≤ 60) (X : Nat) (hX : X < 2 ^ 31) (hr0 : ∀ r, r < 4 → u.1 6 r = -1) (hr1 : ∀ r, r < 4 → u.1 8 r = -1) (hH : ∀ k, k < n → HA u n (if n = 0 then 0 else X % n) k) : gB l yL_holds wsL_holds rmL_holds D (tyXZ cI cZ) (XW cI cZ q) LE XT [.ref (q 0), .int (nI X)] u (some (.int 1)) (sF n (sF n u)) 0 0 0 := by
  refine g_startB (cc := cL_holds) (maxL := 11) (ret := (some .boolean)) (by decide) rfl (Nat.le_of_ble_eq_true rfl) ?_
  intro p e s m below meth c A ls Q hx hb hml hret hts hown hlk hE hP hK hD hA hl hQ hS hXT
  have hown : s.vm.findClass RL = some m.cls := hown
  have hl : lv_has ls 11 [(0, .ref (q 0)), (1, .int (nI X))] := hl
  have hG : s.heap.size + 0 ≤ s.heap.size := Nat.le_refl _
  have rest : ∀ (o : Nat) (uA : SX) (H : Heap) (locs : List Loc) (ls : Array Slot) (hP : va_P D vwCl (XW cI cZ q uA) H) (hD : va_D A (XW cI cZ q uA)) (hS : va_S A s.heap H locs) (hl : lv_has ls 11 [(0, .ref (q 0)), (1, .int (nI X)), (2, .int (nI n)), (3, .int (nI 1)), (4, .int (nI o))]) (hG : s.heap.size + 0 ≤ H.size) (ho : 0 < n → o < n) (hoX : o = if n = 0 then 0 else X % n) (hnA : uA.1 15 0 = nI n) (hr0 : ∀ r, r < 4 → uA.1 6 r = -1) (hr1 : ∀ r, r < 4 → uA.1 8 r = -1) (hH : ∀ k, k < n → HA uA n o k) (hus : uA = sF n (sF n u)), W p l e rmL_holds s m ([.ref (q 0), .int (nI X)] : List Value).toArray below meth c H locs 0 0 Q (F0 m 40 ls []) := by
    intro o uA H locs ls hP hD hS hl hG ho hoX hnA hr0 hr1 hH hus
    refine lv_iconst (v := nI 0) hx hb dL_holds_40 (by decide +kernel) ?_
    refine lv_istore (lv' := [(5, .int (nI 0)), (0, .ref (q 0)), (1, .int (nI X)), (2, .int (nI n)), (3, .int (nI 1)), (4, .int (nI o))]) hx hb dL_holds_41 hl (by decide) rfl (fun ls hl => ?_)
    have loop1 : ∀ (d k : Nat) (H : Heap) (locs : List Loc) (ls : Array Slot) (hP : va_P D vwCl (XW cI cZ q uA) H) (hD : va_D A (XW cI cZ q uA)) (hS : va_S A s.heap H locs) (hl : lv_has ls 11 [(0, .ref (q 0)), (1, .int (nI X)), (2, .int (nI n)), (3, .int (nI 1)), (4, .int (nI o)), (5, .int (nI k))]) (hG : s.heap.size + 0 ≤ H.size) (hk : k + d = n), W p l e rmL_holds s m ([.ref (q 0), .int (nI X)] : List Value).toArray below meth c H locs 0 0 Q (F0 m 43 ls []) := by
      intro d
      induction d with
      | zero =>
        intro k H locs ls hP hD hS hl hG hk
        refine lv_iload hx hb dL_holds_43 (lv_at hl 5 rfl) ?_
        refine lv_iload_n hx hb dL_holds_45 rfl (lv_at hl 2 rfl) ?_
        refine lv_icmp_ge (tgt := 234) hx hb dL_holds_46 (by decide) (fun c_46 => ?_) (fun c_46 => by have n_46 : ¬ n ≤ k := fun h => c_46 ((g_leI (a := n) (b := k) rfl rfl (by omega) (by omega)).mpr h); exfalso; omega)
        have n_46 : n ≤ k := (g_leI (a := n) (b := k) rfl rfl (by omega) (by omega)).mp c_46
        refine lv_iconst (v := nI 0) hx hb dL_holds_234 (by decide +kernel) ?_
        refine lv_istore (lv' := [(5, .int (nI 0)), (0, .ref (q 0)), (1, .int (nI X)), (2, .int (nI n)), (3, .int (nI 1)), (4, .int (nI o))]) hx hb dL_holds_235 hl (by decide) rfl (fun ls hl => ?_)
        have loop2 : ∀ (d k : Nat) (H : Heap) (locs : List Loc) (ls : Array Slot) (hP : va_P D vwCl (XW cI cZ q uA) H) (hD : va_D A (XW cI cZ q uA)) (hS : va_S A s.heap H locs) (hl : lv_has ls 11 [(0, .ref (q 0)), (1, .int (nI X)), (3, .int (nI 1)), (5, .int (nI k))]) (hG : s.heap.size + 0 ≤ H.size) (hk : k + d = 4), W p l e rmL_holds s m ([.ref (q 0), .int (nI X)] : List Value).toArray below meth c H locs 0 0 Q (F0 m 237 ls []) := by
          intro d
          induction d with
          | zero =>
            intro k H locs ls hP hD hS hl hG hk
            refine lv_iload hx hb dL_holds_237 (lv_at hl 3 rfl) ?_
            refine lv_iconst (v := nI 4) hx hb dL_holds_239 (by decide +kernel) ?_
            refine lv_icmp_ge (tgt := 452) hx hb dL_holds_240 (by decide) (fun c_240 => ?_) (fun c_240 => by have n_240 : ¬ 4 ≤ k := fun h => c_240 ((g_leI (a := 4) (b := k) rfl rfl (by decide) (by omega)).mpr h); exfalso; omega)
            have n_240 : 4 ≤ k := (g_leI (a := 4) (b := k) rfl rfl (by decide) (by omega)).mp c_240
            refine lv_iload_n hx hb dL_holds_452 rfl (lv_at hl 2 rfl) ?_
            exact g_retB (u1 := uA) hx hb hret (g_nar01 _ (Or.inr rfl)) hlk hQ (by omega) (by omega) hP hD hS (Nat.le_trans (Nat.add_le_add_left (by omega) _) hG) dL_holds_453 rfl (by rw [hus])
          | succ d ih =>
            intro k H locs ls hP hD hS hl hG hk
            refine lv_iload hx hb dL_holds_237 (lv_at hl 3 rfl) ?_
            refine lv_iconst (v := nI 4) hx hb dL_holds_239 (by decide +kernel) ?_
            refine lv_icmp_ge (tgt := 452) hx hb dL_holds_240 (by decide) (fun c_240 => by have n_240 : 4 ≤ k := (g_leI (a := 4) (b := k) rfl rfl (by decide) (by omega)).mp c_240; exfalso; omega) (fun c_240 => ?_)
            have n_240 : ¬ 4 ≤ k := fun h => c_240 ((g_leI (a := 4) (b := k) rfl rfl (by decide) (by omega)).mpr h)
            refine lv_iload_n hx hb dL_holds_243 rfl (lv_at hl 2 rfl) ?_
            refine lv_if_eq (tgt := 452) hx hb dL_holds_244 (by decide) (fun c_244 => by have n_244 : 1 = 0 := (g_eqI (a := 1) (b := 0) rfl rfl (by decide) (by decide)).mp c_244; exfalso; omega) (fun c_244 => ?_)
            have n_244 : ¬ 1 = 0 := fun h => c_244 ((g_eqI (a := 1) (b := 0) rfl rfl (by decide) (by decide)).mpr h)
            refine lv_aload_n hx hb dL_holds_247 rfl (lv_at hl 0 rfl) ?_
            refine lv_iconst (v := nI 0) hx hb dL_holds_248 (by decide +kernel) ?_
            refine lv_iload hx hb dL_holds_249 (lv_at hl 3 rfl) ?_
            refine g_callSWB (As := [.ref (q 0), .int (nI 0), .int (nI k)]) (rest := []) (wr := []) (wn := (XW cI cZ q uA)) hx hb hml hown hts (lr_ref l D cI cZ q uA 0 (by omega) (nI k) (xR_in (n := 4) (by omega) (by omega))) gL_holds_L_ref rfl rfl rfl hdL_ref ⟨Nat.le_of_ble_eq_true rfl, Nat.le_of_ble_eq_true rfl⟩ LE_em hE XT_tm hXT hP hK hD hS hA rfl hl.1 rfl (Nat.le_of_ble_eq_true rfl) dL_holds_251 ⟨Nat.le_of_ble_eq_true rfl, Nat.le_of_ble_eq_true rfl⟩ [0, 1, 2, 3, 4, 5, 6, 7, 8, 9, 10, 11, 12, 13, 14, 15, 16] [] [0, 1, 2, 3, 4, 5, 6, 7, 8, 9, 10, 11, 12, 13, 14, 15, 16] (by decide) rfl rfl (by decide) (by decide) (by decide) rfl (fun H locs hP hD hS hz => ?_)
            have hG : s.heap.size + 0 ≤ H.size := Nat.le_trans hG hz
            refine W.eq (g2 := F0 m 254 ls [.int (xRefOf (uA.1 (6 + 2 * 0)) (nI k))]) rfl ?_
            refine lv_istore (lv' := [(6, .int (xRefOf (uA.1 (6 + 2 * 0)) (nI k))), (0, .ref (q 0)), (1, .int (nI X)), (3, .int (nI 1)), (5, .int (nI k))]) hx hb dL_holds_254 hl (by decide) rfl (fun ls hl => ?_)
            refine lv_aload_n hx hb dL_holds_256 rfl (lv_at hl 1 rfl) ?_
            refine lv_iconst (v := nI 1) hx hb dL_holds_257 (by decide +kernel) ?_
            refine lv_iload hx hb dL_holds_258 (lv_at hl 4 rfl) ?_
            refine g_callSWB (As := [.ref (q 0), .int (nI 1), .int (nI k)]) (rest := []) (wr := []) (wn := (XW cI cZ q uA)) hx hb hml hown hts (lr_ref l D cI cZ q uA 1 (by omega) (nI k) (xR_in (n := 4) (by omega) (by omega))) gL_holds_L_ref rfl rfl rfl hdL_ref ⟨Nat.le_of_ble_eq_true rfl, Nat.le_of_ble_eq_true rfl⟩ LE_em hE XT_tm hXT hP hK hD hS hA rfl hl.1 rfl (Nat.le_of_ble_eq_true rfl) dL_holds_260 ⟨Nat.le_of_ble_eq_true rfl, Nat.le_of_ble_eq_true rfl⟩ [0, 1, 2, 3, 4, 5, 6, 7, 8, 9, 10, 11, 12, 13, 14, 15, 16] [] [0, 1, 2, 3, 4, 5, 6, 7, 8, 9, 10, 11, 12, 13, 14, 15, 16] (by decide) rfl rfl (by decide) (by decide) (by decide) rfl (fun H locs hP hD hS hz => ?_)
            have hG : s.heap.size + 0 ≤ H.size := Nat.le_trans hG hz
            refine W.eq (g2 := F0 m 263 ls [.int (xRefOf (uA.1 (6 + 2 * 1)) (nI k))]) rfl ?_
            refine lv_istore (lv' := [(7, .int (xRefOf (uA.1 (6 + 2 * 1)) (nI k))), (6, .int (xRefOf (uA.1 (6 + 2 * 0)) (nI k))), (0, .ref (q 0)), (1, .int (nI X)), (3, .int (nI 1)), (5, .int (nI k))]) hx hb dL_holds_263 hl (by decide) rfl (fun ls hl => ?_)
            refine lv_iload hx hb dL_holds_265 (lv_at hl 1 rfl) ?_
            refine lv_if_lt (tgt := 281) hx hb dL_holds_267 (by decide) (fun c_267 => ?_) (fun c_267 => by exfalso; rw [show xRefOf (uA.1 (6 + 2 * 0)) (nI k) = -1 from (rf_at (by omega)).trans (hr0 k (by omega))] at c_267; exact c_267 (by decide +kernel))
            refine lv_iload hx hb dL_holds_281 (lv_at hl 0 rfl) ?_
            refine lv_if_lt (tgt := 297) hx hb dL_holds_283 (by decide) (fun c_283 => ?_) (fun c_283 => by exfalso; rw [show xRefOf (uA.1 (6 + 2 * 1)) (nI k) = -1 from (rf_at (by omega)).trans (hr1 k (by omega))] at c_283; exact c_283 (by decide +kernel))
            refine lv_iconst (v := nI 1) hx hb dL_holds_297 (by decide +kernel) ?_
            refine lv_goto (tgt := 302) hx hb dL_holds_298 (by decide) ?_
            refine lv_istore_n (lv' := [(3, .int (nI 1)), (7, .int (xRefOf (uA.1 (6 + 2 * 1)) (nI k))), (6, .int (xRefOf (uA.1 (6 + 2 * 0)) (nI k))), (0, .ref (q 0)), (1, .int (nI X)), (5, .int (nI k))]) hx hb dL_holds_302 rfl hl (by decide) rfl (fun ls hl => ?_)
            refine lv_iload_n hx hb dL_holds_303 rfl (lv_at hl 0 rfl) ?_
            refine lv_if_eq (tgt := 446) hx hb dL_holds_304 (by decide) (fun c_304 => by have n_304 : 1 = 0 := (g_eqI (a := 1) (b := 0) rfl rfl (by decide) (by decide)).mp c_304; exfalso; omega) (fun c_304 => ?_)
            have n_304 : ¬ 1 = 0 := fun h => c_304 ((g_eqI (a := 1) (b := 0) rfl rfl (by decide) (by decide)).mpr h)
            refine lv_iload hx hb dL_holds_307 (lv_at hl 2 rfl) ?_
            refine lv_if_lt (tgt := 446) hx hb dL_holds_309 (by decide) (fun c_309 => ?_) (fun c_309 => by exfalso; rw [show xRefOf (uA.1 (6 + 2 * 0)) (nI k) = -1 from (rf_at (by omega)).trans (hr0 k (by omega))] at c_309; exact c_309 (by decide +kernel))
            refine lv_iinc (v := (nI (k + 1))) (lv' := [(5, .int (nI (k + 1))), (3, .int (nI 1)), (7, .int (xRefOf (uA.1 (6 + 2 * 1)) (nI k))), (6, .int (xRefOf (uA.1 (6 + 2 * 0)) (nI k))), (0, .ref (q 0)), (1, .int (nI X))]) hx hb dL_holds_446 hl (k := 5) rfl (nI_1 _) (by decide) rfl (fun ls hl => ?_)
            refine lv_goto (tgt := 237) hx hb dL_holds_449 (by decide) ?_
            exact W.widen (by omega) (by omega) (ih (k + 1) _ _ _ hP hD hS (lv_sub hl [4, 5, 1, 0] rfl) (Nat.le_trans (Nat.add_le_add_left (by omega) _) hG) (by omega))
        exact W.widen (by omega) (by omega) (loop2 4 0 _ _ _ hP hD hS (lv_sub hl [1, 2, 4, 0] rfl) (Nat.le_trans (Nat.add_le_add_left (by omega) _) hG) rfl)
      | succ d ih =>
        intro k H locs ls hP hD hS hl hG hk
        have hon := ho (by omega)
        refine lv_iload hx hb dL_holds_43 (lv_at hl 5 rfl) ?_
        refine lv_iload_n hx hb dL_holds_45 rfl (lv_at hl 2 rfl) ?_
        refine lv_icmp_ge (tgt := 234) hx hb dL_holds_46 (by decide) (fun c_46 => by have n_46 : n ≤ k := (g_leI (a := n) (b := k) rfl rfl (by omega) (by omega)).mp c_46; exfalso; omega) (fun c_46 => ?_)
        have n_46 : ¬ n ≤ k := fun h => c_46 ((g_leI (a := n) (b := k) rfl rfl (by omega) (by omega)).mpr h)
        refine lv_iload_n hx hb dL_holds_49 rfl (lv_at hl 3 rfl) ?_
        refine lv_if_eq (tgt := 234) hx hb dL_holds_50 (by decide) (fun c_50 => by have n_50 : 1 = 0 := (g_eqI (a := 1) (b := 0) rfl rfl (by decide) (by decide)).mp c_50; exfalso; omega) (fun c_50 => ?_)
        have n_50 : ¬ 1 = 0 := fun h => c_50 ((g_eqI (a := 1) (b := 0) rfl rfl (by decide) (by decide)).mpr h)
        refine lv_aload_n hx hb dL_holds_53 rfl (lv_at hl 0 rfl) ?_
        refine lv_iconst (v := nI 0) hx hb dL_holds_54 (by decide +kernel) ?_
        refine lv_iload hx hb dL_holds_55 (lv_at hl 5 rfl) ?_
        refine lv_iload hx hb dL_holds_57 (lv_at hl 4 rfl) ?_
        refine g_callSWB (As := [.ref (q 0), .int (nI 0), .int (nI k), .int (nI o)]) (rest := []) (wr := []) (wn := (XW cI cZ q uA)) hx hb hml hown hts (lr_ancestor l D cI cZ q uA n hnA h60 0 (by omega) (nI k) (nI o) (xR_in (n := n) (by omega) (by omega)) (xR_in (n := n) (by omega) (by omega))) gL_holds_L_ancestor rfl rfl rfl hdL_ancestor ⟨Nat.le_of_ble_eq_true rfl, Nat.le_of_ble_eq_true rfl⟩ LE_em hE XT_tm hXT hP hK hD hS hA rfl hl.1 rfl (Nat.le_of_ble_eq_true rfl) dL_holds_59 ⟨Nat.le_of_ble_eq_true rfl, Nat.le_of_ble_eq_true rfl⟩ [0, 1, 2, 3, 4, 5, 6, 7, 8, 9, 10, 11, 12, 13, 14, 15, 16] [] [0, 1, 2, 3, 4, 5, 6, 7, 8, 9, 10, 11, 12, 13, 14, 15, 16] (by decide) rfl rfl (by decide) (by decide) (by decide) rfl (fun H locs hP hD hS hz => ?_)
        have hG : s.heap.size + 0 ≤ H.size := Nat.le_trans hG hz
        refine W.eq (g2 := F0 m 62 ls [.int (xCon (xAnc n (uA.1 0) (uA.1 1) (xSet (nI o)) (uA.2 0)) (nI k))]) rfl ?_
        refine lv_istore (lv' := [(6, .int (xCon (xAnc n (uA.1 0) (uA.1 1) (xSet (nI o)) (uA.2 0)) (nI k))), (0, .ref (q 0)), (1, .int (nI X)), (2, .int (nI n)), (3, .int (nI 1)), (4, .int (nI o)), (5, .int (nI k))]) hx hb dL_holds_62 hl (by decide) rfl (fun ls hl => ?_)
        refine lv_aload_n hx hb dL_holds_64 rfl (lv_at hl 1 rfl) ?_
        refine lv_iconst (v := nI 1) hx hb dL_holds_65 (by decide +kernel) ?_
        refine lv_iload hx hb dL_holds_66 (lv_at hl 6 rfl) ?_
        refine lv_iload hx hb dL_holds_68 (lv_at hl 5 rfl) ?_
        refine g_callSWB (As := [.ref (q 0), .int (nI 1), .int (nI k), .int (nI o)]) (rest := []) (wr := []) (wn := (XW cI cZ q uA)) hx hb hml hown hts (lr_ancestor l D cI cZ q uA n hnA h60 1 (by omega) (nI k) (nI o) (xR_in (n := n) (by omega) (by omega)) (xR_in (n := n) (by omega) (by omega))) gL_holds_L_ancestor rfl rfl rfl hdL_ancestor ⟨Nat.le_of_ble_eq_true rfl, Nat.le_of_ble_eq_true rfl⟩ LE_em hE XT_tm hXT hP hK hD hS hA rfl hl.1 rfl (Nat.le_of_ble_eq_true rfl) dL_holds_70 ⟨Nat.le_of_ble_eq_true rfl, Nat.le_of_ble_eq_true rfl⟩ [0, 1, 2, 3, 4, 5, 6, 7, 8, 9, 10, 11, 12, 13, 14, 15, 16] [] [0, 1, 2, 3, 4, 5, 6, 7, 8, 9, 10, 11, 12, 13, 14, 15, 16] (by decide) rfl rfl (by decide) (by decide) (by decide) rfl (fun H locs hP hD hS hz => ?_)
        have hG : s.heap.size + 0 ≤ H.size := Nat.le_trans hG hz
        refine W.eq (g2 := F0 m 73 ls [.int (xCon (xAnc n (uA.1 0) (uA.1 1) (xSet (nI o)) (uA.2 1)) (nI k))]) rfl ?_
        refine lv_istore (lv' := [(7, .int (xCon (xAnc n (uA.1 0) (uA.1 1) (xSet (nI o)) (uA.2 1)) (nI k))), (6, .int (xCon (xAnc n (uA.1 0) (uA.1 1) (xSet (nI o)) (uA.2 0)) (nI k))), (0, .ref (q 0)), (1, .int (nI X)), (2, .int (nI n)), (3, .int (nI 1)), (4, .int (nI o)), (5, .int (nI k))]) hx hb dL_holds_73 hl (by decide) rfl (fun ls hl => ?_)
        have j109 : ∀  (H : Heap) (locs : List Loc) (ls : Array Slot) (hP : va_P D vwCl (XW cI cZ q uA) H) (hD : va_D A (XW cI cZ q uA)) (hS : va_S A s.heap H locs) (hl : lv_has ls 11 [(0, .ref (q 0)), (1, .int (nI X)), (2, .int (nI n)), (3, .int (nI 1)), (4, .int (nI o)), (5, .int (nI k)), (6, .int (xCon (xAnc n (uA.1 0) (uA.1 1) (xSet (nI o)) (uA.2 0)) (nI k))), (7, .int (xCon (xAnc n (uA.1 0) (uA.1 1) (xSet (nI o)) (uA.2 1)) (nI k)))]) (hG : s.heap.size + 0 ≤ H.size), W p l e rmL_holds s m ([.ref (q 0), .int (nI X)] : List Value).toArray below meth c H locs 0 0 Q (F0 m 109 ls []) := by
          intro  H locs ls hP hD hS hl hG
          have j143 : ∀  (H : Heap) (locs : List Loc) (ls : Array Slot) (hP : va_P D vwCl (XW cI cZ q uA) H) (hD : va_D A (XW cI cZ q uA)) (hS : va_S A s.heap H locs) (hl : lv_has ls 11 [(0, .ref (q 0)), (1, .int (nI X)), (2, .int (nI n)), (3, .int (nI 1)), (4, .int (nI o)), (5, .int (nI k)), (6, .int (xCon (xAnc n (uA.1 0) (uA.1 1) (xSet (nI o)) (uA.2 0)) (nI k))), (7, .int (xCon (xAnc n (uA.1 0) (uA.1 1) (xSet (nI o)) (uA.2 1)) (nI k)))]) (hG : s.heap.size + 0 ≤ H.size), W p l e rmL_holds s m ([.ref (q 0), .int (nI X)] : List Value).toArray below meth c H locs 0 0 Q (F0 m 143 ls []) := by
            intro  H locs ls hP hD hS hl hG
            have j174 : ∀  (H : Heap) (locs : List Loc) (ls : Array Slot) (hP : va_P D vwCl (XW cI cZ q uA) H) (hD : va_D A (XW cI cZ q uA)) (hS : va_S A s.heap H locs) (hl : lv_has ls 11 [(0, .ref (q 0)), (1, .int (nI X)), (2, .int (nI n)), (3, .int (nI 1)), (4, .int (nI o)), (5, .int (nI k)), (6, .int (xCon (xAnc n (uA.1 0) (uA.1 1) (xSet (nI o)) (uA.2 0)) (nI k))), (7, .int (xCon (xAnc n (uA.1 0) (uA.1 1) (xSet (nI o)) (uA.2 1)) (nI k)))]) (hG : s.heap.size + 0 ≤ H.size), W p l e rmL_holds s m ([.ref (q 0), .int (nI X)] : List Value).toArray below meth c H locs 0 0 Q (F0 m 174 ls []) := by
              intro  H locs ls hP hD hS hl hG
              have j194 : ∀  (H : Heap) (locs : List Loc) (ls : Array Slot) (hP : va_P D vwCl (XW cI cZ q uA) H) (hD : va_D A (XW cI cZ q uA)) (hS : va_S A s.heap H locs) (hl : lv_has ls 11 [(0, .ref (q 0)), (1, .int (nI X)), (2, .int (nI n)), (3, .int (nI 1)), (4, .int (nI o)), (5, .int (nI k)), (6, .int (xCon (xAnc n (uA.1 0) (uA.1 1) (xSet (nI o)) (uA.2 0)) (nI k))), (7, .int (xCon (xAnc n (uA.1 0) (uA.1 1) (xSet (nI o)) (uA.2 1)) (nI k)))]) (hG : s.heap.size + 0 ≤ H.size), W p l e rmL_holds s m ([.ref (q 0), .int (nI X)] : List Value).toArray below meth c H locs 0 0 Q (F0 m 194 ls []) := by
                intro  H locs ls hP hD hS hl hG
                have j222 : ∀  (H : Heap) (locs : List Loc) (ls : Array Slot) (hP : va_P D vwCl (XW cI cZ q uA) H) (hD : va_D A (XW cI cZ q uA)) (hS : va_S A s.heap H locs) (hl : lv_has ls 11 [(0, .ref (q 0)), (1, .int (nI X)), (2, .int (nI n)), (3, .int (nI 1)), (4, .int (nI o)), (5, .int (nI k)), (6, .int (xCon (xAnc n (uA.1 0) (uA.1 1) (xSet (nI o)) (uA.2 0)) (nI k))), (7, .int (xCon (xAnc n (uA.1 0) (uA.1 1) (xSet (nI o)) (uA.2 1)) (nI k)))]) (hG : s.heap.size + 0 ≤ H.size), W p l e rmL_holds s m ([.ref (q 0), .int (nI X)] : List Value).toArray below meth c H locs 0 0 Q (F0 m 222 ls []) := by
                  intro  H locs ls hP hD hS hl hG
                  refine lv_iconst (v := nI 1) hx hb dL_holds_222 (by decide +kernel) ?_
                  refine lv_goto (tgt := 227) hx hb dL_holds_223 (by decide) ?_
                  refine lv_istore_n (lv' := [(3, .int (nI 1)), (0, .ref (q 0)), (1, .int (nI X)), (2, .int (nI n)), (4, .int (nI o)), (5, .int (nI k)), (6, .int (xCon (xAnc n (uA.1 0) (uA.1 1) (xSet (nI o)) (uA.2 0)) (nI k))), (7, .int (xCon (xAnc n (uA.1 0) (uA.1 1) (xSet (nI o)) (uA.2 1)) (nI k)))]) hx hb dL_holds_227 rfl hl (by decide) rfl (fun ls hl => ?_)
                  refine lv_iinc (v := (nI (k + 1))) (lv' := [(5, .int (nI (k + 1))), (3, .int (nI 1)), (0, .ref (q 0)), (1, .int (nI X)), (2, .int (nI n)), (4, .int (nI o)), (6, .int (xCon (xAnc n (uA.1 0) (uA.1 1) (xSet (nI o)) (uA.2 0)) (nI k))), (7, .int (xCon (xAnc n (uA.1 0) (uA.1 1) (xSet (nI o)) (uA.2 1)) (nI k)))]) hx hb dL_holds_228 hl (k := 5) rfl (nI_1 _) (by decide) rfl (fun ls hl => ?_)
                  refine lv_goto (tgt := 43) hx hb dL_holds_231 (by decide) ?_
                  exact W.widen (by omega) (by omega) (ih (k + 1) _ _ _ hP hD hS (lv_sub hl [2, 3, 4, 1, 5, 0] rfl) (Nat.le_trans (Nat.add_le_add_left (by omega) _) hG) (by omega))
                refine lv_iload hx hb dL_holds_194 (lv_at hl 7 rfl) ?_
                refine lv_if_eq (tgt := 222) hx hb dL_holds_196 (by decide) (fun c_196 => ?_) (fun c_196 => ?_)
                · exact W.widen (by omega) (by omega) (j222  _ _ _ hP hD hS (lv_sub hl [0, 1, 2, 3, 4, 5, 6, 7] rfl) (Nat.le_trans (Nat.add_le_add_left (by omega) _) hG) )
                · refine lv_aload_n hx hb dL_holds_199 rfl (lv_at hl 0 rfl) ?_
                  refine lv_iconst (v := nI 0) hx hb dL_holds_200 (by decide +kernel) ?_
                  refine lv_iload hx hb dL_holds_201 (lv_at hl 4 rfl) ?_
                  refine g_callSWB (As := [.ref (q 0), .int (nI 0), .int (nI o)]) (rest := []) (wr := []) (wn := (XW cI cZ q uA)) hx hb hml hown hts (lr_has l D cI cZ q uA n hnA h60 0 (by omega) (nI o) (xR_in (n := n) (by omega) (by omega))) gL_holds_L_has rfl rfl rfl hdL_has ⟨Nat.le_of_ble_eq_true rfl, Nat.le_of_ble_eq_true rfl⟩ LE_em hE XT_tm hXT hP hK hD hS hA rfl hl.1 rfl (Nat.le_of_ble_eq_true rfl) dL_holds_203 ⟨Nat.le_of_ble_eq_true rfl, Nat.le_of_ble_eq_true rfl⟩ [0, 1, 2, 3, 4, 5, 6, 7, 8, 9, 10, 11, 12, 13, 14, 15, 16] [] [0, 1, 2, 3, 4, 5, 6, 7, 8, 9, 10, 11, 12, 13, 14, 15, 16] (by decide) rfl rfl (by decide) (by decide) (by decide) rfl (fun H locs hP hD hS hz => ?_)
                  have hG : s.heap.size + 0 ≤ H.size := Nat.le_trans hG hz
                  refine W.eq (g2 := F0 m 206 ls [.int (xCon (uA.2 0) (nI o))]) rfl ?_
                  refine lv_if_eq (tgt := 222) hx hb dL_holds_206 (by decide) (fun c_206 => ?_) (fun c_206 => ?_)
                  · exact W.widen (by omega) (by omega) (j222  _ _ _ hP hD hS (lv_sub hl [0, 1, 2, 3, 4, 5, 6, 7] rfl) (Nat.le_trans (Nat.add_le_add_left (by omega) _) hG) )
                  · refine lv_aload_n hx hb dL_holds_209 rfl (lv_at hl 0 rfl) ?_
                    refine lv_iconst (v := nI 0) hx hb dL_holds_210 (by decide +kernel) ?_
                    refine lv_iload hx hb dL_holds_211 (lv_at hl 5 rfl) ?_
                    refine lv_iload hx hb dL_holds_213 (lv_at hl 4 rfl) ?_
                    refine g_callSWB (As := [.ref (q 0), .int (nI 0), .int (nI k), .int (nI o)]) (rest := []) (wr := []) (wn := (XW cI cZ q uA)) hx hb hml hown hts (lr_ancestor l D cI cZ q uA n hnA h60 0 (by omega) (nI k) (nI o) (xR_in (n := n) (by omega) (by omega)) (xR_in (n := n) (by omega) (by omega))) gL_holds_L_ancestor rfl rfl rfl hdL_ancestor ⟨Nat.le_of_ble_eq_true rfl, Nat.le_of_ble_eq_true rfl⟩ LE_em hE XT_tm hXT hP hK hD hS hA rfl hl.1 rfl (Nat.le_of_ble_eq_true rfl) dL_holds_215 ⟨Nat.le_of_ble_eq_true rfl, Nat.le_of_ble_eq_true rfl⟩ [0, 1, 2, 3, 4, 5, 6, 7, 8, 9, 10, 11, 12, 13, 14, 15, 16] [] [0, 1, 2, 3, 4, 5, 6, 7, 8, 9, 10, 11, 12, 13, 14, 15, 16] (by decide) rfl rfl (by decide) (by decide) (by decide) rfl (fun H locs hP hD hS hz => ?_)
                    have hG : s.heap.size + 0 ≤ H.size := Nat.le_trans hG hz
                    refine W.eq (g2 := F0 m 218 ls [.int (xCon (xAnc n (uA.1 0) (uA.1 1) (xSet (nI o)) (uA.2 0)) (nI k))]) rfl ?_
                    refine lv_iconst (v := nI 1) hx hb dL_holds_218 (by decide +kernel) ?_
                    refine lv_icmp_ne (tgt := 226) hx hb dL_holds_219 (by decide) (fun c_219 => by exfalso; exact c_219 (((hH k (by omega)).2.2.2.2 c_196) c_206)) (fun c_219 => ?_)
                    exact W.widen (by omega) (by omega) (j222  _ _ _ hP hD hS (lv_sub hl [0, 1, 2, 3, 4, 5, 6, 7] rfl) (Nat.le_trans (Nat.add_le_add_left (by omega) _) hG) )
              refine lv_aload_n hx hb dL_holds_174 rfl (lv_at hl 0 rfl) ?_
              refine lv_iload hx hb dL_holds_175 (lv_at hl 5 rfl) ?_
              refine g_callSWB (As := [.ref (q 0), .int (nI k)]) (rest := []) (wr := []) (wn := (XW cI cZ q uA)) hx hb hml hown hts (lr_shallow l D cI cZ q uA n hnA h60 (nI k) (xR_in (n := n) (by omega) (by omega))) gL_holds_L_shallow rfl rfl rfl hdL_shallow ⟨Nat.le_of_ble_eq_true rfl, Nat.le_of_ble_eq_true rfl⟩ LE_em hE XT_tm hXT hP hK hD hS hA rfl hl.1 rfl (Nat.le_of_ble_eq_true rfl) dL_holds_177 ⟨Nat.le_of_ble_eq_true rfl, Nat.le_of_ble_eq_true rfl⟩ [0, 1, 2, 3, 4, 5, 6, 7, 8, 9, 10, 11, 12, 13, 14, 15, 16] [] [0, 1, 2, 3, 4, 5, 6, 7, 8, 9, 10, 11, 12, 13, 14, 15, 16] (by decide) rfl rfl (by decide) (by decide) (by decide) rfl (fun H locs hP hD hS hz => ?_)
              have hG : s.heap.size + 0 ≤ H.size := Nat.le_trans hG hz
              refine W.eq (g2 := F0 m 180 ls [.int (xCon (xShallow n (uA.1 0) (uA.1 1) (uA.2 1)) (nI k))]) rfl ?_
              refine lv_if_eq (tgt := 194) hx hb dL_holds_180 (by decide) (fun c_180 => ?_) (fun c_180 => ?_)
              · exact W.widen (by omega) (by omega) (j194  _ _ _ hP hD hS (lv_sub hl [0, 1, 2, 3, 4, 5, 6, 7] rfl) (Nat.le_trans (Nat.add_le_add_left (by omega) _) hG) )
              · refine lv_aload_n hx hb dL_holds_183 rfl (lv_at hl 0 rfl) ?_
                refine lv_iconst (v := nI 1) hx hb dL_holds_184 (by decide +kernel) ?_
                refine lv_iload hx hb dL_holds_185 (lv_at hl 5 rfl) ?_
                refine g_callSWB (As := [.ref (q 0), .int (nI 1), .int (nI k)]) (rest := []) (wr := []) (wn := (XW cI cZ q uA)) hx hb hml hown hts (lr_has l D cI cZ q uA n hnA h60 1 (by omega) (nI k) (xR_in (n := n) (by omega) (by omega))) gL_holds_L_has rfl rfl rfl hdL_has ⟨Nat.le_of_ble_eq_true rfl, Nat.le_of_ble_eq_true rfl⟩ LE_em hE XT_tm hXT hP hK hD hS hA rfl hl.1 rfl (Nat.le_of_ble_eq_true rfl) dL_holds_187 ⟨Nat.le_of_ble_eq_true rfl, Nat.le_of_ble_eq_true rfl⟩ [0, 1, 2, 3, 4, 5, 6, 7, 8, 9, 10, 11, 12, 13, 14, 15, 16] [] [0, 1, 2, 3, 4, 5, 6, 7, 8, 9, 10, 11, 12, 13, 14, 15, 16] (by decide) rfl rfl (by decide) (by decide) (by decide) rfl (fun H locs hP hD hS hz => ?_)
                have hG : s.heap.size + 0 ≤ H.size := Nat.le_trans hG hz
                refine W.eq (g2 := F0 m 190 ls [.int (xCon (uA.2 1) (nI k))]) rfl ?_
                refine lv_iconst (v := nI 1) hx hb dL_holds_190 (by decide +kernel) ?_
                refine lv_icmp_ne (tgt := 226) hx hb dL_holds_191 (by decide) (fun c_191 => by exfalso; exact c_191 ((hH k (by omega)).2.2.2.1 c_180)) (fun c_191 => ?_)
                exact W.widen (by omega) (by omega) (j194  _ _ _ hP hD hS (lv_sub hl [0, 1, 2, 3, 4, 5, 6, 7] rfl) (Nat.le_trans (Nat.add_le_add_left (by omega) _) hG) )
            refine lv_iload hx hb dL_holds_143 (lv_at hl 5 rfl) ?_
            refine lv_iload hx hb dL_holds_145 (lv_at hl 4 rfl) ?_
            refine lv_icmp_ne (tgt := 174) hx hb dL_holds_147 (by decide) (fun c_147 => ?_) (fun c_147 => ?_)
            · have n_147 : ¬ k = o := fun h => c_147 ((g_eqI (a := k) (b := o) rfl rfl (by omega) (by omega)).mpr h)
              exact W.widen (by omega) (by omega) (j174  _ _ _ hP hD hS (lv_sub hl [0, 1, 2, 3, 4, 5, 6, 7] rfl) (Nat.le_trans (Nat.add_le_add_left (by omega) _) hG) )
            · have n_147 : k = o := (g_eqI (a := k) (b := o) rfl rfl (by omega) (by omega)).mp c_147
              refine lv_iload hx hb dL_holds_150 (lv_at hl 6 rfl) ?_
              refine lv_aload_n hx hb dL_holds_152 rfl (lv_at hl 0 rfl) ?_
              refine lv_iconst (v := nI 0) hx hb dL_holds_153 (by decide +kernel) ?_
              refine lv_iload hx hb dL_holds_154 (lv_at hl 5 rfl) ?_
              refine g_callSWB (As := [.ref (q 0), .int (nI 0), .int (nI k)]) (rest := [.int (xCon (xAnc n (uA.1 0) (uA.1 1) (xSet (nI o)) (uA.2 0)) (nI k))]) (wr := []) (wn := (XW cI cZ q uA)) hx hb hml hown hts (lr_has l D cI cZ q uA n hnA h60 0 (by omega) (nI k) (xR_in (n := n) (by omega) (by omega))) gL_holds_L_has rfl rfl rfl hdL_has ⟨Nat.le_of_ble_eq_true rfl, Nat.le_of_ble_eq_true rfl⟩ LE_em hE XT_tm hXT hP hK hD hS hA rfl hl.1 rfl (Nat.le_of_ble_eq_true rfl) dL_holds_156 ⟨Nat.le_of_ble_eq_true rfl, Nat.le_of_ble_eq_true rfl⟩ [0, 1, 2, 3, 4, 5, 6, 7, 8, 9, 10, 11, 12, 13, 14, 15, 16] [] [0, 1, 2, 3, 4, 5, 6, 7, 8, 9, 10, 11, 12, 13, 14, 15, 16] (by decide) rfl rfl (by decide) (by decide) (by decide) rfl (fun H locs hP hD hS hz => ?_)
              have hG : s.heap.size + 0 ≤ H.size := Nat.le_trans hG hz
              refine W.eq (g2 := F0 m 159 ls [.int (xCon (uA.2 0) (nI k)), .int (xCon (xAnc n (uA.1 0) (uA.1 1) (xSet (nI o)) (uA.2 0)) (nI k))]) rfl ?_
              refine lv_icmp_ne (tgt := 226) hx hb dL_holds_159 (by decide) (fun c_159 => by exfalso; exact c_159 ((hH k (by omega)).2.2.1 n_147).1) (fun c_159 => ?_)
              refine lv_iload hx hb dL_holds_162 (lv_at hl 7 rfl) ?_
              refine lv_aload_n hx hb dL_holds_164 rfl (lv_at hl 0 rfl) ?_
              refine lv_iconst (v := nI 1) hx hb dL_holds_165 (by decide +kernel) ?_
              refine lv_iload hx hb dL_holds_166 (lv_at hl 5 rfl) ?_
              refine g_callSWB (As := [.ref (q 0), .int (nI 1), .int (nI k)]) (rest := [.int (xCon (xAnc n (uA.1 0) (uA.1 1) (xSet (nI o)) (uA.2 1)) (nI k))]) (wr := []) (wn := (XW cI cZ q uA)) hx hb hml hown hts (lr_has l D cI cZ q uA n hnA h60 1 (by omega) (nI k) (xR_in (n := n) (by omega) (by omega))) gL_holds_L_has rfl rfl rfl hdL_has ⟨Nat.le_of_ble_eq_true rfl, Nat.le_of_ble_eq_true rfl⟩ LE_em hE XT_tm hXT hP hK hD hS hA rfl hl.1 rfl (Nat.le_of_ble_eq_true rfl) dL_holds_168 ⟨Nat.le_of_ble_eq_true rfl, Nat.le_of_ble_eq_true rfl⟩ [0, 1, 2, 3, 4, 5, 6, 7, 8, 9, 10, 11, 12, 13, 14, 15, 16] [] [0, 1, 2, 3, 4, 5, 6, 7, 8, 9, 10, 11, 12, 13, 14, 15, 16] (by decide) rfl rfl (by decide) (by decide) (by decide) rfl (fun H locs hP hD hS hz => ?_)
              have hG : s.heap.size + 0 ≤ H.size := Nat.le_trans hG hz
              refine W.eq (g2 := F0 m 171 ls [.int (xCon (uA.2 1) (nI k)), .int (xCon (xAnc n (uA.1 0) (uA.1 1) (xSet (nI o)) (uA.2 1)) (nI k))]) rfl ?_
              refine lv_icmp_ne (tgt := 226) hx hb dL_holds_171 (by decide) (fun c_171 => by exfalso; exact c_171 ((hH k (by omega)).2.2.1 n_147).2) (fun c_171 => ?_)
              exact W.widen (by omega) (by omega) (j174  _ _ _ hP hD hS (lv_sub hl [0, 1, 2, 3, 4, 5, 6, 7] rfl) (Nat.le_trans (Nat.add_le_add_left (by omega) _) hG) )
          refine lv_iload hx hb dL_holds_109 (lv_at hl 7 rfl) ?_
          refine lv_if_eq (tgt := 143) hx hb dL_holds_111 (by decide) (fun c_111 => ?_) (fun c_111 => ?_)
          · exact W.widen (by omega) (by omega) (j143  _ _ _ hP hD hS (lv_sub hl [0, 1, 2, 3, 4, 5, 6, 7] rfl) (Nat.le_trans (Nat.add_le_add_left (by omega) _) hG) )
          · refine lv_aload_n hx hb dL_holds_114 rfl (lv_at hl 0 rfl) ?_
            refine lv_iconst (v := nI 1) hx hb dL_holds_115 (by decide +kernel) ?_
            refine lv_iload hx hb dL_holds_116 (lv_at hl 5 rfl) ?_
            refine g_callSWB (As := [.ref (q 0), .int (nI 1), .int (nI k)]) (rest := []) (wr := []) (wn := (XW cI cZ q uA)) hx hb hml hown hts (lr_has l D cI cZ q uA n hnA h60 1 (by omega) (nI k) (xR_in (n := n) (by omega) (by omega))) gL_holds_L_has rfl rfl rfl hdL_has ⟨Nat.le_of_ble_eq_true rfl, Nat.le_of_ble_eq_true rfl⟩ LE_em hE XT_tm hXT hP hK hD hS hA rfl hl.1 rfl (Nat.le_of_ble_eq_true rfl) dL_holds_118 ⟨Nat.le_of_ble_eq_true rfl, Nat.le_of_ble_eq_true rfl⟩ [0, 1, 2, 3, 4, 5, 6, 7, 8, 9, 10, 11, 12, 13, 14, 15, 16] [] [0, 1, 2, 3, 4, 5, 6, 7, 8, 9, 10, 11, 12, 13, 14, 15, 16] (by decide) rfl rfl (by decide) (by decide) (by decide) rfl (fun H locs hP hD hS hz => ?_)
            have hG : s.heap.size + 0 ≤ H.size := Nat.le_trans hG hz
            refine W.eq (g2 := F0 m 121 ls [.int (xCon (uA.2 1) (nI k))]) rfl ?_
            refine lv_iconst (v := nI 1) hx hb dL_holds_121 (by decide +kernel) ?_
            refine lv_icmp_ne (tgt := 226) hx hb dL_holds_122 (by decide) (fun c_122 => by exfalso; exact c_122 ((hH k (by omega)).2.1 c_111).1) (fun c_122 => ?_)
            refine lv_aload_n hx hb dL_holds_125 rfl (lv_at hl 0 rfl) ?_
            refine lv_iconst (v := nI 1) hx hb dL_holds_126 (by decide +kernel) ?_
            refine lv_iload hx hb dL_holds_127 (lv_at hl 4 rfl) ?_
            refine g_callSWB (As := [.ref (q 0), .int (nI 1), .int (nI o)]) (rest := []) (wr := []) (wn := (XW cI cZ q uA)) hx hb hml hown hts (lr_has l D cI cZ q uA n hnA h60 1 (by omega) (nI o) (xR_in (n := n) (by omega) (by omega))) gL_holds_L_has rfl rfl rfl hdL_has ⟨Nat.le_of_ble_eq_true rfl, Nat.le_of_ble_eq_true rfl⟩ LE_em hE XT_tm hXT hP hK hD hS hA rfl hl.1 rfl (Nat.le_of_ble_eq_true rfl) dL_holds_129 ⟨Nat.le_of_ble_eq_true rfl, Nat.le_of_ble_eq_true rfl⟩ [0, 1, 2, 3, 4, 5, 6, 7, 8, 9, 10, 11, 12, 13, 14, 15, 16] [] [0, 1, 2, 3, 4, 5, 6, 7, 8, 9, 10, 11, 12, 13, 14, 15, 16] (by decide) rfl rfl (by decide) (by decide) (by decide) rfl (fun H locs hP hD hS hz => ?_)
            have hG : s.heap.size + 0 ≤ H.size := Nat.le_trans hG hz
            refine W.eq (g2 := F0 m 132 ls [.int (xCon (uA.2 1) (nI o))]) rfl ?_
            refine lv_iconst (v := nI 1) hx hb dL_holds_132 (by decide +kernel) ?_
            refine lv_icmp_ne (tgt := 226) hx hb dL_holds_133 (by decide) (fun c_133 => by exfalso; exact c_133 ((hH k (by omega)).2.1 c_111).2.1) (fun c_133 => ?_)
            refine lv_iload hx hb dL_holds_136 (lv_at hl 5 rfl) ?_
            refine lv_iload hx hb dL_holds_138 (lv_at hl 4 rfl) ?_
            refine lv_icmp_gt (tgt := 226) hx hb dL_holds_140 (by decide) (fun c_140 => by have n_140 : o < k := (g_ltI (a := o) (b := k) rfl rfl (by omega) (by omega)).mp c_140; exfalso; have h9 := ((hH k (by omega)).2.1 c_111).2.2; omega) (fun c_140 => ?_)
            have n_140 : ¬ o < k := fun h => c_140 ((g_ltI (a := o) (b := k) rfl rfl (by omega) (by omega)).mpr h)
            exact W.widen (by omega) (by omega) (j143  _ _ _ hP hD hS (lv_sub hl [0, 1, 2, 3, 4, 5, 6, 7] rfl) (Nat.le_trans (Nat.add_le_add_left (by omega) _) hG) )
        refine lv_iload hx hb dL_holds_75 (lv_at hl 1 rfl) ?_
        refine lv_if_eq (tgt := 109) hx hb dL_holds_77 (by decide) (fun c_77 => ?_) (fun c_77 => ?_)
        · exact W.widen (by omega) (by omega) (j109  _ _ _ hP hD hS (lv_sub hl [2, 3, 4, 5, 6, 7, 1, 0] rfl) (Nat.le_trans (Nat.add_le_add_left (by omega) _) hG) )
        · refine lv_aload_n hx hb dL_holds_80 rfl (lv_at hl 2 rfl) ?_
          refine lv_iconst (v := nI 0) hx hb dL_holds_81 (by decide +kernel) ?_
          refine lv_iload hx hb dL_holds_82 (lv_at hl 7 rfl) ?_
          refine g_callSWB (As := [.ref (q 0), .int (nI 0), .int (nI k)]) (rest := []) (wr := []) (wn := (XW cI cZ q uA)) hx hb hml hown hts (lr_has l D cI cZ q uA n hnA h60 0 (by omega) (nI k) (xR_in (n := n) (by omega) (by omega))) gL_holds_L_has rfl rfl rfl hdL_has ⟨Nat.le_of_ble_eq_true rfl, Nat.le_of_ble_eq_true rfl⟩ LE_em hE XT_tm hXT hP hK hD hS hA rfl hl.1 rfl (Nat.le_of_ble_eq_true rfl) dL_holds_84 ⟨Nat.le_of_ble_eq_true rfl, Nat.le_of_ble_eq_true rfl⟩ [0, 1, 2, 3, 4, 5, 6, 7, 8, 9, 10, 11, 12, 13, 14, 15, 16] [] [0, 1, 2, 3, 4, 5, 6, 7, 8, 9, 10, 11, 12, 13, 14, 15, 16] (by decide) rfl rfl (by decide) (by decide) (by decide) rfl (fun H locs hP hD hS hz => ?_)
          have hG : s.heap.size + 0 ≤ H.size := Nat.le_trans hG hz
          refine W.eq (g2 := F0 m 87 ls [.int (xCon (uA.2 0) (nI k))]) rfl ?_
          refine lv_iconst (v := nI 1) hx hb dL_holds_87 (by decide +kernel) ?_
          refine lv_icmp_ne (tgt := 226) hx hb dL_holds_88 (by decide) (fun c_88 => by exfalso; exact c_88 ((hH k (by omega)).1 c_77).1) (fun c_88 => ?_)
          refine lv_aload_n hx hb dL_holds_91 rfl (lv_at hl 2 rfl) ?_
          refine lv_iconst (v := nI 0) hx hb dL_holds_92 (by decide +kernel) ?_
          refine lv_iload hx hb dL_holds_93 (lv_at hl 6 rfl) ?_
          refine g_callSWB (As := [.ref (q 0), .int (nI 0), .int (nI o)]) (rest := []) (wr := []) (wn := (XW cI cZ q uA)) hx hb hml hown hts (lr_has l D cI cZ q uA n hnA h60 0 (by omega) (nI o) (xR_in (n := n) (by omega) (by omega))) gL_holds_L_has rfl rfl rfl hdL_has ⟨Nat.le_of_ble_eq_true rfl, Nat.le_of_ble_eq_true rfl⟩ LE_em hE XT_tm hXT hP hK hD hS hA rfl hl.1 rfl (Nat.le_of_ble_eq_true rfl) dL_holds_95 ⟨Nat.le_of_ble_eq_true rfl, Nat.le_of_ble_eq_true rfl⟩ [0, 1, 2, 3, 4, 5, 6, 7, 8, 9, 10, 11, 12, 13, 14, 15, 16] [] [0, 1, 2, 3, 4, 5, 6, 7, 8, 9, 10, 11, 12, 13, 14, 15, 16] (by decide) rfl rfl (by decide) (by decide) (by decide) rfl (fun H locs hP hD hS hz => ?_)
          have hG : s.heap.size + 0 ≤ H.size := Nat.le_trans hG hz
          refine W.eq (g2 := F0 m 98 ls [.int (xCon (uA.2 0) (nI o))]) rfl ?_
          refine lv_iconst (v := nI 1) hx hb dL_holds_98 (by decide +kernel) ?_
          refine lv_icmp_ne (tgt := 226) hx hb dL_holds_99 (by decide) (fun c_99 => by exfalso; exact c_99 ((hH k (by omega)).1 c_77).2.1) (fun c_99 => ?_)
          refine lv_iload hx hb dL_holds_102 (lv_at hl 7 rfl) ?_
          refine lv_iload hx hb dL_holds_104 (lv_at hl 6 rfl) ?_
          refine lv_icmp_gt (tgt := 226) hx hb dL_holds_106 (by decide) (fun c_106 => by have n_106 : o < k := (g_ltI (a := o) (b := k) rfl rfl (by omega) (by omega)).mp c_106; exfalso; have h9 := ((hH k (by omega)).1 c_77).2.2; omega) (fun c_106 => ?_)
          have n_106 : ¬ o < k := fun h => c_106 ((g_ltI (a := o) (b := k) rfl rfl (by omega) (by omega)).mpr h)
          exact W.widen (by omega) (by omega) (j109  _ _ _ hP hD hS (lv_sub hl [2, 3, 4, 5, 6, 7, 1, 0] rfl) (Nat.le_trans (Nat.add_le_add_left (by omega) _) hG) )
    exact W.widen (by omega) (by omega) (loop1 n 0 _ _ _ hP hD hS (lv_sub hl [1, 2, 3, 4, 5, 0] rfl) (Nat.le_trans (Nat.add_le_add_left (by omega) _) hG) (Nat.zero_add _))
  refine lv_aload_n hx hb dL_holds_0 rfl (lv_at hl 0 rfl) ?_
  refine g_callVF (As := []) (rest := []) (wr := []) (wn := (XW cI cZ q u)) hx hb hml hown hts (ctX2_commits l D cI cZ q u n hn h60) gL_holds_X2_commits rfl rfl rfl hdX2_commits ⟨Nat.le_of_ble_eq_true rfl, Nat.le_of_ble_eq_true rfl⟩ XG_em hE.1.1 hP hK hD hS hA 0 rfl rfl rfl hl.1 rfl (Nat.le_of_ble_eq_true rfl) dL_holds_1 ⟨Nat.le_of_ble_eq_true rfl, Nat.le_of_ble_eq_true rfl⟩ [0, 1, 2, 3, 4, 5, 6, 7, 8, 9, 10, 11, 12, 13, 14, 15, 16] [] [0, 1, 2, 3, 4, 5, 6, 7, 8, 9, 10, 11, 12, 13, 14, 15, 16] (by decide) rfl rfl (by decide) (by decide) (by decide) rfl (fun H locs hP hD hS hz => ?_)
  have hG : s.heap.size + 0 ≤ H.size := Nat.le_trans hG hz
  refine W.eq (g2 := F0 m 4 ls [.int (nI n)]) rfl ?_
  refine lv_istore_n (lv' := [(2, .int (nI n)), (0, .ref (q 0)), (1, .int (nI X))]) hx hb dL_holds_4 rfl hl (by decide) rfl (fun ls hl => ?_)
  refine lv_aload_n hx hb dL_holds_5 rfl (lv_at hl 1 rfl) ?_
  refine g_callVF (As := []) (rest := []) (wr := []) (wn := (XW cI cZ q (sF n u))) hx hb hml hown hts (ctX2_missing l D cI cZ q u n hn h60) gL_holds_X2_missing rfl rfl rfl hdX2_missing ⟨Nat.le_of_ble_eq_true rfl, Nat.le_of_ble_eq_true rfl⟩ XG_em hE.1.1 hP hK hD hS hA 0 rfl rfl rfl hl.1 rfl (Nat.le_of_ble_eq_true rfl) dL_holds_6 ⟨Nat.le_of_ble_eq_true rfl, Nat.le_of_ble_eq_true rfl⟩ [0, 1, 2, 3, 4, 5, 6, 7, 8, 9, 10, 11, 12, 13, 14, 15, 16] [] [0, 1, 2, 3, 4, 5, 6, 7, 8, 9, 10, 11, 12, 13, 14, 15, 16] (by decide) rfl rfl (by decide) (by decide) (by decide) rfl (fun H locs hP hD hS hz => ?_)
  have hG : s.heap.size + 0 ≤ H.size := Nat.le_trans hG hz
  refine W.eq (g2 := F0 m 9 ls [.int (xLack (xFiles n (u.1 2) (u.2 1) (u.1 4)) (u.1 7))]) rfl ?_
  refine lv_if_lt (tgt := 25) hx hb dL_holds_9 (by decide) (fun c_9 => by exfalso; obtain ⟨m9, hm9, e9⟩ := xLack_le (xFiles n (u.1 2) (u.2 1) (u.1 4)) (u.1 7); rw [e9] at c_9; exact nI_pos (by omega) c_9) (fun c_9 => ?_)
  refine lv_aload_n hx hb dL_holds_12 rfl (lv_at hl 1 rfl) ?_
  refine g_callVF (As := []) (rest := []) (wr := []) (wn := (XW cI cZ q (sF n (sF n u)))) hx hb hml hown hts (ctX2_missing l D cI cZ q (sF n u) n hn h60) gL_holds_X2_missing rfl rfl rfl hdX2_missing ⟨Nat.le_of_ble_eq_true rfl, Nat.le_of_ble_eq_true rfl⟩ XG_em hE.1.1 hP hK hD hS hA 0 rfl rfl rfl hl.1 rfl (Nat.le_of_ble_eq_true rfl) dL_holds_13 ⟨Nat.le_of_ble_eq_true rfl, Nat.le_of_ble_eq_true rfl⟩ [0, 1, 2, 3, 4, 5, 6, 7, 8, 9, 10, 11, 12, 13, 14, 15, 16] [] [0, 1, 2, 3, 4, 5, 6, 7, 8, 9, 10, 11, 12, 13, 14, 15, 16] (by decide) rfl rfl (by decide) (by decide) (by decide) rfl (fun H locs hP hD hS hz => ?_)
  have hG : s.heap.size + 0 ≤ H.size := Nat.le_trans hG hz
  refine W.eq (g2 := F0 m 16 ls [.int (xLack (xFiles n ((sF n u).1 2) ((sF n u).2 1) ((sF n u).1 4)) ((sF n u).1 7))]) rfl ?_
  refine lv_bipush (v := nI 100) hx hb dL_holds_16 (by decide +kernel) ?_
  refine lv_icmp_gt (tgt := 25) hx hb dL_holds_18 (by decide) (fun c_18 => by exfalso; obtain ⟨m9, hm9, e9⟩ := xLack_le (xFiles n ((sF n u).1 2) ((sF n u).2 1) ((sF n u).1 4)) ((sF n u).1 7); rw [e9] at c_18; exact nI_nlt hm9 (by omega) c_18) (fun c_18 => ?_)
  refine lv_iconst (v := nI 1) hx hb dL_holds_21 (by decide +kernel) ?_
  refine lv_goto (tgt := 26) hx hb dL_holds_22 (by decide) ?_
  refine lv_istore_n (lv' := [(3, .int (nI 1)), (2, .int (nI n)), (0, .ref (q 0)), (1, .int (nI X))]) hx hb dL_holds_26 rfl hl (by decide) rfl (fun ls hl => ?_)
  refine lv_iload_n hx hb dL_holds_27 rfl (lv_at hl 1 rfl) ?_
  refine lv_if_ne (tgt := 35) hx hb dL_holds_28 (by decide) (fun c_28 => ?_) (fun c_28 => ?_)
  · have n_28 : ¬ n = 0 := fun h => c_28 ((g_eqI (a := n) (b := 0) rfl rfl (by omega) (by decide)).mpr h)
    refine lv_iload_n hx hb dL_holds_35 rfl (lv_at hl 3 rfl) ?_
    refine lv_iload_n hx hb dL_holds_36 rfl (lv_at hl 1 rfl) ?_
    refine l_irem hx hb dL_holds_37 (by omega) (by omega) (by omega) ?_
    refine lv_istore (lv' := [(4, .int (nI (X % n))), (3, .int (nI 1)), (2, .int (nI n)), (0, .ref (q 0)), (1, .int (nI X))]) hx hb dL_holds_38 hl (by decide) rfl (fun ls hl => ?_)
    exact W.widen (by omega) (by omega) (rest (X % n) (sF n (sF n u)) _ _ _ hP hD hS (lv_sub hl [3, 4, 2, 1, 0] rfl) (Nat.le_trans (Nat.add_le_add_left (by omega) _) hG) (fun h => Nat.mod_lt _ h) (by rw [if_neg n_28]) hn hr0 hr1 (fun k hk => HA_sF (HA_sF (by have h9 := hH k hk; rw [if_neg n_28] at h9; exact h9))) rfl)
  · have n_28 : n = 0 := (g_eqI (a := n) (b := 0) rfl rfl (by omega) (by decide)).mp c_28
    refine lv_iconst (v := nI 0) hx hb dL_holds_31 (by decide +kernel) ?_
    refine lv_goto (tgt := 38) hx hb dL_holds_32 (by decide) ?_
    refine lv_istore (lv' := [(4, .int (nI 0)), (3, .int (nI 1)), (2, .int (nI n)), (0, .ref (q 0)), (1, .int (nI X))]) hx hb dL_holds_38 hl (by decide) rfl (fun ls hl => ?_)
    exact W.widen (by omega) (by omega) (rest 0 (sF n (sF n u)) _ _ _ hP hD hS (lv_sub hl [3, 4, 2, 1, 0] rfl) (Nat.le_trans (Nat.add_le_add_left (by omega) _) hG) (fun h => absurd h (by omega)) (by rw [if_pos n_28]) hn hr0 hr1 (fun k hk => HA_sF (HA_sF (by have h9 := hH k hk; rw [if_pos n_28] at h9; exact h9))) rfl)
