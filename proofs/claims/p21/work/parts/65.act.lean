/-! THE LAW: what it draws, what it picks, what it does -/
/-- the k-th number of the script -/
def xDr (L : Nat) (xs : Nat → Int32) (k : Nat) : Int32 := (if L ≤ k then nI 15525623 * nI (k + 3) + nI 14011 else xs k) &&& nI 2147483647
theorem xDr_nI (L : Nat) (xs : Nat → Int32) (k : Nat) : ∃ j : Nat, j < 2 ^ 31 ∧ xDr L xs k = nI j := pk_andE _ 31 (by decide +kernel)
abbrev rmL_drawn : Room := { frames := 0, cells := 0, slots := 0, locals := 0 }
theorem hdL_drawn : yL_drawn.cls ≠ "java/lang/invoke/MethodHandle" ∧ yL_drawn.cls ≠ "java/lang/invoke/VarHandle" ∧ (parseMethodDescriptor yL_drawn.desc).map (fun d => d.parameters.length) = some 2 := by decide +kernel
set_option maxHeartbeats 4000000 in
set_option maxRecDepth 100000 in
theorem cr_drawn (l : Launch) (D : va_G) (cI cZ : ClassId) (b L : Nat) (xs : Nat → Int32) (k : Nat) (hL : L < 2 ^ 31) (hk : k < 2 ^ 30) : gB l yL_drawn wsL_drawn rmL_drawn D (tyXZ cI cZ) w0 LE (TB b L xs) [.ref b, .int (nI k)] () (some (.int (xDr L xs k))) () 0 0 0 := by
  refine g_startB (cc := cL_drawn) (maxL := 2) (ret := some .int) (by decide) rfl (Nat.le_of_ble_eq_true rfl) ?_
  intro p e s m below meth c A ls Q hx hb hml hret hts hown hlk hE hP hK hD hA hl hQ hS hT
  have hown : s.vm.findClass RL = some m.cls := hown
  have hl : lv_has ls 2 [(0, .ref b), (1, .int (nI k))] := hl
  have hbl : b < s.heap.size := TB_lt hT.1
  refine lv_iload_n hx hb dL_drawn_0 rfl (lv_at hl 1 rfl) ?_
  refine lv_aload_n hx hb dL_drawn_1 rfl (lv_at hl 0 rfl) ?_
  refine va_slen hx hb hT.1 hbl hT.2 hS dL_drawn_2 ?_
  have fin : ∀ (v : Int32), v = (if L ≤ k then nI 15525623 * nI (k + 3) + nI 14011 else xs k) → W p l e rmL_drawn s m ([.ref b, .int (nI k)] : List Value).toArray below meth c s.heap [] 0 0 Q (F0 m 22 ls [.int v]) := by
    intro v hv
    refine lv_ldc (v := nI 2147483647) hx hb hown (hts _ (List.mem_of_getElem? (i := 2) (by decide +kernel))) dL_drawn_22 ?_
    refine lv_iand hx hb dL_drawn_24 ?_
    exact g_retB (u1 := ()) hx hb hret rfl hlk hQ (Nat.le_refl _) (Nat.le_refl _) hP hD hS (Nat.le_refl _) dL_drawn_25 (by rw [hv]; rfl) rfl
  refine lv_icmp_ge (tgt := 12) hx hb dL_drawn_3 (by decide) (fun c1 => ?_) (fun c1 => ?_)
  · have h1 : L ≤ k := (nI_leI hL (by omega)).mp c1
    refine lv_ldc (v := nI 15525623) hx hb hown (hts _ (List.mem_of_getElem? (i := 1) (by decide +kernel))) dL_drawn_12 ?_
    refine lv_iload_n hx hb dL_drawn_14 rfl (lv_at hl 1 rfl) ?_
    refine lv_iconst (v := nI 3) hx hb dL_drawn_15 (by decide +kernel) ?_
    refine l_iadd hx hb dL_drawn_16 ?_
    refine lv_imul hx hb dL_drawn_17 ?_
    refine lv_sipush (v := nI 14011) hx hb dL_drawn_18 (by decide +kernel) ?_
    refine lv_iadd hx hb dL_drawn_21 ?_
    exact fin _ (if_pos h1).symm
  · have h1 : ¬ L ≤ k := fun h => c1 ((nI_leI hL (by omega)).mpr h)
    refine lv_aload_n hx hb dL_drawn_6 rfl (lv_at hl 0 rfl) ?_
    refine lv_iload_n hx hb dL_drawn_7 rfl (lv_at hl 1 rfl) ?_
    refine va_sld hx hb hT.1 hbl hT.2 hS (pk_in k L (by omega) rfl hL) dL_drawn_8 ?_
    rw [nI_clamp (by omega)]
    refine lv_goto (tgt := 22) hx hb dL_drawn_9 (by decide) ?_
    exact fin _ (if_neg h1).symm
/-- the a-th commit of a set, from the latest one on -/
def xPick (h : Int64) : Nat → Nat → Int32
  | 0, _ => -1
  | k + 1, a => if xCon h (nI k) = 0 then xPick h k a else if a = 0 then nI k else xPick h k (a - 1)
abbrev rmL_pick : Room := { frames := 10, cells := 0, slots := 0, locals := 263 }
theorem hdL_pick : yL_pick.cls ≠ "java/lang/invoke/MethodHandle" ∧ yL_pick.cls ≠ "java/lang/invoke/VarHandle" ∧ (parseMethodDescriptor yL_pick.desc).map (fun d => d.parameters.length) = some 3 := by decide +kernel
set_option maxHeartbeats 4000000 in
set_option maxRecDepth 100000 in
theorem cr_pick (l : Launch) (hst : l.stackTraces = false) (D : va_G) (cI cZ : ClassId) (q : Nat → Nat) (u : SX) (n : Nat) (hn : u.1 15 0 = nI n) (h60 : n ≤ 60) (b : Nat) (hb : b < 2) (a0 : Nat) (h0 : a0 < 2 ^ 30) : gB l yL_pick wsL_pick rmL_pick D (tyXZ cI cZ) (XW cI cZ q) LE XT [.ref (q 0), .int (nI b), .int (nI a0)] u (some (.int (xPick (u.2 b) n a0))) u 0 0 0 := by
  refine g_startB (cc := cL_pick) (maxL := 5) (ret := (some .int)) (by decide) rfl (Nat.le_of_ble_eq_true rfl) ?_
  intro p e s m below meth c A ls Q hx hb hml hret hts hown hlk hE hP hK hD hA hl hQ hS hXT
  have hown : s.vm.findClass RL = some m.cls := hown
  have hl : lv_has ls 5 [(0, .ref (q 0)), (1, .int (nI b)), (2, .int (nI a0))] := hl
  have hG : s.heap.size + 0 ≤ s.heap.size := Nat.le_refl _
  refine lv_iload_n hx hb dL_pick_0 rfl (lv_at hl 2 rfl) ?_
  refine lv_istore_n (lv' := [(3, .int (nI a0)), (0, .ref (q 0)), (1, .int (nI b)), (2, .int (nI a0))]) hx hb dL_pick_1 rfl hl (by decide) rfl (fun ls hl => ?_)
  refine lv_aload_n hx hb dL_pick_2 rfl (lv_at hl 1 rfl) ?_
  refine g_callVF (As := []) (rest := []) (wr := []) (wn := (XW cI cZ q u)) hx hb hml hown hts (ctX2_commits l D cI cZ q u n hn h60) gL_pick_X2_commits rfl rfl rfl hdX2_commits ⟨Nat.le_of_ble_eq_true rfl, Nat.le_of_ble_eq_true rfl⟩ XG_em hE.1.1 hP hK hD hS hA 0 rfl rfl rfl hl.1 rfl (Nat.le_of_ble_eq_true rfl) dL_pick_3 ⟨Nat.le_of_ble_eq_true rfl, Nat.le_of_ble_eq_true rfl⟩ [0, 1, 2, 3, 4, 5, 6, 7, 8, 9, 10, 11, 12, 13, 14, 15, 16] [] [0, 1, 2, 3, 4, 5, 6, 7, 8, 9, 10, 11, 12, 13, 14, 15, 16] (by decide) rfl rfl (by decide) (by decide) (by decide) rfl (fun H locs hP hD hS hz => ?_)
  have hG : s.heap.size + 0 ≤ H.size := Nat.le_trans hG hz
  refine W.eq (g2 := F0 m 6 ls [.int (nI n)]) rfl ?_
  refine lv_iconst (v := nI 1) hx hb dL_pick_6 (by decide +kernel) ?_
  refine lv_isub hx hb dL_pick_7 ?_
  refine lv_istore (lv' := [(4, .int ((nI n) - (nI 1))), (3, .int (nI a0)), (0, .ref (q 0)), (1, .int (nI b)), (2, .int (nI a0))]) hx hb dL_pick_8 hl (by decide) rfl (fun ls hl => ?_)
  have loop : ∀ (d : Nat) (a : Nat) (H : Heap) (locs : List Loc) (ls : Array Slot) (hP : va_P D vwCl (XW cI cZ q u) H) (hD : va_D A (XW cI cZ q u)) (hS : va_S A s.heap H locs) (hl : lv_has ls 5 [(0, .ref (q 0)), (1, .int (nI b)), (2, .int (nI a0)), (3, .int (nI a)), (4, .int (nI d - nI 1))]) (hG : s.heap.size + 0 ≤ H.size) (hd : d ≤ n) (ha : a ≤ a0) (hr : xPick (u.2 b) d a = xPick (u.2 b) n a0), W p l e rmL_pick s m ([.ref (q 0), .int (nI b), .int (nI a0)] : List Value).toArray below meth c H locs 0 0 Q (F0 m 10 ls []) := by
    intro d
    induction d with
    | zero =>
      intro a H locs ls hP hD hS hl hG hd ha hr
      have hneg : (nI 0 - nI 1) < 0 := by decide +kernel
      refine lv_iload hx hb dL_pick_10 (lv_at hl 4 rfl) ?_
      refine lv_if_lt (tgt := 42) hx hb dL_pick_12 (by decide) (fun c_12 => ?_) (fun c_12 => by exact absurd hneg c_12)
      refine lv_iconst (v := (-1)) hx hb dL_pick_42 (by decide +kernel) ?_
      exact g_retB (u1 := u) hx hb hret rfl hlk hQ (by omega) (by omega) hP hD hS (Nat.le_trans (Nat.add_le_add_left (by omega) _) hG) dL_pick_43 (congrArg (fun z => some (Value.int z)) hr) rfl
    | succ d ih =>
      intro a H locs ls hP hD hS hl hG hd ha hr
      rw [nI_dec] at hl
      refine lv_iload hx hb dL_pick_10 (lv_at hl 4 rfl) ?_
      refine lv_if_lt (tgt := 42) hx hb dL_pick_12 (by decide) (fun c_12 => by have n_12 : d < 0 := (g_ltI (a := d) (b := 0) rfl rfl (by omega) (by decide)).mp c_12; exfalso; omega) (fun c_12 => ?_)
      have n_12 : ¬ d < 0 := fun h => c_12 ((g_ltI (a := d) (b := 0) rfl rfl (by omega) (by decide)).mpr h)
      refine lv_aload_n hx hb dL_pick_15 rfl (lv_at hl 0 rfl) ?_
      refine lv_iload_n hx hb dL_pick_16 rfl (lv_at hl 1 rfl) ?_
      refine lv_iload hx hb dL_pick_17 (lv_at hl 4 rfl) ?_
      refine g_callSWB (As := [.ref (q 0), .int (nI b), .int (nI d)]) (rest := []) (wr := []) (wn := (XW cI cZ q u)) hx hb hml hown hts (lr_has l D cI cZ q u n hn h60 b (by omega) (nI d) (xR_in (by omega) (by omega))) gL_pick_L_has rfl rfl rfl hdL_has ⟨Nat.le_of_ble_eq_true rfl, Nat.le_of_ble_eq_true rfl⟩ LE_em hE XT_tm hXT hP hK hD hS hA rfl hl.1 rfl (Nat.le_of_ble_eq_true rfl) dL_pick_19 ⟨Nat.le_of_ble_eq_true rfl, Nat.le_of_ble_eq_true rfl⟩ [0, 1, 2, 3, 4, 5, 6, 7, 8, 9, 10, 11, 12, 13, 14, 15, 16] [] [0, 1, 2, 3, 4, 5, 6, 7, 8, 9, 10, 11, 12, 13, 14, 15, 16] (by decide) rfl rfl (by decide) (by decide) (by decide) rfl (fun H locs hP hD hS hz => ?_)
      have hG : s.heap.size + 0 ≤ H.size := Nat.le_trans hG hz
      refine W.eq (g2 := F0 m 22 ls [.int (xCon (u.2 b) (nI d))]) rfl ?_
      refine lv_iconst (v := nI 1) hx hb dL_pick_22 (by decide +kernel) ?_
      refine lv_icmp_ne (tgt := 36) hx hb dL_pick_23 (by decide) (fun c_23 => ?_) (fun c_23 => ?_)
      · have hC01 := xCon_01 (u.2 b) (nI d)
        refine lv_iinc (v := (nI d - nI 1)) (lv' := [(4, .int (nI d - nI 1)), (0, .ref (q 0)), (1, .int (nI b)), (2, .int (nI a0)), (3, .int (nI a))]) hx hb dL_pick_36 hl (k := 4) rfl (nI_decI _) (by decide) rfl (fun ls hl => ?_)
        refine lv_goto (tgt := 10) hx hb dL_pick_39 (by decide) ?_
        exact W.widen (by omega) (by omega) (ih a _ _ _ hP hD hS (lv_sub hl [1, 2, 3, 4, 0] rfl) (Nat.le_trans (Nat.add_le_add_left (by omega) _) hG) (by omega) (by omega) ((by rw [xPick, if_pos (hC01.resolve_right c_23)] : xPick (u.2 b) (d + 1) a = xPick (u.2 b) d a).symm.trans hr))
      · refine lv_iload_n hx hb dL_pick_26 rfl (lv_at hl 3 rfl) ?_
        refine lv_if_ne (tgt := 33) hx hb dL_pick_27 (by decide) (fun c_27 => ?_) (fun c_27 => ?_)
        · have n_27 : ¬ a = 0 := fun h => c_27 ((g_eqI (a := a) (b := 0) rfl rfl (by omega) (by decide)).mpr h)
          refine lv_iinc (v := (nI (a - 1))) (lv' := [(3, .int (nI (a - 1))), (0, .ref (q 0)), (1, .int (nI b)), (2, .int (nI a0)), (4, .int (nI d))]) hx hb dL_pick_33 hl (k := 3) rfl (by rw [nI_decI]; exact pk_sub (by omega)) (by decide) rfl (fun ls hl => ?_)
          refine lv_iinc (v := (nI d - nI 1)) (lv' := [(4, .int (nI d - nI 1)), (3, .int (nI (a - 1))), (0, .ref (q 0)), (1, .int (nI b)), (2, .int (nI a0))]) hx hb dL_pick_36 hl (k := 4) rfl (nI_decI _) (by decide) rfl (fun ls hl => ?_)
          refine lv_goto (tgt := 10) hx hb dL_pick_39 (by decide) ?_
          exact W.widen (by omega) (by omega) (ih (a - 1) _ _ _ hP hD hS (lv_sub hl [2, 3, 4, 1, 0] rfl) (Nat.le_trans (Nat.add_le_add_left (by omega) _) hG) (by omega) (by omega) ((by rw [xPick, if_neg (by rw [c_23]; decide), if_neg n_27] : xPick (u.2 b) (d + 1) a = xPick (u.2 b) d (a - 1)).symm.trans hr))
        · have n_27 : a = 0 := (g_eqI (a := a) (b := 0) rfl rfl (by omega) (by decide)).mp c_27
          refine lv_iload hx hb dL_pick_30 (lv_at hl 4 rfl) ?_
          exact g_retB (u1 := u) hx hb hret rfl hlk hQ (by omega) (by omega) hP hD hS (Nat.le_trans (Nat.add_le_add_left (by omega) _) hG) dL_pick_32 (congrArg (fun z => some (Value.int z)) (((by rw [xPick, if_neg (by rw [c_23]; decide), if_pos n_27]) : xPick (u.2 b) (d + 1) a = nI d).symm.trans hr)) rfl
  exact W.widen (by omega) (by omega) (loop n a0 _ _ _ hP hD hS (lv_sub hl [2, 3, 4, 1, 0] rfl) (Nat.le_trans (Nat.add_le_add_left (by omega) _) hG) (Nat.le_refl _) (Nat.le_refl _) rfl)
/-- what an act of the kind 0 makes -/
def aF (u : SX) (n X : Nat) : Int32 := xPick (u.2 (X / 32 % 2)) n (X / 32 / 2 % 9)
def aS (u : SX) (n X : Nat) : Int32 := if 0 < X / 32 / 18 % 3 then -1 else if aF u n X < 0 then -1 else xPick (u.2 (X / 32 % 2)) n (X / 32 / 54 % 9)
def aT (X : Nat) : Int32 := nI (X / 32 / 7 % 4)
def aL (X : Nat) : Int32 := nI (X / 32 / 28 % 31) - nI 1
def aZ (u : SX) (n X : Nat) : Int32 := xMakeC n (u.2 (X / 32 % 2)) (aF u n X) (aS u n X) (aT X) (aL X)
def aV (u : SX) (n X : Nat) : Int32 := if aZ u n X = 0 then nI n else cdx (aZ u n X)
def aU (u : SX) (n X : Nat) : SX := if aZ u n X = 0 then xMkS (X / 32 % 2) n u (aF u n X) (aS u n X) (aT X) (aL X) else u
abbrev rmL_act : Room := { frames := 11, cells := 1, slots := 6, locals := 287 }
theorem hdL_act : yL_act.cls ≠ "java/lang/invoke/MethodHandle" ∧ yL_act.cls ≠ "java/lang/invoke/VarHandle" ∧ (parseMethodDescriptor yL_act.desc).map (fun d => d.parameters.length) = some 2 := by decide +kernel
set_option maxHeartbeats 4000000 in
set_option maxRecDepth 100000 in
theorem cr_act (l : Launch) (hst : l.stackTraces = false) (D : va_G) (cI cZ : ClassId) (q : Nat → Nat) (u : SX) (n : Nat) (hn : u.1 15 0 = nI n) (h60 : n ≤ 60) (X : Nat) (hX : X < 2 ^ 31) (hX0 : X % 32 = 0) : gB l yL_act wsL_act rmL_act D (tyXZ cI cZ) (XW cI cZ q) LE XT [.ref (q 0), .int (nI X)] u (some (.int (aV u n X))) (aU u n X) 1 6 0 := by
  refine g_startB (cc := cL_act) (maxL := 6) (ret := (some .int)) (by decide) rfl (Nat.le_of_ble_eq_true rfl) ?_
  intro p e s m below meth c A ls Q hx hb hml hret hts hown hlk hE hP hK hD hA hl hQ hS hXT
  have hown : s.vm.findClass RL = some m.cls := hown
  have hl : lv_has ls 6 [(0, .ref (q 0)), (1, .int (nI X))] := hl
  have hG : s.heap.size + 0 ≤ s.heap.size := Nat.le_refl _
  refine lv_iload_n hx hb dL_act_0 rfl (lv_at hl 1 rfl) ?_
  refine lv_bipush (v := nI 32) hx hb dL_act_1 (by decide +kernel) ?_
  refine l_idiv hx hb dL_act_3 (by omega) (by decide) (by decide) ?_
  refine lv_istore_n (lv' := [(2, .int (nI (X / 32))), (0, .ref (q 0)), (1, .int (nI X))]) hx hb dL_act_4 rfl hl (by decide) rfl (fun ls hl => ?_)
  refine lv_iload_n hx hb dL_act_5 rfl (lv_at hl 0 rfl) ?_
  refine lv_iconst (v := nI 2) hx hb dL_act_6 (by decide +kernel) ?_
  refine l_irem hx hb dL_act_7 (by omega) (by decide) (by decide) ?_
  refine lv_istore_n (lv' := [(3, .int (nI ((X / 32) % 2))), (2, .int (nI (X / 32))), (0, .ref (q 0)), (1, .int (nI X))]) hx hb dL_act_8 rfl hl (by decide) rfl (fun ls hl => ?_)
  refine lv_iload_n hx hb dL_act_9 rfl (lv_at hl 1 rfl) ?_
  refine lv_iconst (v := nI 2) hx hb dL_act_10 (by decide +kernel) ?_
  refine l_idiv hx hb dL_act_11 (by omega) (by decide) (by decide) ?_
  refine lv_iconst (v := nI 4) hx hb dL_act_12 (by decide +kernel) ?_
  refine l_irem hx hb dL_act_13 (by omega) (by decide) (by decide) ?_
  refine lv_istore (lv' := [(4, .int (nI (((X / 32) / 2) % 4))), (3, .int (nI ((X / 32) % 2))), (2, .int (nI (X / 32))), (0, .ref (q 0)), (1, .int (nI X))]) hx hb dL_act_14 hl (by decide) rfl (fun ls hl => ?_)
  refine lv_iload_n hx hb dL_act_16 rfl (lv_at hl 4 rfl) ?_
  refine lv_bipush (v := nI 32) hx hb dL_act_17 (by decide +kernel) ?_
  refine l_irem hx hb dL_act_19 (by omega) (by decide) (by decide) ?_
  refine W.eq (g2 := F0 m 20 ls [.int (nI 0)]) (by rw [hX0]) ?_
  refine lv_tableIn (off := 128) (tgt := 148) hx hb dL_act_20 (by decide +kernel) (by decide +kernel) (by decide +kernel) (by decide) ?_
  refine lv_aload_n hx hb dL_act_148 rfl (lv_at hl 3 rfl) ?_
  refine lv_iload_n hx hb dL_act_149 rfl (lv_at hl 1 rfl) ?_
  refine lv_iload_n hx hb dL_act_150 rfl (lv_at hl 2 rfl) ?_
  refine lv_iconst (v := nI 2) hx hb dL_act_151 (by decide +kernel) ?_
  refine l_idiv hx hb dL_act_152 (by omega) (by decide) (by decide) ?_
  refine lv_bipush (v := nI 9) hx hb dL_act_153 (by decide +kernel) ?_
  refine l_irem hx hb dL_act_155 (by omega) (by decide) (by decide) ?_
  refine g_callSB (As := [.ref (q 0), .int (nI ((X / 32) % 2)), .int (nI (((X / 32) / 2) % 9))]) (rest := []) (wr := []) (wn := (XW cI cZ q u)) hx hb hml hown hts (cr_pick l hst D cI cZ q u n hn h60 ((X / 32) % 2) (by omega) (((X / 32) / 2) % 9) (by omega)) gL_act_L_pick rfl rfl rfl hdL_pick ⟨Nat.le_of_ble_eq_true rfl, Nat.le_of_ble_eq_true rfl⟩ LE_em hE XT_tm hXT hP hK hD hS hA rfl hl.1 rfl (Nat.le_of_ble_eq_true rfl) dL_act_156 ⟨Nat.le_of_ble_eq_true rfl, Nat.le_of_ble_eq_true rfl⟩ [0, 1, 2, 3, 4, 5, 6, 7, 8, 9, 10, 11, 12, 13, 14, 15, 16] [] [0, 1, 2, 3, 4, 5, 6, 7, 8, 9, 10, 11, 12, 13, 14, 15, 16] (by decide) rfl rfl (by decide) (by decide) (by decide) rfl (fun H locs hP hD hS hz => ?_)
  have hG : s.heap.size + 0 ≤ H.size := Nat.le_trans hG hz
  refine W.eq (g2 := F0 m 159 ls [.int (xPick (u.2 ((X / 32) % 2)) n (((X / 32) / 2) % 9))]) rfl ?_
  refine lv_istore (lv' := [(5, .int (xPick (u.2 ((X / 32) % 2)) n (((X / 32) / 2) % 9))), (4, .int (nI (((X / 32) / 2) % 4))), (3, .int (nI ((X / 32) % 2))), (2, .int (nI (X / 32))), (0, .ref (q 0)), (1, .int (nI X))]) hx hb dL_act_159 hl (by decide) rfl (fun ls hl => ?_)
  refine lv_aload_n hx hb dL_act_161 rfl (lv_at hl 4 rfl) ?_
  refine lv_iload_n hx hb dL_act_162 rfl (lv_at hl 2 rfl) ?_
  refine lv_iload hx hb dL_act_163 (lv_at hl 0 rfl) ?_
  refine lv_iload_n hx hb dL_act_165 rfl (lv_at hl 3 rfl) ?_
  have join : ∀ (S : Int32) (H : Heap) (locs : List Loc) (ls : Array Slot) (hP : va_P D vwCl (XW cI cZ q u) H) (hD : va_D A (XW cI cZ q u)) (hS : va_S A s.heap H locs) (hl : lv_has ls 6 [(0, .ref (q 0)), (1, .int (nI X)), (2, .int (nI (X / 32))), (3, .int (nI ((X / 32) % 2))), (4, .int (nI (((X / 32) / 2) % 4))), (5, .int (xPick (u.2 ((X / 32) % 2)) n (((X / 32) / 2) % 9)))]) (hG : s.heap.size + 0 ≤ H.size) (hSd : S = aS u n X), W p l e rmL_act s m ([.ref (q 0), .int (nI X)] : List Value).toArray below meth c H locs 0 0 Q (F0 m 195 ls [.int S, .int (aF u n X), .int (nI (X / 32 % 2)), .ref (q 0)]) := by
    intro S H locs ls hP hD hS hl hG hSd
    refine lv_iload_n hx hb dL_act_195 rfl (lv_at hl 2 rfl) ?_
    refine lv_bipush (v := nI 7) hx hb dL_act_196 (by decide +kernel) ?_
    refine l_idiv hx hb dL_act_198 (by omega) (by decide) (by decide) ?_
    refine lv_iconst (v := nI 4) hx hb dL_act_199 (by decide +kernel) ?_
    refine l_irem hx hb dL_act_200 (by omega) (by decide) (by decide) ?_
    refine lv_iload_n hx hb dL_act_201 rfl (lv_at hl 2 rfl) ?_
    refine lv_bipush (v := nI 28) hx hb dL_act_202 (by decide +kernel) ?_
    refine l_idiv hx hb dL_act_204 (by omega) (by decide) (by decide) ?_
    refine lv_bipush (v := nI 31) hx hb dL_act_205 (by decide +kernel) ?_
    refine l_irem hx hb dL_act_207 (by omega) (by decide) (by decide) ?_
    refine lv_iconst (v := nI 1) hx hb dL_act_208 (by decide +kernel) ?_
    refine lv_isub hx hb dL_act_209 ?_
    refine g_callSWB (As := [.ref (q 0), .int (nI (X / 32 % 2)), .int (aF u n X), .int S, .int (nI (((X / 32) / 7) % 4)), .int ((nI (((X / 32) / 28) % 31)) - (nI 1))]) (rest := []) (wr := []) (wn := (XW cI cZ q (if xMakeC n (u.2 (X / 32 % 2)) (aF u n X) S (nI (((X / 32) / 7) % 4)) ((nI (((X / 32) / 28) % 31)) - (nI 1)) = 0 then xMkS (X / 32 % 2) n u (aF u n X) S (nI (((X / 32) / 7) % 4)) ((nI (((X / 32) / 28) % 31)) - (nI 1)) else u))) hx hb hml hown hts (lb_makes l hst D cI cZ q u n hn h60 (X / 32 % 2) (by omega) (aF u n X) S (nI (((X / 32) / 7) % 4)) ((nI (((X / 32) / 28) % 31)) - (nI 1))) gL_act_L_makes rfl rfl rfl hdL_makes ⟨Nat.le_of_ble_eq_true rfl, Nat.le_of_ble_eq_true rfl⟩ LE_em hE XT_tm hXT hP hK hD hS hA rfl hl.1 rfl (Nat.le_of_ble_eq_true rfl) dL_act_210 ⟨Nat.le_of_ble_eq_true rfl, Nat.le_of_ble_eq_true rfl⟩ [0, 1, 2, 3, 4, 5, 6, 7, 8, 9, 10, 11, 12, 13, 14, 15, 16] [] [0, 1, 2, 3, 4, 5, 6, 7, 8, 9, 10, 11, 12, 13, 14, 15, 16] (by decide) rfl rfl (by decide) (by decide) (by decide) rfl (fun H locs hP hD hS hz => ?_)
    have hG : s.heap.size + 0 ≤ H.size := Nat.le_trans hG hz
    refine W.eq (g2 := F0 m 213 ls [.int (if xMakeC n (u.2 (X / 32 % 2)) (aF u n X) S (nI (((X / 32) / 7) % 4)) ((nI (((X / 32) / 28) % 31)) - (nI 1)) = 0 then nI n else cdx (xMakeC n (u.2 (X / 32 % 2)) (aF u n X) S (nI (((X / 32) / 7) % 4)) ((nI (((X / 32) / 28) % 31)) - (nI 1))))]) rfl ?_
    exact g_retB (u1 := (if xMakeC n (u.2 (X / 32 % 2)) (aF u n X) S (nI (((X / 32) / 7) % 4)) ((nI (((X / 32) / 28) % 31)) - (nI 1)) = 0 then xMkS (X / 32 % 2) n u (aF u n X) S (nI (((X / 32) / 7) % 4)) ((nI (((X / 32) / 28) % 31)) - (nI 1)) else u)) hx hb hret rfl hlk hQ (by omega) (by omega) hP hD hS (Nat.le_trans (Nat.add_le_add_left (by omega) _) hG) dL_act_213 (by rw [hSd]; rfl) (by rw [hSd]; rfl)
  refine lv_bipush (v := nI 18) hx hb dL_act_166 (by decide +kernel) ?_
  refine l_idiv hx hb dL_act_168 (by omega) (by decide) (by decide) ?_
  refine lv_iconst (v := nI 3) hx hb dL_act_169 (by decide +kernel) ?_
  refine l_irem hx hb dL_act_170 (by omega) (by decide) (by decide) ?_
  refine lv_if_gt (tgt := 179) hx hb dL_act_171 (by decide) (fun c_171 => ?_) (fun c_171 => ?_)
  · have n_171 : 0 < (((X / 32) / 18) % 3) := (g_ltI (a := 0) (b := (((X / 32) / 18) % 3)) rfl rfl (by decide) (by omega)).mp c_171
    refine lv_iconst (v := (-1)) hx hb dL_act_179 (by decide +kernel) ?_
    refine lv_goto (tgt := 195) hx hb dL_act_180 (by decide) ?_
    exact W.widen (by omega) (by omega) (join (-1) _ _ _ hP hD hS (lv_sub hl [4, 5, 3, 2, 1, 0] rfl) (Nat.le_trans (Nat.add_le_add_left (by omega) _) hG) ((if_pos n_171).symm))
  · have n_171 : ¬ 0 < (((X / 32) / 18) % 3) := fun h => c_171 ((g_ltI (a := 0) (b := (((X / 32) / 18) % 3)) rfl rfl (by decide) (by omega)).mpr h)
    refine lv_iload hx hb dL_act_174 (lv_at hl 0 rfl) ?_
    refine lv_if_ge (tgt := 183) hx hb dL_act_176 (by decide) (fun c_176 => ?_) (fun c_176 => ?_)
    · refine lv_aload_n hx hb dL_act_183 rfl (lv_at hl 4 rfl) ?_
      refine lv_iload_n hx hb dL_act_184 rfl (lv_at hl 2 rfl) ?_
      refine lv_iload_n hx hb dL_act_185 rfl (lv_at hl 3 rfl) ?_
      refine lv_bipush (v := nI 54) hx hb dL_act_186 (by decide +kernel) ?_
      refine l_idiv hx hb dL_act_188 (by omega) (by decide) (by decide) ?_
      refine lv_bipush (v := nI 9) hx hb dL_act_189 (by decide +kernel) ?_
      refine l_irem hx hb dL_act_191 (by omega) (by decide) (by decide) ?_
      refine g_callSB (As := [.ref (q 0), .int (nI ((X / 32) % 2)), .int (nI (((X / 32) / 54) % 9))]) (rest := [.int (xPick (u.2 ((X / 32) % 2)) n (((X / 32) / 2) % 9)), .int (nI ((X / 32) % 2)), .ref (q 0)]) (wr := []) (wn := (XW cI cZ q u)) hx hb hml hown hts (cr_pick l hst D cI cZ q u n hn h60 ((X / 32) % 2) (by omega) (((X / 32) / 54) % 9) (by omega)) gL_act_L_pick rfl rfl rfl hdL_pick ⟨Nat.le_of_ble_eq_true rfl, Nat.le_of_ble_eq_true rfl⟩ LE_em hE XT_tm hXT hP hK hD hS hA rfl hl.1 rfl (Nat.le_of_ble_eq_true rfl) dL_act_192 ⟨Nat.le_of_ble_eq_true rfl, Nat.le_of_ble_eq_true rfl⟩ [0, 1, 2, 3, 4, 5, 6, 7, 8, 9, 10, 11, 12, 13, 14, 15, 16] [] [0, 1, 2, 3, 4, 5, 6, 7, 8, 9, 10, 11, 12, 13, 14, 15, 16] (by decide) rfl rfl (by decide) (by decide) (by decide) rfl (fun H locs hP hD hS hz => ?_)
      have hG : s.heap.size + 0 ≤ H.size := Nat.le_trans hG hz
      refine W.eq (g2 := F0 m 195 ls [.int (xPick (u.2 ((X / 32) % 2)) n (((X / 32) / 54) % 9)), .int (xPick (u.2 ((X / 32) % 2)) n (((X / 32) / 2) % 9)), .int (nI ((X / 32) % 2)), .ref (q 0)]) rfl ?_
      exact W.widen (by omega) (by omega) (join (xPick (u.2 ((X / 32) % 2)) n (((X / 32) / 54) % 9)) _ _ _ hP hD hS (lv_sub hl [4, 5, 3, 2, 1, 0] rfl) (Nat.le_trans (Nat.add_le_add_left (by omega) _) hG) ((if_neg n_171).trans (if_neg (Int32.not_lt.mpr c_176))).symm)
    · refine lv_iconst (v := (-1)) hx hb dL_act_179 (by decide +kernel) ?_
      refine lv_goto (tgt := 195) hx hb dL_act_180 (by decide) ?_
      exact W.widen (by omega) (by omega) (join (-1) _ _ _ hP hD hS (lv_sub hl [4, 5, 3, 2, 1, 0] rfl) (Nat.le_trans (Nat.add_le_add_left (by omega) _) hG) (((if_neg n_171).trans (if_pos (Int32.not_le.mp c_176))).symm))
