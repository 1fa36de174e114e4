/-! THE LAW, walked from its start through its first act and the calls that throw of its second one, in a room that holds them (lw_At: from the kit's skeleton, a starting text) -/
def R_law : String := "FetchHouseLaw"
/-- what holds at the law's entry: the machine, the code, the tables' words (any of lw_tbl by 'hts w (by decide +kernel)'), the script of L ints xs at the cell b, what the Statement gives of the start (any of its parts by flat_of_before) -/
def lw_At (p : Program) (s : State) (m : MethodId) (meth : Method) (c : Code) (b L : Nat) (xs : Nat → Int32) : Prop :=
  p.tables.exec = Jvm.exec ∧ c.code = code ∧ meth.sig.returnType = ret ∧ c.maxLocals = 10 ∧ s.vm.findClass R_law = some m.cls ∧ (∀ w ∈ lw_tbl, w.before #[Value.ref b] s = true) ∧ va_X b L xs s s.heap ∧ b < s.heap.size ∧ meth.locks = false ∧ (Jvm.Cond.and given_1 narrow_1).before #[Value.ref b] s = true
/-- a room that holds so much of the run -/
abbrev rmBig : Room := { frames := 13, cells := 250, slots := 4000, locals := 502 }
def LX (cI cZ : ClassId) (q qb : Nat → Nat) (qn : Nat) (z : SX × SX × (Nat → Int32)) : va_W := XW cI cZ q z.1 ++ (XW cI cZ qb z.2.1 ++ [(qn, .inl (cI, 1, .inl z.2.2))])
theorem va_S_tr {A : Nat → Prop} {H0 H H1 : Heap} {locs locs1 : List Loc} (h : va_S A H0 H locs) (h2 : va_S A H H1 locs1) : va_S A H0 H1 locs1 := ⟨Nat.le_trans h.1 h2.1, fun q h3 h4 => (h2.2.1 q (Nat.lt_of_lt_of_le h3 h.1) h4).trans (h.2.1 q h3 h4), h2.2.2⟩
theorem va_S_at {A : Nat → Prop} {H0 H : Heap} {locs : List Loc} (h : va_S A H0 H locs) : va_S A H H locs := ⟨Nat.le_refl _, fun _ _ _ => rfl, h.2.2⟩
section STOP
variable {p : Program} {l : Launch} {e : Env} {R : Room} {s : State} {m : MethodId} {args : Array Value} {below : List Frame} {meth : Method} {c : Code} {H : Heap} {locs : List Loc} {cells slots : Nat}
/-- here it is under way still, and so many cells are new -/
def MQm (s : State) (below : List Frame) : State → Prop := fun t => Within t below ∧ s.heap.size + 134 ≤ t.heap.size
theorem w_stop {g : JFrame} (hG : s.heap.size + 134 ≤ H.size) : W p l e R s m args below meth c H locs cells slots (MQm s below) g := by
  intro T hT X
  refine ⟨T.setTop g, Steps.refl _, within_of_frames (f := g) (mid := []) (by rw [State.frames_setTop' _ X.here.top, X.tail]; rfl), ?_⟩
  rw [show (T.setTop g).heap = T.heap from rfl, hT]
  exact hG
end STOP
theorem hH_1 (X Y : Nat) : ∀ k, k < 1 → HA (sF 1 (uM X)) 1 (if 1 = 0 then 0 else Y % 1) k := by
  intro k hk
  have e : k = 0 := by omega
  subst e
  rw [if_neg (show ¬ (1 : Nat) = 0 by omega), Nat.mod_one]
  exact HA_sF (HA_1 X)
theorem cr_act0 (l : Launch) (hst : l.stackTraces = false) (D : va_G) (cI cZ : ClassId) (q : Nat → Nat) (X : Nat) (hX : X < 2 ^ 31) (hX0 : X % 32 = 0) (hb : X / 32 % 2 = 0) : gB l yL_act wsL_act rmL_act D (tyXZ cI cZ) (XW cI cZ q) LE XT [.ref (q 0), .int (nI X)] uX0 (some (.int (nI 0))) (uM X) 1 6 0 := by
  have h := cr_act l hst D cI cZ q uX0 0 u0_n (Nat.zero_le 60) X hX hX0
  rw [aV_0 hb, aU_0 hb] at h
  exact h
set_option maxHeartbeats 4000000 in
set_option maxRecDepth 100000 in
theorem law_run {p : Program} {l : Launch} {e : Env} {s : State} {m : MethodId} {below : List Frame} {meth : Method} {c : Code} {b L : Nat} {xs : Nat → Int32} {D : va_G} {cI cZ : ClassId} {q qb : Nat → Nat} {qn : Nat} {H : Heap} {locs : List Loc} {ls : Array Slot}
    (hx : p.tables.exec = Jvm.exec) (hb : c.code = cL_law) (hml : c.maxLocals = 10) (hown : s.vm.findClass RL = some m.cls) (hts : ∀ w ∈ wsL_law, w.before #[Value.ref b] s = true) (hst : l.stackTraces = false) (hE : LE s) (hXT : XT (fun a => s.heap.size ≤ a) s s.heap) (hTB : TB b L xs (fun a => s.heap.size ≤ a) s s.heap) (hK : va_K D vwCl (tyXZ cI cZ) s) (hL : L < 2 ^ 31)
    (hP : va_P D vwCl (LX cI cZ q qb qn (uX0, uX0, zF)) H) (hD : va_D (fun a => s.heap.size ≤ a) (LX cI cZ q qb qn (uX0, uX0, zF))) (hS : va_S (fun a => s.heap.size ≤ a) s.heap H locs) (hl : lv_has ls 10 [(0, .ref b), (1, .ref (q 0)), (2, .ref (qb 0)), (3, .ref qn)]) (hG : s.heap.size + 35 ≤ H.size) :
    W p l e rmBig s m #[Value.ref b] below meth c H locs 35 1525 (MQm s below) (F0 m 20 ls []) := by
  have hA : ∀ a : Nat, s.heap.size ≤ a → (fun a => s.heap.size ≤ a) a := fun _ h => h
  obtain ⟨d0, hd0, e0⟩ := xDr_nI L xs 0
  have hdr0 : gB l yL_drawn wsL_drawn rmL_drawn D (tyXZ cI cZ) w0 LE (TB b L xs) [.ref b, .int (nI 0)] () (some (.int (nI d0))) () 0 0 0 := by rw [← e0]; exact cr_drawn l D cI cZ b L xs 0 hL (by omega)
  obtain ⟨d1, hd1, e1⟩ := xDr_nI L xs (1 + 0)
  have hdr1 : gB l yL_drawn wsL_drawn rmL_drawn D (tyXZ cI cZ) w0 LE (TB b L xs) [.ref b, .int (nI (1 + 0))] () (some (.int (nI d1))) () 0 0 0 := by rw [← e1]; exact cr_drawn l D cI cZ b L xs (1 + 0) hL (by omega)
  obtain ⟨d2, hd2, e2⟩ := xDr_nI L xs (1 + (0 + 1))
  have hdr2 : gB l yL_drawn wsL_drawn rmL_drawn D (tyXZ cI cZ) w0 LE (TB b L xs) [.ref b, .int (nI (1 + (0 + 1)))] () (some (.int (nI d2))) () 0 0 0 := by rw [← e2]; exact cr_drawn l D cI cZ b L xs (1 + (0 + 1)) hL (by omega)
  refine lv_bipush (v := nI 20) hx hb dL_law_20 (by decide +kernel) ?_
  refine lv_aload_n hx hb dL_law_22 rfl (lv_at hl 0 rfl) ?_
  refine lv_iconst (v := nI 0) hx hb dL_law_23 (by decide +kernel) ?_
  refine g_callSB (As := [.ref b, .int (nI 0)]) (rest := [.int (nI 20)]) (wr := LX cI cZ q qb qn (uX0, uX0, zF)) (wn := LX cI cZ q qb qn (uX0, uX0, zF)) hx hb hml hown hts hdr0 gL_law_L_drawn rfl rfl rfl hdL_drawn ⟨Nat.le_of_ble_eq_true rfl, Nat.le_of_ble_eq_true rfl⟩ LE_em hE (TB_tm b L xs) hTB hP hK hD hS hA rfl hl.1 rfl (Nat.le_of_ble_eq_true rfl) dL_law_24 ⟨Nat.le_of_ble_eq_true rfl, Nat.le_of_ble_eq_true rfl⟩ [] [0, 1, 2, 3, 4, 5, 6, 7, 8, 9, 10, 11, 12, 13, 14, 15, 16, 17, 18, 19, 20, 21, 22, 23, 24, 25, 26, 27, 28, 29, 30, 31, 32, 33, 34] [0, 1, 2, 3, 4, 5, 6, 7, 8, 9, 10, 11, 12, 13, 14, 15, 16, 17, 18, 19, 20, 21, 22, 23, 24, 25, 26, 27, 28, 29, 30, 31, 32, 33, 34] (by decide) rfl rfl (by decide) (by decide) (by decide) rfl (fun H locs hP hD hS hz => ?_)
  have hG : s.heap.size + 35 ≤ H.size := Nat.le_trans hG hz
  refine W.eq (g2 := F0 m 27 ls [.int (nI d0), .int (nI 20)]) rfl ?_
  refine lv_bipush (v := nI 25) hx hb dL_law_27 (by decide +kernel) ?_
  refine l_irem hx hb dL_law_29 (by omega) (by decide) (by decide) ?_
  refine l_iadd hx hb dL_law_30 ?_
  refine lv_istore (lv' := [(4, .int (nI (20 + (d0 % 25)))), (0, .ref b), (1, .ref (q 0)), (2, .ref (qb 0)), (3, .ref qn)]) hx hb dL_law_31 hl (by decide) rfl (fun ls hl => ?_)
  refine lv_iconst (v := nI 1) hx hb dL_law_33 (by decide +kernel) ?_
  refine lv_istore (lv' := [(5, .int (nI 1)), (4, .int (nI (20 + (d0 % 25)))), (0, .ref b), (1, .ref (q 0)), (2, .ref (qb 0)), (3, .ref qn)]) hx hb dL_law_34 hl (by decide) rfl (fun ls hl => ?_)
  refine lv_iconst (v := nI 0) hx hb dL_law_36 (by decide +kernel) ?_
  refine lv_istore (lv' := [(6, .int (nI 0)), (5, .int (nI 1)), (4, .int (nI (20 + (d0 % 25)))), (0, .ref b), (1, .ref (q 0)), (2, .ref (qb 0)), (3, .ref qn)]) hx hb dL_law_37 hl (by decide) rfl (fun ls hl => ?_)
  refine lv_iload hx hb dL_law_39 (lv_at hl 0 rfl) ?_
  refine lv_iload hx hb dL_law_41 (lv_at hl 2 rfl) ?_
  refine lv_icmp_ge (tgt := 267) hx hb dL_law_43 (by decide) (fun c_43 => by have n_43 : (20 + (d0 % 25)) ≤ 0 := (g_leI (a := (20 + (d0 % 25))) (b := 0) rfl rfl (by omega) (by decide)).mp c_43; exfalso; omega) (fun c_43 => ?_)
  have n_43 : ¬ (20 + (d0 % 25)) ≤ 0 := fun h => c_43 ((g_leI (a := (20 + (d0 % 25))) (b := 0) rfl rfl (by omega) (by decide)).mpr h)
  refine lv_iload hx hb dL_law_46 (lv_at hl 1 rfl) ?_
  refine lv_if_eq (tgt := 267) hx hb dL_law_48 (by decide) (fun c_48 => by have n_48 : 1 = 0 := (g_eqI (a := 1) (b := 0) rfl rfl (by decide) (by decide)).mp c_48; exfalso; omega) (fun c_48 => ?_)
  have n_48 : ¬ 1 = 0 := fun h => c_48 ((g_eqI (a := 1) (b := 0) rfl rfl (by decide) (by decide)).mpr h)
  refine lv_aload_n hx hb dL_law_51 rfl (lv_at hl 3 rfl) ?_
  refine lv_iconst (v := nI 1) hx hb dL_law_52 (by decide +kernel) ?_
  refine lv_iload hx hb dL_law_53 (lv_at hl 0 rfl) ?_
  refine l_iadd hx hb dL_law_55 ?_
  refine g_callSB (As := [.ref b, .int (nI (1 + 0))]) (rest := []) (wr := LX cI cZ q qb qn (uX0, uX0, zF)) (wn := LX cI cZ q qb qn (uX0, uX0, zF)) hx hb hml hown hts hdr1 gL_law_L_drawn rfl rfl rfl hdL_drawn ⟨Nat.le_of_ble_eq_true rfl, Nat.le_of_ble_eq_true rfl⟩ LE_em hE (TB_tm b L xs) hTB hP hK hD hS hA rfl hl.1 rfl (Nat.le_of_ble_eq_true rfl) dL_law_56 ⟨Nat.le_of_ble_eq_true rfl, Nat.le_of_ble_eq_true rfl⟩ [] [0, 1, 2, 3, 4, 5, 6, 7, 8, 9, 10, 11, 12, 13, 14, 15, 16, 17, 18, 19, 20, 21, 22, 23, 24, 25, 26, 27, 28, 29, 30, 31, 32, 33, 34] [0, 1, 2, 3, 4, 5, 6, 7, 8, 9, 10, 11, 12, 13, 14, 15, 16, 17, 18, 19, 20, 21, 22, 23, 24, 25, 26, 27, 28, 29, 30, 31, 32, 33, 34] (by decide) rfl rfl (by decide) (by decide) (by decide) rfl (fun H locs hP hD hS hz => ?_)
  have hG : s.heap.size + 35 ≤ H.size := Nat.le_trans hG hz
  refine W.eq (g2 := F0 m 59 ls [.int (nI d1)]) rfl ?_
  refine lv_istore (lv' := [(7, .int (nI d1)), (6, .int (nI 0)), (5, .int (nI 1)), (4, .int (nI (20 + (d0 % 25)))), (0, .ref b), (1, .ref (q 0)), (2, .ref (qb 0)), (3, .ref qn)]) hx hb dL_law_59 hl (by decide) rfl (fun ls hl => ?_)
  refine lv_iload hx hb dL_law_61 (lv_at hl 1 rfl) ?_
  refine lv_iconst (v := nI 4) hx hb dL_law_63 (by decide +kernel) ?_
  refine lv_icmp_ge (tgt := 78) hx hb dL_law_64 (by decide) (fun c_64 => by have n_64 : 4 ≤ 0 := (g_leI (a := 4) (b := 0) rfl rfl (by decide) (by decide)).mp c_64; exfalso; omega) (fun c_64 => ?_)
  have n_64 : ¬ 4 ≤ 0 := fun h => c_64 ((g_leI (a := 4) (b := 0) rfl rfl (by decide) (by decide)).mpr h)
  refine lv_iload hx hb dL_law_67 (lv_at hl 0 rfl) ?_
  refine lv_bipush (v := nI 64) hx hb dL_law_69 (by decide +kernel) ?_
  refine l_idiv hx hb dL_law_71 (by omega) (by decide) (by decide) ?_
  refine lv_bipush (v := nI 64) hx hb dL_law_72 (by decide +kernel) ?_
  refine l_imul hx hb dL_law_74 ?_
  refine lv_goto (tgt := 100) hx hb dL_law_75 (by decide) ?_
  refine lv_istore (lv' := [(7, .int (nI ((d1 / 64) * 64))), (6, .int (nI 0)), (5, .int (nI 1)), (4, .int (nI (20 + (d0 % 25)))), (0, .ref b), (1, .ref (q 0)), (2, .ref (qb 0)), (3, .ref qn)]) hx hb dL_law_100 hl (by decide) rfl (fun ls hl => ?_)
  refine lv_iload hx hb dL_law_102 (lv_at hl 0 rfl) ?_
  refine lv_bipush (v := nI 32) hx hb dL_law_104 (by decide +kernel) ?_
  refine l_irem hx hb dL_law_106 (by omega) (by decide) (by decide) ?_
  refine lv_istore (lv' := [(8, .int (nI (((d1 / 64) * 64) % 32))), (7, .int (nI ((d1 / 64) * 64))), (6, .int (nI 0)), (5, .int (nI 1)), (4, .int (nI (20 + (d0 % 25)))), (0, .ref b), (1, .ref (q 0)), (2, .ref (qb 0)), (3, .ref qn)]) hx hb dL_law_107 hl (by decide) rfl (fun ls hl => ?_)
  refine lv_aload_n hx hb dL_law_109 rfl (lv_at hl 6 rfl) ?_
  refine lv_iload hx hb dL_law_110 (lv_at hl 1 rfl) ?_
  refine g_callSB (As := [.ref (q 0), .int (nI ((d1 / 64) * 64))]) (rest := []) (wr := XW cI cZ qb uX0 ++ [(qn, .inl (cI, 1, .inl zF))]) (wn := LX cI cZ q qb qn ((uM ((d1 / 64) * 64)), uX0, zF)) hx hb hml hown hts (cr_act0 l hst D cI cZ q ((d1 / 64) * 64) (by omega) (by omega) (by omega)) gL_law_L_act rfl rfl rfl hdL_act ⟨Nat.le_of_ble_eq_true rfl, Nat.le_of_ble_eq_true rfl⟩ LE_em hE XT_tm hXT hP hK hD hS hA rfl hl.1 rfl (Nat.le_of_ble_eq_true rfl) dL_law_112 ⟨Nat.le_of_ble_eq_true rfl, Nat.le_of_ble_eq_true rfl⟩ [0, 1, 2, 3, 4, 5, 6, 7, 8, 9, 10, 11, 12, 13, 14, 15, 16] [17, 18, 19, 20, 21, 22, 23, 24, 25, 26, 27, 28, 29, 30, 31, 32, 33, 34] [18, 19, 20, 21, 22, 23, 24, 25, 26, 27, 28, 29, 30, 31, 32, 33, 34, 0, 1, 2, 3, 4, 5, 6, 7, 8, 9, 10, 11, 12, 13, 14, 15, 16, 17] (by decide) rfl rfl (by decide) (by decide) (by decide) rfl (fun H locs hP hD hS hz => ?_)
  have hG : s.heap.size + 35 ≤ H.size := Nat.le_trans hG hz
  refine W.eq (g2 := F0 m 115 ls [.int (nI 0)]) rfl ?_
  refine lv_istore (lv' := [(9, .int (nI 0)), (8, .int (nI (((d1 / 64) * 64) % 32))), (7, .int (nI ((d1 / 64) * 64))), (6, .int (nI 0)), (5, .int (nI 1)), (4, .int (nI (20 + (d0 % 25)))), (0, .ref b), (1, .ref (q 0)), (2, .ref (qb 0)), (3, .ref qn)]) hx hb dL_law_115 hl (by decide) rfl (fun ls hl => ?_)
  refine lv_aload_n hx hb dL_law_117 rfl (lv_at hl 8 rfl) ?_
  refine lv_aload_n hx hb dL_law_118 rfl (lv_at hl 9 rfl) ?_
  refine lv_iload hx hb dL_law_119 (lv_at hl 2 rfl) ?_
  refine lv_sipush (v := nI 9973) hx hb dL_law_121 (by decide +kernel) ?_
  refine l_irem hx hb dL_law_124 (by omega) (by decide) (by decide) ?_
  refine g_callSB (As := [.ref (qb 0), .ref qn, .int (nI (((d1 / 64) * 64) % 9973))]) (rest := []) (wr := XW cI cZ q (uM ((d1 / 64) * 64))) (wn := LX cI cZ q qb qn ((uM ((d1 / 64) * 64)), uX0, zF)) hx hb hml hown hts (cr_refuses l hst D cI cZ qb qn uX0 zF 0 u0_n (by omega) 0 u0_w (by omega) nI_0.symm no_0 ref_0 (((d1 / 64) * 64) % 9973) (by omega)) gL_law_L_refuses rfl rfl rfl hdL_refuses ⟨Nat.le_of_ble_eq_true rfl, Nat.le_of_ble_eq_true rfl⟩ LE_em hE XT_tm hXT hP hK hD hS hA rfl hl.1 rfl (Nat.le_of_ble_eq_true rfl) dL_law_125 ⟨Nat.le_of_ble_eq_true rfl, Nat.le_of_ble_eq_true rfl⟩ [34, 17, 18, 19, 20, 21, 22, 23, 24, 25, 26, 27, 28, 29, 30, 31, 32, 33] [0, 1, 2, 3, 4, 5, 6, 7, 8, 9, 10, 11, 12, 13, 14, 15, 16] [0, 1, 2, 3, 4, 5, 6, 7, 8, 9, 10, 11, 12, 13, 14, 15, 16, 18, 19, 20, 21, 22, 23, 24, 25, 26, 27, 28, 29, 30, 31, 32, 33, 34, 17] (by decide) rfl rfl (by decide) (by decide) (by decide) rfl (fun H locs hP hD hS hz => ?_)
  have hG : s.heap.size + 68 ≤ H.size := Nat.le_trans (Nat.add_le_add_right hG 33) hz
  refine W.eq (g2 := F0 m 128 ls [.int (nI 1)]) rfl ?_
  refine lv_if_eq (tgt := 146) hx hb dL_law_128 (by decide) (fun c_128 => by have n_128 : 1 = 0 := (g_eqI (a := 1) (b := 0) rfl rfl (by decide) (by decide)).mp c_128; exfalso; omega) (fun c_128 => ?_)
  have n_128 : ¬ 1 = 0 := fun h => c_128 ((g_eqI (a := 1) (b := 0) rfl rfl (by decide) (by decide)).mpr h)
  refine lv_aload_n hx hb dL_law_131 rfl (lv_at hl 8 rfl) ?_
  refine lv_iload hx hb dL_law_132 (lv_at hl 2 rfl) ?_
  refine g_callSB (As := [.ref (qb 0), .int (nI ((d1 / 64) * 64))]) (rest := []) (wr := XW cI cZ q (uM ((d1 / 64) * 64)) ++ [(qn, .inl (cI, 1, .inl zF))]) (wn := LX cI cZ q qb qn ((uM ((d1 / 64) * 64)), (uM ((d1 / 64) * 64)), zF)) hx hb hml hown hts (cr_act0 l hst D cI cZ qb ((d1 / 64) * 64) (by omega) (by omega) (by omega)) gL_law_L_act rfl rfl rfl hdL_act ⟨Nat.le_of_ble_eq_true rfl, Nat.le_of_ble_eq_true rfl⟩ LE_em hE XT_tm hXT hP hK hD hS hA rfl hl.1 rfl (Nat.le_of_ble_eq_true rfl) dL_law_134 ⟨Nat.le_of_ble_eq_true rfl, Nat.le_of_ble_eq_true rfl⟩ [17, 18, 19, 20, 21, 22, 23, 24, 25, 26, 27, 28, 29, 30, 31, 32, 33] [0, 1, 2, 3, 4, 5, 6, 7, 8, 9, 10, 11, 12, 13, 14, 15, 16, 34] [0, 1, 2, 3, 4, 5, 6, 7, 8, 9, 10, 11, 12, 13, 14, 15, 16, 18, 19, 20, 21, 22, 23, 24, 25, 26, 27, 28, 29, 30, 31, 32, 33, 34, 17] (by decide) rfl rfl (by decide) (by decide) (by decide) rfl (fun H locs hP hD hS hz => ?_)
  have hG : s.heap.size + 68 ≤ H.size := Nat.le_trans hG hz
  refine W.eq (g2 := F0 m 137 ls [.int (nI 0)]) rfl ?_
  refine lv_iload hx hb dL_law_137 (lv_at hl 0 rfl) ?_
  refine lv_icmp_ne (tgt := 146) hx hb dL_law_139 (by decide) (fun c_139 => by have n_139 : ¬ 0 = 0 := fun h => c_139 ((g_eqI (a := 0) (b := 0) rfl rfl (by decide) (by decide)).mpr h); exfalso; omega) (fun c_139 => ?_)
  have n_139 : 0 = 0 := (g_eqI (a := 0) (b := 0) rfl rfl (by decide) (by decide)).mp c_139
  refine lv_iconst (v := nI 1) hx hb dL_law_142 (by decide +kernel) ?_
  refine lv_goto (tgt := 147) hx hb dL_law_143 (by decide) ?_
  refine lv_istore (lv' := [(5, .int (nI 1)), (9, .int (nI 0)), (8, .int (nI (((d1 / 64) * 64) % 32))), (7, .int (nI ((d1 / 64) * 64))), (6, .int (nI 0)), (4, .int (nI (20 + (d0 % 25)))), (0, .ref b), (1, .ref (q 0)), (2, .ref (qb 0)), (3, .ref qn)]) hx hb dL_law_147 hl (by decide) rfl (fun ls hl => ?_)
  refine lv_aload_n hx hb dL_law_149 rfl (lv_at hl 9 rfl) ?_
  refine lv_iconst (v := nI 0) hx hb dL_law_150 (by decide +kernel) ?_
  refine lv_iload hx hb dL_law_151 (lv_at hl 2 rfl) ?_
  refine lv_bipush (v := nI 18) hx hb dL_law_153 (by decide +kernel) ?_
  refine lv_icmp_le (tgt := 175) hx hb dL_law_155 (by decide) (fun c_155 => ?_) (fun c_155 => by have n_155 : ¬ (((d1 / 64) * 64) % 32) ≤ 18 := fun h => c_155 ((g_leI (a := (((d1 / 64) * 64) % 32)) (b := 18) rfl rfl (by omega) (by decide)).mpr h); exfalso; omega)
  have n_155 : (((d1 / 64) * 64) % 32) ≤ 18 := (g_leI (a := (((d1 / 64) * 64) % 32)) (b := 18) rfl rfl (by omega) (by decide)).mp c_155
  refine lv_iload hx hb dL_law_175 (lv_at hl 2 rfl) ?_
  refine lv_bipush (v := nI 23) hx hb dL_law_177 (by decide +kernel) ?_
  refine lv_icmp_le (tgt := 193) hx hb dL_law_179 (by decide) (fun c_179 => ?_) (fun c_179 => by have n_179 : ¬ (((d1 / 64) * 64) % 32) ≤ 23 := fun h => c_179 ((g_leI (a := (((d1 / 64) * 64) % 32)) (b := 23) rfl rfl (by omega) (by decide)).mpr h); exfalso; omega)
  have n_179 : (((d1 / 64) * 64) % 32) ≤ 23 := (g_leI (a := (((d1 / 64) * 64) % 32)) (b := 23) rfl rfl (by omega) (by decide)).mp c_179
  refine lv_aload_n hx hb dL_law_193 rfl (lv_at hl 9 rfl) ?_
  refine lv_iconst (v := nI 0) hx hb dL_law_194 (by decide +kernel) ?_
  refine g_iald (wd := LX cI cZ q qb qn) (u := ((uM ((d1 / 64) * 64)), (uM ((d1 / 64) * 64)), zF)) (n := 1) (f := zF) hx hb hK hP 34 0 rfl rfl 0 (by omega) (by omega) rfl dL_law_195 ?_
  refine g_iast (wd := LX cI cZ q qb qn) (n := 1) (f := zF) (u := ((uM ((d1 / 64) * 64)), (uM ((d1 / 64) * 64)), zF)) (u' := ((uM ((d1 / 64) * 64)), (uM ((d1 / 64) * 64)), (upd zF 0 (zF 0)))) hx hb hK hP hD (va_S_at hS) 34 0 rfl rfl 0 (by omega) (by omega) rfl rfl dL_law_196 (fun H2 locs2 hP2 hD2 hS2 => ?_)
  have hG : s.heap.size + 68 ≤ H2.size := Nat.le_trans hG hS2.1
  have hS := va_S_tr hS hS2
  have hP := hP2
  have hD := hD2
  refine lv_iload hx hb dL_law_197 (lv_at hl 0 rfl) ?_
  refine lv_if_eq (tgt := 258) hx hb dL_law_199 (by decide) (fun c_199 => by have n_199 : 1 = 0 := (g_eqI (a := 1) (b := 0) rfl rfl (by decide) (by decide)).mp c_199; exfalso; omega) (fun c_199 => ?_)
  have n_199 : ¬ 1 = 0 := fun h => c_199 ((g_eqI (a := 1) (b := 0) rfl rfl (by decide) (by decide)).mpr h)
  refine lv_iload hx hb dL_law_202 (lv_at hl 4 rfl) ?_
  refine lv_iconst (v := nI 3) hx hb dL_law_204 (by decide +kernel) ?_
  refine l_irem hx hb dL_law_205 (by decide) (by decide) (by decide) ?_
  refine lv_if_gt (tgt := 223) hx hb dL_law_206 (by decide) (fun c_206 => by have n_206 : 0 < (0 % 3) := (g_ltI (a := 0) (b := (0 % 3)) rfl rfl (by decide) (by omega)).mp c_206; exfalso; omega) (fun c_206 => ?_)
  have n_206 : ¬ 0 < (0 % 3) := fun h => c_206 ((g_ltI (a := 0) (b := (0 % 3)) rfl rfl (by decide) (by omega)).mpr h)
  refine lv_aload_n hx hb dL_law_209 rfl (lv_at hl 8 rfl) ?_
  refine lv_aload_n hx hb dL_law_210 rfl (lv_at hl 9 rfl) ?_
  refine lv_iload hx hb dL_law_211 (lv_at hl 3 rfl) ?_
  refine lv_sipush (v := nI 499) hx hb dL_law_213 (by decide +kernel) ?_
  refine l_irem hx hb dL_law_216 (by omega) (by decide) (by decide) ?_
  refine g_callSB (As := [.ref (qb 0), .ref qn, .int (nI (((d1 / 64) * 64) % 499))]) (rest := []) (wr := XW cI cZ q (uM ((d1 / 64) * 64))) (wn := LX cI cZ q qb qn ((uM ((d1 / 64) * 64)), (uM ((d1 / 64) * 64)), (upd zF 0 (zF 0)))) hx hb hml hown hts (cr_refuses l hst D cI cZ qb qn (uM ((d1 / 64) * 64)) (upd zF 0 (zF 0)) 1 (uM_n _) (by omega) 0 (uM_w _) (by omega) nI_0.symm (no_1 _) ref_0 (((d1 / 64) * 64) % 499) (by omega)) gL_law_L_refuses rfl rfl rfl hdL_refuses ⟨Nat.le_of_ble_eq_true rfl, Nat.le_of_ble_eq_true rfl⟩ LE_em hE XT_tm hXT hP hK hD hS hA rfl hl.1 rfl (Nat.le_of_ble_eq_true rfl) dL_law_217 ⟨Nat.le_of_ble_eq_true rfl, Nat.le_of_ble_eq_true rfl⟩ [34, 17, 18, 19, 20, 21, 22, 23, 24, 25, 26, 27, 28, 29, 30, 31, 32, 33] [0, 1, 2, 3, 4, 5, 6, 7, 8, 9, 10, 11, 12, 13, 14, 15, 16] [0, 1, 2, 3, 4, 5, 6, 7, 8, 9, 10, 11, 12, 13, 14, 15, 16, 18, 19, 20, 21, 22, 23, 24, 25, 26, 27, 28, 29, 30, 31, 32, 33, 34, 17] (by decide) rfl rfl (by decide) (by decide) (by decide) rfl (fun H locs hP hD hS hz => ?_)
  have hG : s.heap.size + 101 ≤ H.size := Nat.le_trans (Nat.add_le_add_right hG 33) hz
  refine W.eq (g2 := F0 m 220 ls [.int (nI 1)]) rfl ?_
  refine lv_if_eq (tgt := 258) hx hb dL_law_220 (by decide) (fun c_220 => by have n_220 : 1 = 0 := (g_eqI (a := 1) (b := 0) rfl rfl (by decide) (by decide)).mp c_220; exfalso; omega) (fun c_220 => ?_)
  have n_220 : ¬ 1 = 0 := fun h => c_220 ((g_eqI (a := 1) (b := 0) rfl rfl (by decide) (by decide)).mpr h)
  refine lv_aload_n hx hb dL_law_223 rfl (lv_at hl 7 rfl) ?_
  refine lv_aload_n hx hb dL_law_224 rfl (lv_at hl 8 rfl) ?_
  refine lv_iload hx hb dL_law_225 (lv_at hl 3 rfl) ?_
  refine lv_iconst (v := nI 3) hx hb dL_law_227 (by decide +kernel) ?_
  refine l_idiv hx hb dL_law_228 (by omega) (by decide) (by decide) ?_
  refine g_callSB (As := [.ref (q 0), .ref (qb 0), .int (nI (((d1 / 64) * 64) / 3))]) (rest := []) (wr := [(qn, .inl (cI, 1, .inl (upd zF 0 (zF 0))))]) (wn := LX cI cZ q qb qn ((sF 1 (uM ((d1 / 64) * 64))), (sF 1 (uM ((d1 / 64) * 64))), (upd zF 0 (zF 0)))) hx hb hml hown hts (cr_alike l hst D cI cZ q qb (uM ((d1 / 64) * 64)) (uM ((d1 / 64) * 64)) 1 (uM_n _) (uM_n _) (by omega) (fun _ _ _ => rfl) rfl rfl (((d1 / 64) * 64) / 3) (by omega)) gL_law_L_alike rfl rfl rfl hdL_alike ⟨Nat.le_of_ble_eq_true rfl, Nat.le_of_ble_eq_true rfl⟩ LE_em hE XT_tm hXT hP hK hD hS hA rfl hl.1 rfl (Nat.le_of_ble_eq_true rfl) dL_law_229 ⟨Nat.le_of_ble_eq_true rfl, Nat.le_of_ble_eq_true rfl⟩ [0, 1, 2, 3, 4, 5, 6, 7, 8, 9, 10, 11, 12, 13, 14, 15, 16, 17, 18, 19, 20, 21, 22, 23, 24, 25, 26, 27, 28, 29, 30, 31, 32, 33] [34] [1, 2, 3, 4, 5, 6, 7, 8, 9, 10, 11, 12, 13, 14, 15, 16, 17, 18, 19, 20, 21, 22, 23, 24, 25, 26, 27, 28, 29, 30, 31, 32, 33, 34, 0] (by decide) rfl rfl (by decide) (by decide) (by decide) rfl (fun H locs hP hD hS hz => ?_)
  have hG : s.heap.size + 101 ≤ H.size := Nat.le_trans hG hz
  refine W.eq (g2 := F0 m 232 ls [.int (nI 1)]) rfl ?_
  refine lv_if_eq (tgt := 258) hx hb dL_law_232 (by decide) (fun c_232 => by have n_232 : 1 = 0 := (g_eqI (a := 1) (b := 0) rfl rfl (by decide) (by decide)).mp c_232; exfalso; omega) (fun c_232 => ?_)
  have n_232 : ¬ 1 = 0 := fun h => c_232 ((g_eqI (a := 1) (b := 0) rfl rfl (by decide) (by decide)).mpr h)
  refine lv_iload hx hb dL_law_235 (lv_at hl 4 rfl) ?_
  refine lv_iconst (v := nI 5) hx hb dL_law_237 (by decide +kernel) ?_
  refine l_irem hx hb dL_law_238 (by decide) (by decide) (by decide) ?_
  refine lv_if_gt (tgt := 254) hx hb dL_law_239 (by decide) (fun c_239 => by have n_239 : 0 < (0 % 5) := (g_ltI (a := 0) (b := (0 % 5)) rfl rfl (by decide) (by omega)).mp c_239; exfalso; omega) (fun c_239 => ?_)
  have n_239 : ¬ 0 < (0 % 5) := fun h => c_239 ((g_ltI (a := 0) (b := (0 % 5)) rfl rfl (by decide) (by omega)).mpr h)
  refine lv_aload_n hx hb dL_law_242 rfl (lv_at hl 8 rfl) ?_
  refine lv_iload hx hb dL_law_243 (lv_at hl 3 rfl) ?_
  refine lv_bipush (v := nI 7) hx hb dL_law_245 (by decide +kernel) ?_
  refine l_idiv hx hb dL_law_247 (by omega) (by decide) (by decide) ?_
  refine g_callSB (As := [.ref (qb 0), .int (nI (((d1 / 64) * 64) / 7))]) (rest := []) (wr := XW cI cZ q (sF 1 (uM ((d1 / 64) * 64))) ++ [(qn, .inl (cI, 1, .inl (upd zF 0 (zF 0))))]) (wn := LX cI cZ q qb qn ((sF 1 (uM ((d1 / 64) * 64))), (sF 1 (sF 1 (sF 1 (uM ((d1 / 64) * 64))))), (upd zF 0 (zF 0)))) hx hb hml hown hts (cr_holds0 l hst D cI cZ qb (sF 1 (uM ((d1 / 64) * 64))) 1 (sF_n (uM_n _)) (by omega) (((d1 / 64) * 64) / 7) (by omega) rF_at rF_at (hH_1 _ _)) gL_law_L_holds rfl rfl rfl hdL_holds ⟨Nat.le_of_ble_eq_true rfl, Nat.le_of_ble_eq_true rfl⟩ LE_em hE XT_tm hXT hP hK hD hS hA rfl hl.1 rfl (Nat.le_of_ble_eq_true rfl) dL_law_248 ⟨Nat.le_of_ble_eq_true rfl, Nat.le_of_ble_eq_true rfl⟩ [17, 18, 19, 20, 21, 22, 23, 24, 25, 26, 27, 28, 29, 30, 31, 32, 33] [0, 1, 2, 3, 4, 5, 6, 7, 8, 9, 10, 11, 12, 13, 14, 15, 16, 34] [0, 1, 2, 3, 4, 5, 6, 7, 8, 9, 10, 11, 12, 13, 14, 15, 16, 18, 19, 20, 21, 22, 23, 24, 25, 26, 27, 28, 29, 30, 31, 32, 33, 34, 17] (by decide) rfl rfl (by decide) (by decide) (by decide) rfl (fun H locs hP hD hS hz => ?_)
  have hG : s.heap.size + 101 ≤ H.size := Nat.le_trans hG hz
  refine W.eq (g2 := F0 m 251 ls [.int (nI 1)]) rfl ?_
  refine lv_if_eq (tgt := 258) hx hb dL_law_251 (by decide) (fun c_251 => by have n_251 : 1 = 0 := (g_eqI (a := 1) (b := 0) rfl rfl (by decide) (by decide)).mp c_251; exfalso; omega) (fun c_251 => ?_)
  have n_251 : ¬ 1 = 0 := fun h => c_251 ((g_eqI (a := 1) (b := 0) rfl rfl (by decide) (by decide)).mpr h)
  refine lv_iconst (v := nI 1) hx hb dL_law_254 (by decide +kernel) ?_
  refine lv_goto (tgt := 259) hx hb dL_law_255 (by decide) ?_
  refine lv_istore (lv' := [(5, .int (nI 1)), (9, .int (nI 0)), (8, .int (nI (((d1 / 64) * 64) % 32))), (7, .int (nI ((d1 / 64) * 64))), (6, .int (nI 0)), (4, .int (nI (20 + (d0 % 25)))), (0, .ref b), (1, .ref (q 0)), (2, .ref (qb 0)), (3, .ref qn)]) hx hb dL_law_259 hl (by decide) rfl (fun ls hl => ?_)
  refine lv_iinc (v := (nI (0 + 1))) (lv' := [(6, .int (nI (0 + 1))), (5, .int (nI 1)), (9, .int (nI 0)), (8, .int (nI (((d1 / 64) * 64) % 32))), (7, .int (nI ((d1 / 64) * 64))), (4, .int (nI (20 + (d0 % 25)))), (0, .ref b), (1, .ref (q 0)), (2, .ref (qb 0)), (3, .ref qn)]) hx hb dL_law_261 hl (k := 4) rfl (nI_1 _) (by decide) rfl (fun ls hl => ?_)
  refine lv_goto (tgt := 39) hx hb dL_law_264 (by decide) ?_
  refine lv_iload hx hb dL_law_39 (lv_at hl 0 rfl) ?_
  refine lv_iload hx hb dL_law_41 (lv_at hl 5 rfl) ?_
  refine lv_icmp_ge (tgt := 267) hx hb dL_law_43 (by decide) (fun c_43 => by have n_43 : (20 + (d0 % 25)) ≤ (0 + 1) := (g_leI (a := (20 + (d0 % 25))) (b := (0 + 1)) rfl rfl (by omega) (by omega)).mp c_43; exfalso; omega) (fun c_43 => ?_)
  have n_43 : ¬ (20 + (d0 % 25)) ≤ (0 + 1) := fun h => c_43 ((g_leI (a := (20 + (d0 % 25))) (b := (0 + 1)) rfl rfl (by omega) (by omega)).mpr h)
  refine lv_iload hx hb dL_law_46 (lv_at hl 1 rfl) ?_
  refine lv_if_eq (tgt := 267) hx hb dL_law_48 (by decide) (fun c_48 => by have n_48 : 1 = 0 := (g_eqI (a := 1) (b := 0) rfl rfl (by decide) (by decide)).mp c_48; exfalso; omega) (fun c_48 => ?_)
  have n_48 : ¬ 1 = 0 := fun h => c_48 ((g_eqI (a := 1) (b := 0) rfl rfl (by decide) (by decide)).mpr h)
  refine lv_aload_n hx hb dL_law_51 rfl (lv_at hl 6 rfl) ?_
  refine lv_iconst (v := nI 1) hx hb dL_law_52 (by decide +kernel) ?_
  refine lv_iload hx hb dL_law_53 (lv_at hl 0 rfl) ?_
  refine l_iadd hx hb dL_law_55 ?_
  refine g_callSB (As := [.ref b, .int (nI (1 + (0 + 1)))]) (rest := []) (wr := LX cI cZ q qb qn ((sF 1 (uM ((d1 / 64) * 64))), (sF 1 (sF 1 (sF 1 (uM ((d1 / 64) * 64))))), (upd zF 0 (zF 0)))) (wn := LX cI cZ q qb qn ((sF 1 (uM ((d1 / 64) * 64))), (sF 1 (sF 1 (sF 1 (uM ((d1 / 64) * 64))))), (upd zF 0 (zF 0)))) hx hb hml hown hts hdr2 gL_law_L_drawn rfl rfl rfl hdL_drawn ⟨Nat.le_of_ble_eq_true rfl, Nat.le_of_ble_eq_true rfl⟩ LE_em hE (TB_tm b L xs) hTB hP hK hD hS hA rfl hl.1 rfl (Nat.le_of_ble_eq_true rfl) dL_law_56 ⟨Nat.le_of_ble_eq_true rfl, Nat.le_of_ble_eq_true rfl⟩ [] [0, 1, 2, 3, 4, 5, 6, 7, 8, 9, 10, 11, 12, 13, 14, 15, 16, 17, 18, 19, 20, 21, 22, 23, 24, 25, 26, 27, 28, 29, 30, 31, 32, 33, 34] [0, 1, 2, 3, 4, 5, 6, 7, 8, 9, 10, 11, 12, 13, 14, 15, 16, 17, 18, 19, 20, 21, 22, 23, 24, 25, 26, 27, 28, 29, 30, 31, 32, 33, 34] (by decide) rfl rfl (by decide) (by decide) (by decide) rfl (fun H locs hP hD hS hz => ?_)
  have hG : s.heap.size + 101 ≤ H.size := Nat.le_trans hG hz
  refine W.eq (g2 := F0 m 59 ls [.int (nI d2)]) rfl ?_
  refine lv_istore (lv' := [(7, .int (nI d2)), (6, .int (nI (0 + 1))), (5, .int (nI 1)), (9, .int (nI 0)), (8, .int (nI (((d1 / 64) * 64) % 32))), (4, .int (nI (20 + (d0 % 25)))), (0, .ref b), (1, .ref (q 0)), (2, .ref (qb 0)), (3, .ref qn)]) hx hb dL_law_59 hl (by decide) rfl (fun ls hl => ?_)
  refine lv_iload hx hb dL_law_61 (lv_at hl 1 rfl) ?_
  refine lv_iconst (v := nI 4) hx hb dL_law_63 (by decide +kernel) ?_
  refine lv_icmp_ge (tgt := 78) hx hb dL_law_64 (by decide) (fun c_64 => by have n_64 : 4 ≤ (0 + 1) := (g_leI (a := 4) (b := (0 + 1)) rfl rfl (by decide) (by omega)).mp c_64; exfalso; omega) (fun c_64 => ?_)
  have n_64 : ¬ 4 ≤ (0 + 1) := fun h => c_64 ((g_leI (a := 4) (b := (0 + 1)) rfl rfl (by decide) (by omega)).mpr h)
  refine lv_iload hx hb dL_law_67 (lv_at hl 0 rfl) ?_
  refine lv_bipush (v := nI 64) hx hb dL_law_69 (by decide +kernel) ?_
  refine l_idiv hx hb dL_law_71 (by omega) (by decide) (by decide) ?_
  refine lv_bipush (v := nI 64) hx hb dL_law_72 (by decide +kernel) ?_
  refine l_imul hx hb dL_law_74 ?_
  refine lv_goto (tgt := 100) hx hb dL_law_75 (by decide) ?_
  refine lv_istore (lv' := [(7, .int (nI ((d2 / 64) * 64))), (6, .int (nI (0 + 1))), (5, .int (nI 1)), (9, .int (nI 0)), (8, .int (nI (((d1 / 64) * 64) % 32))), (4, .int (nI (20 + (d0 % 25)))), (0, .ref b), (1, .ref (q 0)), (2, .ref (qb 0)), (3, .ref qn)]) hx hb dL_law_100 hl (by decide) rfl (fun ls hl => ?_)
  refine lv_iload hx hb dL_law_102 (lv_at hl 0 rfl) ?_
  refine lv_bipush (v := nI 32) hx hb dL_law_104 (by decide +kernel) ?_
  refine l_irem hx hb dL_law_106 (by omega) (by decide) (by decide) ?_
  refine lv_istore (lv' := [(8, .int (nI (((d2 / 64) * 64) % 32))), (7, .int (nI ((d2 / 64) * 64))), (6, .int (nI (0 + 1))), (5, .int (nI 1)), (9, .int (nI 0)), (4, .int (nI (20 + (d0 % 25)))), (0, .ref b), (1, .ref (q 0)), (2, .ref (qb 0)), (3, .ref qn)]) hx hb dL_law_107 hl (by decide) rfl (fun ls hl => ?_)
  refine lv_aload_n hx hb dL_law_109 rfl (lv_at hl 7 rfl) ?_
  refine lv_iload hx hb dL_law_110 (lv_at hl 1 rfl) ?_
  refine g_callSB (As := [.ref (q 0), .int (nI ((d2 / 64) * 64))]) (rest := []) (wr := XW cI cZ qb (sF 1 (sF 1 (sF 1 (uM ((d1 / 64) * 64))))) ++ [(qn, .inl (cI, 1, .inl (upd zF 0 (zF 0))))]) (wn := LX cI cZ q qb qn ((aU (sF 1 (uM ((d1 / 64) * 64))) 1 ((d2 / 64) * 64)), (sF 1 (sF 1 (sF 1 (uM ((d1 / 64) * 64))))), (upd zF 0 (zF 0)))) hx hb hml hown hts (cr_act l hst D cI cZ q (sF 1 (uM ((d1 / 64) * 64))) 1 (sF_n (uM_n _)) (by omega) ((d2 / 64) * 64) (by omega) (by omega)) gL_law_L_act rfl rfl rfl hdL_act ⟨Nat.le_of_ble_eq_true rfl, Nat.le_of_ble_eq_true rfl⟩ LE_em hE XT_tm hXT hP hK hD hS hA rfl hl.1 rfl (Nat.le_of_ble_eq_true rfl) dL_law_112 ⟨Nat.le_of_ble_eq_true rfl, Nat.le_of_ble_eq_true rfl⟩ [0, 1, 2, 3, 4, 5, 6, 7, 8, 9, 10, 11, 12, 13, 14, 15, 16] [17, 18, 19, 20, 21, 22, 23, 24, 25, 26, 27, 28, 29, 30, 31, 32, 33, 34] [18, 19, 20, 21, 22, 23, 24, 25, 26, 27, 28, 29, 30, 31, 32, 33, 34, 0, 1, 2, 3, 4, 5, 6, 7, 8, 9, 10, 11, 12, 13, 14, 15, 16, 17] (by decide) rfl rfl (by decide) (by decide) (by decide) rfl (fun H locs hP hD hS hz => ?_)
  have hG : s.heap.size + 101 ≤ H.size := Nat.le_trans hG hz
  refine W.eq (g2 := F0 m 115 ls [.int (aV (sF 1 (uM ((d1 / 64) * 64))) 1 ((d2 / 64) * 64))]) rfl ?_
  refine lv_istore (lv' := [(9, .int (aV (sF 1 (uM ((d1 / 64) * 64))) 1 ((d2 / 64) * 64))), (8, .int (nI (((d2 / 64) * 64) % 32))), (7, .int (nI ((d2 / 64) * 64))), (6, .int (nI (0 + 1))), (5, .int (nI 1)), (4, .int (nI (20 + (d0 % 25)))), (0, .ref b), (1, .ref (q 0)), (2, .ref (qb 0)), (3, .ref qn)]) hx hb dL_law_115 hl (by decide) rfl (fun ls hl => ?_)
  refine lv_aload_n hx hb dL_law_117 rfl (lv_at hl 8 rfl) ?_
  refine lv_aload_n hx hb dL_law_118 rfl (lv_at hl 9 rfl) ?_
  refine lv_iload hx hb dL_law_119 (lv_at hl 2 rfl) ?_
  refine lv_sipush (v := nI 9973) hx hb dL_law_121 (by decide +kernel) ?_
  refine l_irem hx hb dL_law_124 (by omega) (by decide) (by decide) ?_
  refine g_callSB (As := [.ref (qb 0), .ref qn, .int (nI (((d2 / 64) * 64) % 9973))]) (rest := []) (wr := XW cI cZ q (aU (sF 1 (uM ((d1 / 64) * 64))) 1 ((d2 / 64) * 64))) (wn := LX cI cZ q qb qn ((aU (sF 1 (uM ((d1 / 64) * 64))) 1 ((d2 / 64) * 64)), (sF 1 (sF 1 (sF 1 (uM ((d1 / 64) * 64))))), (upd zF 0 (zF 0)))) hx hb hml hown hts (cr_refuses l hst D cI cZ qb qn (sF 1 (sF 1 (sF 1 (uM ((d1 / 64) * 64))))) (upd zF 0 (zF 0)) 1 (sF_n (sF_n (sF_n (uM_n ((d1 / 64) * 64))))) (by omega) 0 (uM_w ((d1 / 64) * 64)) (by omega) nI_0.symm (no_1 ((d1 / 64) * 64)) ref_0 (((d2 / 64) * 64) % 9973) (by omega)) gL_law_L_refuses rfl rfl rfl hdL_refuses ⟨Nat.le_of_ble_eq_true rfl, Nat.le_of_ble_eq_true rfl⟩ LE_em hE XT_tm hXT hP hK hD hS hA rfl hl.1 rfl (Nat.le_of_ble_eq_true rfl) dL_law_125 ⟨Nat.le_of_ble_eq_true rfl, Nat.le_of_ble_eq_true rfl⟩ [34, 17, 18, 19, 20, 21, 22, 23, 24, 25, 26, 27, 28, 29, 30, 31, 32, 33] [0, 1, 2, 3, 4, 5, 6, 7, 8, 9, 10, 11, 12, 13, 14, 15, 16] [0, 1, 2, 3, 4, 5, 6, 7, 8, 9, 10, 11, 12, 13, 14, 15, 16, 18, 19, 20, 21, 22, 23, 24, 25, 26, 27, 28, 29, 30, 31, 32, 33, 34, 17] (by decide) rfl rfl (by decide) (by decide) (by decide) rfl (fun H locs hP hD hS hz => ?_)
  have hG : s.heap.size + 134 ≤ H.size := Nat.le_trans (Nat.add_le_add_right hG 33) hz
  refine W.eq (g2 := F0 m 128 ls [.int (nI 1)]) rfl ?_
  exact w_stop hG
