/-! THE LAW: the calls that throw -/
def NW (cI cZ : ClassId) (q : Nat → Nat) (qn : Nat) (z : (Nat → Int32) × SX) : va_W := (qn, .inl (cI, 1, .inl z.1)) :: XW cI cZ q z.2
theorem rf_at {rf : Nat → Int32} {r : Nat} (hr : r < 4) : xRefOf rf (nI r) = rf r := by
  unfold xRefOf
  rw [if_neg (show ¬ xRange (nI r) 4 = 0 from xR_in (n := 4) hr (by omega)), nI_clamp (by omega)]
theorem one_01 {v : Int32} (h : v = 0 ∨ v = 1) (h1 : ¬ v = nI 1) : v = 0 := h.resolve_right h1
theorem one_ne {v : Int32} (h : v = nI 1) : ¬ v = 0 := by rw [h]; decide +kernel
abbrev rmL_refuses : Room := { frames := 10, cells := 40, slots := 240, locals := 266 }
theorem hdL_refuses : yL_refuses.cls ≠ "java/lang/invoke/MethodHandle" ∧ yL_refuses.cls ≠ "java/lang/invoke/VarHandle" ∧ (parseMethodDescriptor yL_refuses.desc).map (fun d => d.parameters.length) = some 3 := by decide +kernel
set_option maxHeartbeats 4000000 in
set_option maxRecDepth 100000 in
theorem cr_refuses (l : Launch) (hst : l.stackTraces = false) (D : va_G) (cI cZ : ClassId) (q : Nat → Nat) (qn : Nat) (u : SX) (g : Nat → Int32) (n : Nat) (hn : u.1 15 0 = nI n) (hn60 : n < 60) (w : Nat) (hw : u.1 13 0 = nI w) (hw3 : w < 3) (hg : g 0 = nI w) (hNo : ∀ b, b < 2 → ∀ c : Int32, xRange c (nI n) = 0 → xCon (u.2 b) c = 0) (href : ∀ r, r < 4 → u.1 6 r = -1 ∨ ∃ j : Nat, j < 2 ^ 31 ∧ u.1 6 r = nI j) (X : Nat) (hX : X < 10000) : gB l yL_refuses wsL_refuses rmL_refuses D (tyXZ cI cZ) (NW cI cZ q qn) LE XT [.ref (q 0), .ref qn, .int (nI X)] (g, u) (some (.int 1)) (g, u) 40 240 33 := by
  refine g_startB (cc := cL_refuses) (maxL := 12) (ret := (some .boolean)) (by decide) rfl (Nat.le_of_ble_eq_true rfl) ?_
  intro p e s m below meth c A ls Q hx hb hml hret hts hown hlk hE hP hK hD hA hl hQ hS hXT
  have hown : s.vm.findClass RL = some m.cls := hown
  have hl : lv_has ls 12 [(0, .ref (q 0)), (1, .ref qn), (2, .int (nI X))] := hl
  have hG : s.heap.size + 0 ≤ s.heap.size := Nat.le_refl _
  have h60 : n ≤ 60 := Nat.le_of_lt hn60
  have main : ∀ (none store ref : Int32) (H : Heap) (locs : List Loc) (ls : Array Slot) (hP : va_P D vwCl (NW cI cZ q qn (g, u)) H) (hD : va_D A (NW cI cZ q qn (g, u))) (hS : va_S A s.heap H locs) (hl : lv_has ls 12 [(0, .ref (q 0)), (1, .ref qn), (2, .int (nI X)), (4, .int (nI n)), (5, .int none), (6, .int store), (7, .int ref)]) (hG : s.heap.size + 0 ≤ H.size) (hno : xRange none (nI n) = 0) (hn1 : ¬ none = -1) (hs2 : xRange store 2 = 0) (hrf : xRange ref 4 = 0), W p l e rmL_refuses s m ([.ref (q 0), .ref qn, .int (nI X)] : List Value).toArray below meth c H locs 0 0 Q (F0 m 83 ls []) := by
    intro none store ref H locs ls hP hD hS hl hG hno hn1 hs2 hrf
    refine lv_aload_n hx hb dL_refuses_83 rfl (lv_at hl 0 rfl) ?_
    refine lv_iload hx hb dL_refuses_84 (lv_at hl 5 rfl) ?_
    refine lv_iconst (v := (-1)) hx hb dL_refuses_86 (by decide +kernel) ?_
    refine lv_iconst (v := (-1)) hx hb dL_refuses_87 (by decide +kernel) ?_
    refine lv_iconst (v := nI 0) hx hb dL_refuses_88 (by decide +kernel) ?_
    refine lv_iconst (v := nI 0) hx hb dL_refuses_89 (by decide +kernel) ?_
    refine g_callSWB (As := [.ref (q 0), .int store, .int (-1), .int (-1), .int (nI 0), .int (nI 0)]) (rest := []) (wr := [(qn, .inl (cI, 1, .inl g))]) (wn := NW cI cZ q qn (g, u)) hx hb hml hown hts (tx_makes l hst D cI cZ q u n hn h60 store (-1) (-1) (nI 0) (nI 0) (z := 1) (if_pos hs2) (by decide)) gL_refuses_L_makes rfl rfl rfl hdL_makes ⟨Nat.le_of_ble_eq_true rfl, Nat.le_of_ble_eq_true rfl⟩ LE_em hE XT_tm hXT hP hK hD hS hA rfl hl.1 rfl (Nat.le_of_ble_eq_true rfl) dL_refuses_90 ⟨Nat.le_of_ble_eq_true rfl, Nat.le_of_ble_eq_true rfl⟩ [1, 2, 3, 4, 5, 6, 7, 8, 9, 10, 11, 12, 13, 14, 15, 16, 17] [0] [0, 1, 2, 3, 4, 5, 6, 7, 8, 9, 10, 11, 12, 13, 14, 15, 16, 17] (by decide) rfl rfl (by decide) (by decide) (by decide) rfl (fun H locs hP hD hS hz => ?_)
    have hG : s.heap.size + 1 ≤ H.size := Nat.le_trans (Nat.add_le_add_right hG 1) hz
    refine W.eq (g2 := F0 m 93 ls [.int (cdx 1)]) rfl ?_
    refine lv_ldc (v := (-2000000001)) hx hb hown (hts _ (List.mem_of_getElem? (i := 1) (by decide +kernel))) dL_refuses_93 ?_
    refine lv_icmp_ne (tgt := 670) hx hb dL_refuses_95 (by decide) (fun c_95 => by exact absurd cdx_1 c_95) (fun c_95 => ?_)
    refine lv_aload_n hx hb dL_refuses_98 rfl (lv_at hl 0 rfl) ?_
    refine lv_iload_n hx hb dL_refuses_99 rfl (lv_at hl 2 rfl) ?_
    refine lv_iconst (v := nI 2) hx hb dL_refuses_100 (by decide +kernel) ?_
    refine l_irem hx hb dL_refuses_101 (by omega) (by decide) (by decide) ?_
    refine lv_iload hx hb dL_refuses_102 (lv_at hl 4 rfl) ?_
    refine lv_iconst (v := (-1)) hx hb dL_refuses_104 (by decide +kernel) ?_
    refine lv_iconst (v := nI 0) hx hb dL_refuses_105 (by decide +kernel) ?_
    refine lv_iconst (v := nI 0) hx hb dL_refuses_106 (by decide +kernel) ?_
    refine g_callSWB (As := [.ref (q 0), .int (nI (X % 2)), .int none, .int (-1), .int (nI 0), .int (nI 0)]) (rest := []) (wr := [(qn, .inl (cI, 1, .inl g))]) (wn := NW cI cZ q qn (g, u)) hx hb hml hown hts (tx_makes l hst D cI cZ q u n hn h60 (nI (X % 2)) none (-1) (nI 0) (nI 0) (z := 1) (fz_mk1 (by omega) (Or.inr (Or.inl (hoN_no hn1 (hNo _ (by omega) _ hno))))) (by decide)) gL_refuses_L_makes rfl rfl rfl hdL_makes ⟨Nat.le_of_ble_eq_true rfl, Nat.le_of_ble_eq_true rfl⟩ LE_em hE XT_tm hXT hP hK hD hS hA rfl hl.1 rfl (Nat.le_of_ble_eq_true rfl) dL_refuses_107 ⟨Nat.le_of_ble_eq_true rfl, Nat.le_of_ble_eq_true rfl⟩ [1, 2, 3, 4, 5, 6, 7, 8, 9, 10, 11, 12, 13, 14, 15, 16, 17] [0] [0, 1, 2, 3, 4, 5, 6, 7, 8, 9, 10, 11, 12, 13, 14, 15, 16, 17] (by decide) rfl rfl (by decide) (by decide) (by decide) rfl (fun H locs hP hD hS hz => ?_)
    have hG : s.heap.size + 2 ≤ H.size := Nat.le_trans (Nat.add_le_add_right hG 1) hz
    refine W.eq (g2 := F0 m 110 ls [.int (cdx 1)]) rfl ?_
    refine lv_ldc (v := (-2000000001)) hx hb hown (hts _ (List.mem_of_getElem? (i := 1) (by decide +kernel))) dL_refuses_110 ?_
    refine lv_icmp_ne (tgt := 670) hx hb dL_refuses_112 (by decide) (fun c_112 => by exact absurd cdx_1 c_112) (fun c_112 => ?_)
    refine lv_aload_n hx hb dL_refuses_115 rfl (lv_at hl 0 rfl) ?_
    refine lv_iload_n hx hb dL_refuses_116 rfl (lv_at hl 2 rfl) ?_
    refine lv_iconst (v := nI 2) hx hb dL_refuses_117 (by decide +kernel) ?_
    refine l_irem hx hb dL_refuses_118 (by omega) (by decide) (by decide) ?_
    refine lv_iconst (v := (-1)) hx hb dL_refuses_119 (by decide +kernel) ?_
    refine lv_iload hx hb dL_refuses_120 (lv_at hl 4 rfl) ?_
    refine lv_iconst (v := nI 0) hx hb dL_refuses_122 (by decide +kernel) ?_
    refine lv_iconst (v := nI 0) hx hb dL_refuses_123 (by decide +kernel) ?_
    refine g_callSWB (As := [.ref (q 0), .int (nI (X % 2)), .int (-1), .int none, .int (nI 0), .int (nI 0)]) (rest := []) (wr := [(qn, .inl (cI, 1, .inl g))]) (wn := NW cI cZ q qn (g, u)) hx hb hml hown hts (tx_makes l hst D cI cZ q u n hn h60 (nI (X % 2)) (-1) none (nI 0) (nI 0) (z := 1) (fz_mk1 (by omega) (Or.inr (Or.inr (hoN_no hn1 (hNo _ (by omega) _ hno))))) (by decide)) gL_refuses_L_makes rfl rfl rfl hdL_makes ⟨Nat.le_of_ble_eq_true rfl, Nat.le_of_ble_eq_true rfl⟩ LE_em hE XT_tm hXT hP hK hD hS hA rfl hl.1 rfl (Nat.le_of_ble_eq_true rfl) dL_refuses_124 ⟨Nat.le_of_ble_eq_true rfl, Nat.le_of_ble_eq_true rfl⟩ [1, 2, 3, 4, 5, 6, 7, 8, 9, 10, 11, 12, 13, 14, 15, 16, 17] [0] [0, 1, 2, 3, 4, 5, 6, 7, 8, 9, 10, 11, 12, 13, 14, 15, 16, 17] (by decide) rfl rfl (by decide) (by decide) (by decide) rfl (fun H locs hP hD hS hz => ?_)
    have hG : s.heap.size + 3 ≤ H.size := Nat.le_trans (Nat.add_le_add_right hG 1) hz
    refine W.eq (g2 := F0 m 127 ls [.int (cdx 1)]) rfl ?_
    refine lv_ldc (v := (-2000000001)) hx hb hown (hts _ (List.mem_of_getElem? (i := 1) (by decide +kernel))) dL_refuses_127 ?_
    refine lv_icmp_ne (tgt := 670) hx hb dL_refuses_129 (by decide) (fun c_129 => by exact absurd cdx_1 c_129) (fun c_129 => ?_)
    refine lv_aload_n hx hb dL_refuses_132 rfl (lv_at hl 0 rfl) ?_
    refine lv_iload_n hx hb dL_refuses_133 rfl (lv_at hl 2 rfl) ?_
    refine lv_iconst (v := nI 2) hx hb dL_refuses_134 (by decide +kernel) ?_
    refine l_irem hx hb dL_refuses_135 (by omega) (by decide) (by decide) ?_
    refine lv_iconst (v := (-1)) hx hb dL_refuses_136 (by decide +kernel) ?_
    refine lv_iconst (v := (-1)) hx hb dL_refuses_137 (by decide +kernel) ?_
    refine lv_iload hx hb dL_refuses_138 (lv_at hl 6 rfl) ?_
    refine lv_bipush (v := nI 100) hx hb dL_refuses_140 (by decide +kernel) ?_
    refine g_callSWB (As := [.ref (q 0), .int (nI (X % 2)), .int (-1), .int (-1), .int ref, .int (nI 100)]) (rest := []) (wr := [(qn, .inl (cI, 1, .inl g))]) (wn := NW cI cZ q qn (g, u)) hx hb hml hown hts (tx_makes l hst D cI cZ q u n hn h60 (nI (X % 2)) (-1) (-1) ref (nI 100) (z := 1) (fz_mk1 (by omega) (Or.inl hrf)) (by decide)) gL_refuses_L_makes rfl rfl rfl hdL_makes ⟨Nat.le_of_ble_eq_true rfl, Nat.le_of_ble_eq_true rfl⟩ LE_em hE XT_tm hXT hP hK hD hS hA rfl hl.1 rfl (Nat.le_of_ble_eq_true rfl) dL_refuses_142 ⟨Nat.le_of_ble_eq_true rfl, Nat.le_of_ble_eq_true rfl⟩ [1, 2, 3, 4, 5, 6, 7, 8, 9, 10, 11, 12, 13, 14, 15, 16, 17] [0] [0, 1, 2, 3, 4, 5, 6, 7, 8, 9, 10, 11, 12, 13, 14, 15, 16, 17] (by decide) rfl rfl (by decide) (by decide) (by decide) rfl (fun H locs hP hD hS hz => ?_)
    have hG : s.heap.size + 4 ≤ H.size := Nat.le_trans (Nat.add_le_add_right hG 1) hz
    refine W.eq (g2 := F0 m 145 ls [.int (cdx 1)]) rfl ?_
    refine lv_ldc (v := (-2000000001)) hx hb hown (hts _ (List.mem_of_getElem? (i := 1) (by decide +kernel))) dL_refuses_145 ?_
    refine lv_icmp_ne (tgt := 670) hx hb dL_refuses_147 (by decide) (fun c_147 => by exact absurd cdx_1 c_147) (fun c_147 => ?_)
    refine lv_aload_n hx hb dL_refuses_150 rfl (lv_at hl 0 rfl) ?_
    refine lv_iload_n hx hb dL_refuses_151 rfl (lv_at hl 2 rfl) ?_
    refine lv_iconst (v := nI 2) hx hb dL_refuses_152 (by decide +kernel) ?_
    refine l_irem hx hb dL_refuses_153 (by omega) (by decide) (by decide) ?_
    refine lv_iconst (v := (-1)) hx hb dL_refuses_154 (by decide +kernel) ?_
    refine lv_iconst (v := (-1)) hx hb dL_refuses_155 (by decide +kernel) ?_
    refine lv_iload_n hx hb dL_refuses_156 rfl (lv_at hl 2 rfl) ?_
    refine lv_iconst (v := nI 4) hx hb dL_refuses_157 (by decide +kernel) ?_
    refine l_irem hx hb dL_refuses_158 (by omega) (by decide) (by decide) ?_
    refine lv_bipush (v := nI 100) hx hb dL_refuses_159 (by decide +kernel) ?_
    refine lv_iload_n hx hb dL_refuses_161 rfl (lv_at hl 2 rfl) ?_
    refine l_iadd hx hb dL_refuses_162 ?_
    refine g_callSWB (As := [.ref (q 0), .int (nI (X % 2)), .int (-1), .int (-1), .int (nI (X % 4)), .int (nI (100 + X))]) (rest := []) (wr := [(qn, .inl (cI, 1, .inl g))]) (wn := NW cI cZ q qn (g, u)) hx hb hml hown hts (tx_makes l hst D cI cZ q u n hn h60 (nI (X % 2)) (-1) (-1) (nI (X % 4)) (nI (100 + X)) (z := 2) (fz_mk2 (by omega) (xR_in (n := 4) (by omega) (by omega)) (hoN_m1 _) (hoN_m1 _) (Or.inl (fin_f (nI_m1 (by omega)) (xR_big (n := 100) (by omega) (by omega))))) (by decide)) gL_refuses_L_makes rfl rfl rfl hdL_makes ⟨Nat.le_of_ble_eq_true rfl, Nat.le_of_ble_eq_true rfl⟩ LE_em hE XT_tm hXT hP hK hD hS hA rfl hl.1 rfl (Nat.le_of_ble_eq_true rfl) dL_refuses_163 ⟨Nat.le_of_ble_eq_true rfl, Nat.le_of_ble_eq_true rfl⟩ [1, 2, 3, 4, 5, 6, 7, 8, 9, 10, 11, 12, 13, 14, 15, 16, 17] [0] [0, 1, 2, 3, 4, 5, 6, 7, 8, 9, 10, 11, 12, 13, 14, 15, 16, 17] (by decide) rfl rfl (by decide) (by decide) (by decide) rfl (fun H locs hP hD hS hz => ?_)
    have hG : s.heap.size + 5 ≤ H.size := Nat.le_trans (Nat.add_le_add_right hG 1) hz
    refine W.eq (g2 := F0 m 166 ls [.int (cdx 2)]) rfl ?_
    refine lv_ldc (v := (-2000000002)) hx hb hown (hts _ (List.mem_of_getElem? (i := 2) (by decide +kernel))) dL_refuses_166 ?_
    refine lv_icmp_ne (tgt := 670) hx hb dL_refuses_168 (by decide) (fun c_168 => by exact absurd cdx_2 c_168) (fun c_168 => ?_)
    refine lv_aload_n hx hb dL_refuses_171 rfl (lv_at hl 0 rfl) ?_
    refine lv_iload_n hx hb dL_refuses_172 rfl (lv_at hl 2 rfl) ?_
    refine lv_iconst (v := nI 2) hx hb dL_refuses_173 (by decide +kernel) ?_
    refine l_irem hx hb dL_refuses_174 (by omega) (by decide) (by decide) ?_
    refine lv_iconst (v := (-1)) hx hb dL_refuses_175 (by decide +kernel) ?_
    refine lv_iconst (v := (-1)) hx hb dL_refuses_176 (by decide +kernel) ?_
    refine lv_iload_n hx hb dL_refuses_177 rfl (lv_at hl 2 rfl) ?_
    refine lv_iconst (v := nI 4) hx hb dL_refuses_178 (by decide +kernel) ?_
    refine l_irem hx hb dL_refuses_179 (by omega) (by decide) (by decide) ?_
    refine lv_bipush (v := (-2)) hx hb dL_refuses_180 (by decide +kernel) ?_
    refine lv_iload_n hx hb dL_refuses_182 rfl (lv_at hl 2 rfl) ?_
    refine lv_isub hx hb dL_refuses_183 ?_
    refine g_callSWB (As := [.ref (q 0), .int (nI (X % 2)), .int (-1), .int (-1), .int (nI (X % 4)), .int ((-2) - (nI X))]) (rest := []) (wr := [(qn, .inl (cI, 1, .inl g))]) (wn := NW cI cZ q qn (g, u)) hx hb hml hown hts (tx_makes l hst D cI cZ q u n hn h60 (nI (X % 2)) (-1) (-1) (nI (X % 4)) ((-2) - (nI X)) (z := 2) (fz_mk2 (by omega) (xR_in (n := 4) (by omega) (by omega)) (hoN_m1 _) (hoN_m1 _) (Or.inl (fin_f (n_sub_m1 (a := 2) (by omega) (by omega) (by omega) toInt_m2) (xR_neg _ (n_sub_neg (a := 2) (by omega) (by omega) (by omega) toInt_m2))))) (by decide)) gL_refuses_L_makes rfl rfl rfl hdL_makes ⟨Nat.le_of_ble_eq_true rfl, Nat.le_of_ble_eq_true rfl⟩ LE_em hE XT_tm hXT hP hK hD hS hA rfl hl.1 rfl (Nat.le_of_ble_eq_true rfl) dL_refuses_184 ⟨Nat.le_of_ble_eq_true rfl, Nat.le_of_ble_eq_true rfl⟩ [1, 2, 3, 4, 5, 6, 7, 8, 9, 10, 11, 12, 13, 14, 15, 16, 17] [0] [0, 1, 2, 3, 4, 5, 6, 7, 8, 9, 10, 11, 12, 13, 14, 15, 16, 17] (by decide) rfl rfl (by decide) (by decide) (by decide) rfl (fun H locs hP hD hS hz => ?_)
    have hG : s.heap.size + 6 ≤ H.size := Nat.le_trans (Nat.add_le_add_right hG 1) hz
    refine W.eq (g2 := F0 m 187 ls [.int (cdx 2)]) rfl ?_
    refine lv_ldc (v := (-2000000002)) hx hb hown (hts _ (List.mem_of_getElem? (i := 2) (by decide +kernel))) dL_refuses_187 ?_
    refine lv_icmp_ne (tgt := 670) hx hb dL_refuses_189 (by decide) (fun c_189 => by exact absurd cdx_2 c_189) (fun c_189 => ?_)
    refine lv_aload_n hx hb dL_refuses_192 rfl (lv_at hl 0 rfl) ?_
    refine lv_iload hx hb dL_refuses_193 (lv_at hl 5 rfl) ?_
    refine lv_iconst (v := nI 0) hx hb dL_refuses_195 (by decide +kernel) ?_
    refine lv_iconst (v := (-1)) hx hb dL_refuses_196 (by decide +kernel) ?_
    refine g_callSWB (As := [.ref (q 0), .int store, .int (nI 0), .int (-1)]) (rest := []) (wr := [(qn, .inl (cI, 1, .inl g))]) (wn := NW cI cZ q qn (g, u)) hx hb hml hown hts (tx_sets l hst D cI cZ q u store (nI 0) (-1) (z := 1) (if_pos hs2) (by decide)) gL_refuses_L_sets rfl rfl rfl hdL_sets ⟨Nat.le_of_ble_eq_true rfl, Nat.le_of_ble_eq_true rfl⟩ LE_em hE XT_tm hXT hP hK hD hS hA rfl hl.1 rfl (Nat.le_of_ble_eq_true rfl) dL_refuses_197 ⟨Nat.le_of_ble_eq_true rfl, Nat.le_of_ble_eq_true rfl⟩ [1, 2, 3, 4, 5, 6, 7, 8, 9, 10, 11, 12, 13, 14, 15, 16, 17] [0] [0, 1, 2, 3, 4, 5, 6, 7, 8, 9, 10, 11, 12, 13, 14, 15, 16, 17] (by decide) rfl rfl (by decide) (by decide) (by decide) rfl (fun H locs hP hD hS hz => ?_)
    have hG : s.heap.size + 7 ≤ H.size := Nat.le_trans (Nat.add_le_add_right hG 1) hz
    refine W.eq (g2 := F0 m 200 ls [.int (cdx 1)]) rfl ?_
    refine lv_ldc (v := (-2000000001)) hx hb hown (hts _ (List.mem_of_getElem? (i := 1) (by decide +kernel))) dL_refuses_200 ?_
    refine lv_icmp_ne (tgt := 670) hx hb dL_refuses_202 (by decide) (fun c_202 => by exact absurd cdx_1 c_202) (fun c_202 => ?_)
    refine lv_aload_n hx hb dL_refuses_205 rfl (lv_at hl 0 rfl) ?_
    refine lv_iload_n hx hb dL_refuses_206 rfl (lv_at hl 2 rfl) ?_
    refine lv_iconst (v := nI 2) hx hb dL_refuses_207 (by decide +kernel) ?_
    refine l_irem hx hb dL_refuses_208 (by omega) (by decide) (by decide) ?_
    refine lv_iload hx hb dL_refuses_209 (lv_at hl 6 rfl) ?_
    refine lv_iconst (v := (-1)) hx hb dL_refuses_211 (by decide +kernel) ?_
    refine g_callSWB (As := [.ref (q 0), .int (nI (X % 2)), .int ref, .int (-1)]) (rest := []) (wr := [(qn, .inl (cI, 1, .inl g))]) (wn := NW cI cZ q qn (g, u)) hx hb hml hown hts (tx_sets l hst D cI cZ q u (nI (X % 2)) ref (-1) (z := 1) (fz_st (by omega) (Or.inl hrf)) (by decide)) gL_refuses_L_sets rfl rfl rfl hdL_sets ⟨Nat.le_of_ble_eq_true rfl, Nat.le_of_ble_eq_true rfl⟩ LE_em hE XT_tm hXT hP hK hD hS hA rfl hl.1 rfl (Nat.le_of_ble_eq_true rfl) dL_refuses_212 ⟨Nat.le_of_ble_eq_true rfl, Nat.le_of_ble_eq_true rfl⟩ [1, 2, 3, 4, 5, 6, 7, 8, 9, 10, 11, 12, 13, 14, 15, 16, 17] [0] [0, 1, 2, 3, 4, 5, 6, 7, 8, 9, 10, 11, 12, 13, 14, 15, 16, 17] (by decide) rfl rfl (by decide) (by decide) (by decide) rfl (fun H locs hP hD hS hz => ?_)
    have hG : s.heap.size + 8 ≤ H.size := Nat.le_trans (Nat.add_le_add_right hG 1) hz
    refine W.eq (g2 := F0 m 215 ls [.int (cdx 1)]) rfl ?_
    refine lv_ldc (v := (-2000000001)) hx hb hown (hts _ (List.mem_of_getElem? (i := 1) (by decide +kernel))) dL_refuses_215 ?_
    refine lv_icmp_ne (tgt := 670) hx hb dL_refuses_217 (by decide) (fun c_217 => by exact absurd cdx_1 c_217) (fun c_217 => ?_)
    refine lv_aload_n hx hb dL_refuses_220 rfl (lv_at hl 0 rfl) ?_
    refine lv_iload_n hx hb dL_refuses_221 rfl (lv_at hl 2 rfl) ?_
    refine lv_iconst (v := nI 2) hx hb dL_refuses_222 (by decide +kernel) ?_
    refine l_irem hx hb dL_refuses_223 (by omega) (by decide) (by decide) ?_
    refine lv_iconst (v := nI 0) hx hb dL_refuses_224 (by decide +kernel) ?_
    refine lv_iload hx hb dL_refuses_225 (lv_at hl 4 rfl) ?_
    refine g_callSWB (As := [.ref (q 0), .int (nI (X % 2)), .int (nI 0), .int none]) (rest := []) (wr := [(qn, .inl (cI, 1, .inl g))]) (wn := NW cI cZ q qn (g, u)) hx hb hml hown hts (tx_sets l hst D cI cZ q u (nI (X % 2)) (nI 0) none (z := 1) (fz_st (by omega) (Or.inr (hoN_no hn1 (hNo _ (by omega) _ hno)))) (by decide)) gL_refuses_L_sets rfl rfl rfl hdL_sets ⟨Nat.le_of_ble_eq_true rfl, Nat.le_of_ble_eq_true rfl⟩ LE_em hE XT_tm hXT hP hK hD hS hA rfl hl.1 rfl (Nat.le_of_ble_eq_true rfl) dL_refuses_227 ⟨Nat.le_of_ble_eq_true rfl, Nat.le_of_ble_eq_true rfl⟩ [1, 2, 3, 4, 5, 6, 7, 8, 9, 10, 11, 12, 13, 14, 15, 16, 17] [0] [0, 1, 2, 3, 4, 5, 6, 7, 8, 9, 10, 11, 12, 13, 14, 15, 16, 17] (by decide) rfl rfl (by decide) (by decide) (by decide) rfl (fun H locs hP hD hS hz => ?_)
    have hG : s.heap.size + 9 ≤ H.size := Nat.le_trans (Nat.add_le_add_right hG 1) hz
    refine W.eq (g2 := F0 m 230 ls [.int (cdx 1)]) rfl ?_
    refine lv_ldc (v := (-2000000001)) hx hb hown (hts _ (List.mem_of_getElem? (i := 1) (by decide +kernel))) dL_refuses_230 ?_
    refine lv_icmp_ne (tgt := 670) hx hb dL_refuses_232 (by decide) (fun c_232 => by exact absurd cdx_1 c_232) (fun c_232 => ?_)
    refine lv_aload_n hx hb dL_refuses_235 rfl (lv_at hl 0 rfl) ?_
    refine lv_iload hx hb dL_refuses_236 (lv_at hl 5 rfl) ?_
    refine lv_iconst (v := nI 0) hx hb dL_refuses_238 (by decide +kernel) ?_
    refine g_callSWB (As := [.ref (q 0), .int store, .int (nI 0)]) (rest := []) (wr := [(qn, .inl (cI, 1, .inl g))]) (wn := NW cI cZ q qn (g, u)) hx hb hml hown hts (tx_ref l hst D cI cZ q u store (nI 0) (z := 1) (if_pos hs2) (by decide)) gL_refuses_L_ref rfl rfl rfl hdL_ref ⟨Nat.le_of_ble_eq_true rfl, Nat.le_of_ble_eq_true rfl⟩ LE_em hE XT_tm hXT hP hK hD hS hA rfl hl.1 rfl (Nat.le_of_ble_eq_true rfl) dL_refuses_239 ⟨Nat.le_of_ble_eq_true rfl, Nat.le_of_ble_eq_true rfl⟩ [1, 2, 3, 4, 5, 6, 7, 8, 9, 10, 11, 12, 13, 14, 15, 16, 17] [0] [0, 1, 2, 3, 4, 5, 6, 7, 8, 9, 10, 11, 12, 13, 14, 15, 16, 17] (by decide) rfl rfl (by decide) (by decide) (by decide) rfl (fun H locs hP hD hS hz => ?_)
    have hG : s.heap.size + 10 ≤ H.size := Nat.le_trans (Nat.add_le_add_right hG 1) hz
    refine W.eq (g2 := F0 m 242 ls [.int (cdx 1)]) rfl ?_
    refine lv_ldc (v := (-2000000001)) hx hb hown (hts _ (List.mem_of_getElem? (i := 1) (by decide +kernel))) dL_refuses_242 ?_
    refine lv_icmp_ne (tgt := 670) hx hb dL_refuses_244 (by decide) (fun c_244 => by exact absurd cdx_1 c_244) (fun c_244 => ?_)
    refine lv_aload_n hx hb dL_refuses_247 rfl (lv_at hl 0 rfl) ?_
    refine lv_iload_n hx hb dL_refuses_248 rfl (lv_at hl 2 rfl) ?_
    refine lv_iconst (v := nI 2) hx hb dL_refuses_249 (by decide +kernel) ?_
    refine l_irem hx hb dL_refuses_250 (by omega) (by decide) (by decide) ?_
    refine lv_iload hx hb dL_refuses_251 (lv_at hl 6 rfl) ?_
    refine g_callSWB (As := [.ref (q 0), .int (nI (X % 2)), .int ref]) (rest := []) (wr := [(qn, .inl (cI, 1, .inl g))]) (wn := NW cI cZ q qn (g, u)) hx hb hml hown hts (tx_ref l hst D cI cZ q u (nI (X % 2)) ref (z := 1) (fz_b (by omega) hrf _ _) (by decide)) gL_refuses_L_ref rfl rfl rfl hdL_ref ⟨Nat.le_of_ble_eq_true rfl, Nat.le_of_ble_eq_true rfl⟩ LE_em hE XT_tm hXT hP hK hD hS hA rfl hl.1 rfl (Nat.le_of_ble_eq_true rfl) dL_refuses_253 ⟨Nat.le_of_ble_eq_true rfl, Nat.le_of_ble_eq_true rfl⟩ [1, 2, 3, 4, 5, 6, 7, 8, 9, 10, 11, 12, 13, 14, 15, 16, 17] [0] [0, 1, 2, 3, 4, 5, 6, 7, 8, 9, 10, 11, 12, 13, 14, 15, 16, 17] (by decide) rfl rfl (by decide) (by decide) (by decide) rfl (fun H locs hP hD hS hz => ?_)
    have hG : s.heap.size + 11 ≤ H.size := Nat.le_trans (Nat.add_le_add_right hG 1) hz
    refine W.eq (g2 := F0 m 256 ls [.int (cdx 1)]) rfl ?_
    refine lv_ldc (v := (-2000000001)) hx hb hown (hts _ (List.mem_of_getElem? (i := 1) (by decide +kernel))) dL_refuses_256 ?_
    refine lv_icmp_ne (tgt := 670) hx hb dL_refuses_258 (by decide) (fun c_258 => by exact absurd cdx_1 c_258) (fun c_258 => ?_)
    refine lv_aload_n hx hb dL_refuses_261 rfl (lv_at hl 0 rfl) ?_
    refine lv_iload hx hb dL_refuses_262 (lv_at hl 4 rfl) ?_
    refine lv_iconst (v := nI 0) hx hb dL_refuses_264 (by decide +kernel) ?_
    refine g_callSWB (As := [.ref (q 0), .int none, .int (nI 0)]) (rest := []) (wr := [(qn, .inl (cI, 1, .inl g))]) (wn := NW cI cZ q qn (g, u)) hx hb hml hown hts (tx_file l hst D cI cZ q u n hn h60 none (nI 0) (z := 1) (fz_file (Or.inl hno)) (by decide)) gL_refuses_L_file rfl rfl rfl hdL_file ⟨Nat.le_of_ble_eq_true rfl, Nat.le_of_ble_eq_true rfl⟩ LE_em hE XT_tm hXT hP hK hD hS hA rfl hl.1 rfl (Nat.le_of_ble_eq_true rfl) dL_refuses_265 ⟨Nat.le_of_ble_eq_true rfl, Nat.le_of_ble_eq_true rfl⟩ [1, 2, 3, 4, 5, 6, 7, 8, 9, 10, 11, 12, 13, 14, 15, 16, 17] [0] [0, 1, 2, 3, 4, 5, 6, 7, 8, 9, 10, 11, 12, 13, 14, 15, 16, 17] (by decide) rfl rfl (by decide) (by decide) (by decide) rfl (fun H locs hP hD hS hz => ?_)
    have hG : s.heap.size + 12 ≤ H.size := Nat.le_trans (Nat.add_le_add_right hG 1) hz
    refine W.eq (g2 := F0 m 268 ls [.int (cdx 1)]) rfl ?_
    refine lv_ldc (v := (-2000000001)) hx hb hown (hts _ (List.mem_of_getElem? (i := 1) (by decide +kernel))) dL_refuses_268 ?_
    refine lv_icmp_ne (tgt := 670) hx hb dL_refuses_270 (by decide) (fun c_270 => by exact absurd cdx_1 c_270) (fun c_270 => ?_)
    refine lv_aload_n hx hb dL_refuses_273 rfl (lv_at hl 0 rfl) ?_
    refine lv_iconst (v := nI 0) hx hb dL_refuses_274 (by decide +kernel) ?_
    refine lv_iload hx hb dL_refuses_275 (lv_at hl 6 rfl) ?_
    refine g_callSWB (As := [.ref (q 0), .int (nI 0), .int ref]) (rest := []) (wr := [(qn, .inl (cI, 1, .inl g))]) (wn := NW cI cZ q qn (g, u)) hx hb hml hown hts (tx_file l hst D cI cZ q u n hn h60 (nI 0) ref (z := 1) (fz_file (Or.inr hrf)) (by decide)) gL_refuses_L_file rfl rfl rfl hdL_file ⟨Nat.le_of_ble_eq_true rfl, Nat.le_of_ble_eq_true rfl⟩ LE_em hE XT_tm hXT hP hK hD hS hA rfl hl.1 rfl (Nat.le_of_ble_eq_true rfl) dL_refuses_277 ⟨Nat.le_of_ble_eq_true rfl, Nat.le_of_ble_eq_true rfl⟩ [1, 2, 3, 4, 5, 6, 7, 8, 9, 10, 11, 12, 13, 14, 15, 16, 17] [0] [0, 1, 2, 3, 4, 5, 6, 7, 8, 9, 10, 11, 12, 13, 14, 15, 16, 17] (by decide) rfl rfl (by decide) (by decide) (by decide) rfl (fun H locs hP hD hS hz => ?_)
    have hG : s.heap.size + 13 ≤ H.size := Nat.le_trans (Nat.add_le_add_right hG 1) hz
    refine W.eq (g2 := F0 m 280 ls [.int (cdx 1)]) rfl ?_
    refine lv_ldc (v := (-2000000001)) hx hb hown (hts _ (List.mem_of_getElem? (i := 1) (by decide +kernel))) dL_refuses_280 ?_
    refine lv_icmp_ne (tgt := 670) hx hb dL_refuses_282 (by decide) (fun c_282 => by exact absurd cdx_1 c_282) (fun c_282 => ?_)
    refine lv_aload_n hx hb dL_refuses_285 rfl (lv_at hl 0 rfl) ?_
    refine lv_iload hx hb dL_refuses_286 (lv_at hl 6 rfl) ?_
    refine lv_bipush (v := nI 99) hx hb dL_refuses_288 (by decide +kernel) ?_
    refine lv_iconst (v := nI 1) hx hb dL_refuses_290 (by decide +kernel) ?_
    refine g_callSWB (As := [.ref (q 0), .int ref, .int (nI 99), .int (nI 1)]) (rest := []) (wr := [(qn, .inl (cI, 1, .inl g))]) (wn := NW cI cZ q qn (g, u)) hx hb hml hown hts (tx_fetches l hst D cI cZ q u ref (nI 99) (nI 1) (z := 1) (fz_fet1 hrf) (by decide)) gL_refuses_L_fetches rfl rfl rfl hdL_fetches ⟨Nat.le_of_ble_eq_true rfl, Nat.le_of_ble_eq_true rfl⟩ LE_em hE XT_tm hXT hP hK hD hS hA rfl hl.1 rfl (Nat.le_of_ble_eq_true rfl) dL_refuses_291 ⟨Nat.le_of_ble_eq_true rfl, Nat.le_of_ble_eq_true rfl⟩ [1, 2, 3, 4, 5, 6, 7, 8, 9, 10, 11, 12, 13, 14, 15, 16, 17] [0] [0, 1, 2, 3, 4, 5, 6, 7, 8, 9, 10, 11, 12, 13, 14, 15, 16, 17] (by decide) rfl rfl (by decide) (by decide) (by decide) rfl (fun H locs hP hD hS hz => ?_)
    have hG : s.heap.size + 14 ≤ H.size := Nat.le_trans (Nat.add_le_add_right hG 1) hz
    refine W.eq (g2 := F0 m 294 ls [.int (cdx 1)]) rfl ?_
    refine lv_ldc (v := (-2000000001)) hx hb hown (hts _ (List.mem_of_getElem? (i := 1) (by decide +kernel))) dL_refuses_294 ?_
    refine lv_icmp_ne (tgt := 670) hx hb dL_refuses_296 (by decide) (fun c_296 => by exact absurd cdx_1 c_296) (fun c_296 => ?_)
    refine lv_aload_n hx hb dL_refuses_299 rfl (lv_at hl 0 rfl) ?_
    refine lv_iload_n hx hb dL_refuses_300 rfl (lv_at hl 2 rfl) ?_
    refine lv_iconst (v := nI 4) hx hb dL_refuses_301 (by decide +kernel) ?_
    refine l_irem hx hb dL_refuses_302 (by omega) (by decide) (by decide) ?_
    refine lv_bipush (v := nI 61) hx hb dL_refuses_303 (by decide +kernel) ?_
    refine lv_iload_n hx hb dL_refuses_305 rfl (lv_at hl 2 rfl) ?_
    refine l_iadd hx hb dL_refuses_306 ?_
    refine lv_iconst (v := nI 0) hx hb dL_refuses_307 (by decide +kernel) ?_
    refine g_callSWB (As := [.ref (q 0), .int (nI (X % 4)), .int (nI (61 + X)), .int (nI 0)]) (rest := []) (wr := [(qn, .inl (cI, 1, .inl g))]) (wn := NW cI cZ q qn (g, u)) hx hb hml hown hts (tx_fetches l hst D cI cZ q u (nI (X % 4)) (nI (61 + X)) (nI 0) (z := 2) (fz_fet2 (xR_in (n := 4) (by omega) (by omega)) (Or.inr (nI_ge (a := 60) (by omega) (by omega)))) (by decide)) gL_refuses_L_fetches rfl rfl rfl hdL_fetches ⟨Nat.le_of_ble_eq_true rfl, Nat.le_of_ble_eq_true rfl⟩ LE_em hE XT_tm hXT hP hK hD hS hA rfl hl.1 rfl (Nat.le_of_ble_eq_true rfl) dL_refuses_308 ⟨Nat.le_of_ble_eq_true rfl, Nat.le_of_ble_eq_true rfl⟩ [1, 2, 3, 4, 5, 6, 7, 8, 9, 10, 11, 12, 13, 14, 15, 16, 17] [0] [0, 1, 2, 3, 4, 5, 6, 7, 8, 9, 10, 11, 12, 13, 14, 15, 16, 17] (by decide) rfl rfl (by decide) (by decide) (by decide) rfl (fun H locs hP hD hS hz => ?_)
    have hG : s.heap.size + 15 ≤ H.size := Nat.le_trans (Nat.add_le_add_right hG 1) hz
    refine W.eq (g2 := F0 m 311 ls [.int (cdx 2)]) rfl ?_
    refine lv_ldc (v := (-2000000002)) hx hb hown (hts _ (List.mem_of_getElem? (i := 2) (by decide +kernel))) dL_refuses_311 ?_
    refine lv_icmp_ne (tgt := 670) hx hb dL_refuses_313 (by decide) (fun c_313 => by exact absurd cdx_2 c_313) (fun c_313 => ?_)
    refine lv_aload_n hx hb dL_refuses_316 rfl (lv_at hl 0 rfl) ?_
    refine lv_iload hx hb dL_refuses_317 (lv_at hl 6 rfl) ?_
    refine lv_iconst (v := (-1)) hx hb dL_refuses_319 (by decide +kernel) ?_
    refine g_callSWB (As := [.ref (q 0), .int ref, .int (-1)]) (rest := []) (wr := [(qn, .inl (cI, 1, .inl g))]) (wn := NW cI cZ q qn (g, u)) hx hb hml hown hts (tx_would l hst D cI cZ q u ref (-1) (z := 1) (fz_fet1 hrf) (by decide)) gL_refuses_L_would rfl rfl rfl hdL_would ⟨Nat.le_of_ble_eq_true rfl, Nat.le_of_ble_eq_true rfl⟩ LE_em hE XT_tm hXT hP hK hD hS hA rfl hl.1 rfl (Nat.le_of_ble_eq_true rfl) dL_refuses_320 ⟨Nat.le_of_ble_eq_true rfl, Nat.le_of_ble_eq_true rfl⟩ [1, 2, 3, 4, 5, 6, 7, 8, 9, 10, 11, 12, 13, 14, 15, 16, 17] [0] [0, 1, 2, 3, 4, 5, 6, 7, 8, 9, 10, 11, 12, 13, 14, 15, 16, 17] (by decide) rfl rfl (by decide) (by decide) (by decide) rfl (fun H locs hP hD hS hz => ?_)
    have hG : s.heap.size + 16 ≤ H.size := Nat.le_trans (Nat.add_le_add_right hG 1) hz
    refine W.eq (g2 := F0 m 323 ls [.int (cdx 1)]) rfl ?_
    refine lv_ldc (v := (-2000000001)) hx hb hown (hts _ (List.mem_of_getElem? (i := 1) (by decide +kernel))) dL_refuses_323 ?_
    refine lv_icmp_ne (tgt := 670) hx hb dL_refuses_325 (by decide) (fun c_325 => by exact absurd cdx_1 c_325) (fun c_325 => ?_)
    refine lv_aload_n hx hb dL_refuses_328 rfl (lv_at hl 0 rfl) ?_
    refine lv_iload_n hx hb dL_refuses_329 rfl (lv_at hl 2 rfl) ?_
    refine lv_iconst (v := nI 4) hx hb dL_refuses_330 (by decide +kernel) ?_
    refine l_irem hx hb dL_refuses_331 (by omega) (by decide) (by decide) ?_
    refine lv_iconst (v := (-1)) hx hb dL_refuses_332 (by decide +kernel) ?_
    refine lv_iload_n hx hb dL_refuses_333 rfl (lv_at hl 2 rfl) ?_
    refine lv_isub hx hb dL_refuses_334 ?_
    refine g_callSWB (As := [.ref (q 0), .int (nI (X % 4)), .int ((-1) - (nI X))]) (rest := []) (wr := [(qn, .inl (cI, 1, .inl g))]) (wn := NW cI cZ q qn (g, u)) hx hb hml hown hts (tx_would l hst D cI cZ q u (nI (X % 4)) ((-1) - (nI X)) (z := 2) (fz_fet2 (xR_in (n := 4) (by omega) (by omega)) (Or.inl (n_sub_neg (a := 1) (by omega) (by omega) (by omega) toInt_m1))) (by decide)) gL_refuses_L_would rfl rfl rfl hdL_would ⟨Nat.le_of_ble_eq_true rfl, Nat.le_of_ble_eq_true rfl⟩ LE_em hE XT_tm hXT hP hK hD hS hA rfl hl.1 rfl (Nat.le_of_ble_eq_true rfl) dL_refuses_335 ⟨Nat.le_of_ble_eq_true rfl, Nat.le_of_ble_eq_true rfl⟩ [1, 2, 3, 4, 5, 6, 7, 8, 9, 10, 11, 12, 13, 14, 15, 16, 17] [0] [0, 1, 2, 3, 4, 5, 6, 7, 8, 9, 10, 11, 12, 13, 14, 15, 16, 17] (by decide) rfl rfl (by decide) (by decide) (by decide) rfl (fun H locs hP hD hS hz => ?_)
    have hG : s.heap.size + 17 ≤ H.size := Nat.le_trans (Nat.add_le_add_right hG 1) hz
    refine W.eq (g2 := F0 m 338 ls [.int (cdx 2)]) rfl ?_
    refine lv_ldc (v := (-2000000002)) hx hb hown (hts _ (List.mem_of_getElem? (i := 2) (by decide +kernel))) dL_refuses_338 ?_
    refine lv_icmp_ne (tgt := 670) hx hb dL_refuses_340 (by decide) (fun c_340 => by exact absurd cdx_2 c_340) (fun c_340 => ?_)
    refine lv_aload_n hx hb dL_refuses_343 rfl (lv_at hl 0 rfl) ?_
    refine lv_bipush (v := nI 100) hx hb dL_refuses_344 (by decide +kernel) ?_
    refine lv_iload_n hx hb dL_refuses_346 rfl (lv_at hl 2 rfl) ?_
    refine l_iadd hx hb dL_refuses_347 ?_
    refine g_callSWB (As := [.ref (q 0), .int (nI (100 + X))]) (rest := []) (wr := [(qn, .inl (cI, 1, .inl g))]) (wn := NW cI cZ q qn (g, u)) hx hb hml hown hts (tx_loads l hst D cI cZ q u (nI (100 + X)) (z := 2) (fz_ld2 (xR_big (n := 100) (by omega) (by omega))) (by decide)) gL_refuses_L_loads rfl rfl rfl hdL_loads ⟨Nat.le_of_ble_eq_true rfl, Nat.le_of_ble_eq_true rfl⟩ LE_em hE XT_tm hXT hP hK hD hS hA rfl hl.1 rfl (Nat.le_of_ble_eq_true rfl) dL_refuses_348 ⟨Nat.le_of_ble_eq_true rfl, Nat.le_of_ble_eq_true rfl⟩ [1, 2, 3, 4, 5, 6, 7, 8, 9, 10, 11, 12, 13, 14, 15, 16, 17] [0] [0, 1, 2, 3, 4, 5, 6, 7, 8, 9, 10, 11, 12, 13, 14, 15, 16, 17] (by decide) rfl rfl (by decide) (by decide) (by decide) rfl (fun H locs hP hD hS hz => ?_)
    have hG : s.heap.size + 18 ≤ H.size := Nat.le_trans (Nat.add_le_add_right hG 1) hz
    refine W.eq (g2 := F0 m 351 ls [.int (cdx 2)]) rfl ?_
    refine lv_ldc (v := (-2000000002)) hx hb hown (hts _ (List.mem_of_getElem? (i := 2) (by decide +kernel))) dL_refuses_351 ?_
    refine lv_icmp_ne (tgt := 670) hx hb dL_refuses_353 (by decide) (fun c_353 => by exact absurd cdx_2 c_353) (fun c_353 => ?_)
    refine lv_aload_n hx hb dL_refuses_356 rfl (lv_at hl 0 rfl) ?_
    refine lv_iconst (v := (-1)) hx hb dL_refuses_357 (by decide +kernel) ?_
    refine lv_iload_n hx hb dL_refuses_358 rfl (lv_at hl 2 rfl) ?_
    refine lv_isub hx hb dL_refuses_359 ?_
    refine g_callSWB (As := [.ref (q 0), .int ((-1) - (nI X))]) (rest := []) (wr := [(qn, .inl (cI, 1, .inl g))]) (wn := NW cI cZ q qn (g, u)) hx hb hml hown hts (tx_loads l hst D cI cZ q u ((-1) - (nI X)) (z := 2) (fz_ld2 (xR_neg _ (n_sub_neg (a := 1) (by omega) (by omega) (by omega) toInt_m1))) (by decide)) gL_refuses_L_loads rfl rfl rfl hdL_loads ⟨Nat.le_of_ble_eq_true rfl, Nat.le_of_ble_eq_true rfl⟩ LE_em hE XT_tm hXT hP hK hD hS hA rfl hl.1 rfl (Nat.le_of_ble_eq_true rfl) dL_refuses_360 ⟨Nat.le_of_ble_eq_true rfl, Nat.le_of_ble_eq_true rfl⟩ [1, 2, 3, 4, 5, 6, 7, 8, 9, 10, 11, 12, 13, 14, 15, 16, 17] [0] [0, 1, 2, 3, 4, 5, 6, 7, 8, 9, 10, 11, 12, 13, 14, 15, 16, 17] (by decide) rfl rfl (by decide) (by decide) (by decide) rfl (fun H locs hP hD hS hz => ?_)
    have hG : s.heap.size + 19 ≤ H.size := Nat.le_trans (Nat.add_le_add_right hG 1) hz
    refine W.eq (g2 := F0 m 363 ls [.int (cdx 2)]) rfl ?_
    refine lv_ldc (v := (-2000000002)) hx hb hown (hts _ (List.mem_of_getElem? (i := 2) (by decide +kernel))) dL_refuses_363 ?_
    refine lv_icmp_ne (tgt := 670) hx hb dL_refuses_365 (by decide) (fun c_365 => by exact absurd cdx_2 c_365) (fun c_365 => ?_)
    refine lv_aload_n hx hb dL_refuses_368 rfl (lv_at hl 0 rfl) ?_
    refine lv_iload hx hb dL_refuses_369 (lv_at hl 6 rfl) ?_
    refine lv_iconst (v := nI 1) hx hb dL_refuses_371 (by decide +kernel) ?_
    refine g_callSWB (As := [.ref (q 0), .int ref, .int (nI 1)]) (rest := []) (wr := [(qn, .inl (cI, 1, .inl g))]) (wn := NW cI cZ q qn (g, u)) hx hb hml hown hts (tx_protects l hst D cI cZ q u ref (nI 1) (z := 1) (if_pos hrf) (by decide)) gL_refuses_L_protects rfl rfl rfl hdL_protects ⟨Nat.le_of_ble_eq_true rfl, Nat.le_of_ble_eq_true rfl⟩ LE_em hE XT_tm hXT hP hK hD hS hA rfl hl.1 rfl (Nat.le_of_ble_eq_true rfl) dL_refuses_372 ⟨Nat.le_of_ble_eq_true rfl, Nat.le_of_ble_eq_true rfl⟩ [1, 2, 3, 4, 5, 6, 7, 8, 9, 10, 11, 12, 13, 14, 15, 16, 17] [0] [0, 1, 2, 3, 4, 5, 6, 7, 8, 9, 10, 11, 12, 13, 14, 15, 16, 17] (by decide) rfl rfl (by decide) (by decide) (by decide) rfl (fun H locs hP hD hS hz => ?_)
    have hG : s.heap.size + 20 ≤ H.size := Nat.le_trans (Nat.add_le_add_right hG 1) hz
    refine W.eq (g2 := F0 m 375 ls [.int (cdx 1)]) rfl ?_
    refine lv_ldc (v := (-2000000001)) hx hb hown (hts _ (List.mem_of_getElem? (i := 1) (by decide +kernel))) dL_refuses_375 ?_
    refine lv_icmp_ne (tgt := 670) hx hb dL_refuses_377 (by decide) (fun c_377 => by exact absurd cdx_1 c_377) (fun c_377 => ?_)
    refine lv_aload_n hx hb dL_refuses_380 rfl (lv_at hl 0 rfl) ?_
    refine lv_iload hx hb dL_refuses_381 (lv_at hl 6 rfl) ?_
    refine lv_iconst (v := (-1)) hx hb dL_refuses_383 (by decide +kernel) ?_
    refine lv_iconst (v := (-1)) hx hb dL_refuses_384 (by decide +kernel) ?_
    refine g_callSWB (As := [.ref (q 0), .int ref, .int (-1), .int (-1)]) (rest := []) (wr := [(qn, .inl (cI, 1, .inl g))]) (wn := NW cI cZ q qn (g, u)) hx hb hml hown hts (tx_moves l hst D cI cZ q u n hn h60 w hw (Nat.le_of_lt hw3) ref (-1) (-1) (z := 1) (fz_mv (Or.inl hrf)) (by decide)) gL_refuses_L_moves rfl rfl rfl hdL_moves ⟨Nat.le_of_ble_eq_true rfl, Nat.le_of_ble_eq_true rfl⟩ LE_em hE XT_tm hXT hP hK hD hS hA rfl hl.1 rfl (Nat.le_of_ble_eq_true rfl) dL_refuses_385 ⟨Nat.le_of_ble_eq_true rfl, Nat.le_of_ble_eq_true rfl⟩ [1, 2, 3, 4, 5, 6, 7, 8, 9, 10, 11, 12, 13, 14, 15, 16, 17] [0] [0, 1, 2, 3, 4, 5, 6, 7, 8, 9, 10, 11, 12, 13, 14, 15, 16, 17] (by decide) rfl rfl (by decide) (by decide) (by decide) rfl (fun H locs hP hD hS hz => ?_)
    have hG : s.heap.size + 21 ≤ H.size := Nat.le_trans (Nat.add_le_add_right hG 1) hz
    refine W.eq (g2 := F0 m 388 ls [.int (cdx 1)]) rfl ?_
    refine lv_ldc (v := (-2000000001)) hx hb hown (hts _ (List.mem_of_getElem? (i := 1) (by decide +kernel))) dL_refuses_388 ?_
    refine lv_icmp_ne (tgt := 670) hx hb dL_refuses_390 (by decide) (fun c_390 => by exact absurd cdx_1 c_390) (fun c_390 => ?_)
    refine lv_aload_n hx hb dL_refuses_393 rfl (lv_at hl 0 rfl) ?_
    refine lv_iload_n hx hb dL_refuses_394 rfl (lv_at hl 2 rfl) ?_
    refine lv_iconst (v := nI 4) hx hb dL_refuses_395 (by decide +kernel) ?_
    refine l_irem hx hb dL_refuses_396 (by omega) (by decide) (by decide) ?_
    refine lv_iload hx hb dL_refuses_397 (lv_at hl 4 rfl) ?_
    refine lv_iconst (v := (-1)) hx hb dL_refuses_399 (by decide +kernel) ?_
    refine g_callSWB (As := [.ref (q 0), .int (nI (X % 4)), .int none, .int (-1)]) (rest := []) (wr := [(qn, .inl (cI, 1, .inl g))]) (wn := NW cI cZ q qn (g, u)) hx hb hml hown hts (tx_moves l hst D cI cZ q u n hn h60 w hw (Nat.le_of_lt hw3) (nI (X % 4)) none (-1) (z := 1) (fz_mv (Or.inr (Or.inl (coN_no hn1 hno)))) (by decide)) gL_refuses_L_moves rfl rfl rfl hdL_moves ⟨Nat.le_of_ble_eq_true rfl, Nat.le_of_ble_eq_true rfl⟩ LE_em hE XT_tm hXT hP hK hD hS hA rfl hl.1 rfl (Nat.le_of_ble_eq_true rfl) dL_refuses_400 ⟨Nat.le_of_ble_eq_true rfl, Nat.le_of_ble_eq_true rfl⟩ [1, 2, 3, 4, 5, 6, 7, 8, 9, 10, 11, 12, 13, 14, 15, 16, 17] [0] [0, 1, 2, 3, 4, 5, 6, 7, 8, 9, 10, 11, 12, 13, 14, 15, 16, 17] (by decide) rfl rfl (by decide) (by decide) (by decide) rfl (fun H locs hP hD hS hz => ?_)
    have hG : s.heap.size + 22 ≤ H.size := Nat.le_trans (Nat.add_le_add_right hG 1) hz
    refine W.eq (g2 := F0 m 403 ls [.int (cdx 1)]) rfl ?_
    refine lv_ldc (v := (-2000000001)) hx hb hown (hts _ (List.mem_of_getElem? (i := 1) (by decide +kernel))) dL_refuses_403 ?_
    refine lv_icmp_ne (tgt := 670) hx hb dL_refuses_405 (by decide) (fun c_405 => by exact absurd cdx_1 c_405) (fun c_405 => ?_)
    refine lv_aload_n hx hb dL_refuses_408 rfl (lv_at hl 0 rfl) ?_
    refine lv_iload_n hx hb dL_refuses_409 rfl (lv_at hl 2 rfl) ?_
    refine lv_iconst (v := nI 4) hx hb dL_refuses_410 (by decide +kernel) ?_
    refine l_irem hx hb dL_refuses_411 (by omega) (by decide) (by decide) ?_
    refine lv_iconst (v := (-1)) hx hb dL_refuses_412 (by decide +kernel) ?_
    refine lv_iload hx hb dL_refuses_413 (lv_at hl 4 rfl) ?_
    refine g_callSWB (As := [.ref (q 0), .int (nI (X % 4)), .int (-1), .int none]) (rest := []) (wr := [(qn, .inl (cI, 1, .inl g))]) (wn := NW cI cZ q qn (g, u)) hx hb hml hown hts (tx_moves l hst D cI cZ q u n hn h60 w hw (Nat.le_of_lt hw3) (nI (X % 4)) (-1) none (z := 1) (fz_mv (Or.inr (Or.inr (coN_no hn1 hno)))) (by decide)) gL_refuses_L_moves rfl rfl rfl hdL_moves ⟨Nat.le_of_ble_eq_true rfl, Nat.le_of_ble_eq_true rfl⟩ LE_em hE XT_tm hXT hP hK hD hS hA rfl hl.1 rfl (Nat.le_of_ble_eq_true rfl) dL_refuses_415 ⟨Nat.le_of_ble_eq_true rfl, Nat.le_of_ble_eq_true rfl⟩ [1, 2, 3, 4, 5, 6, 7, 8, 9, 10, 11, 12, 13, 14, 15, 16, 17] [0] [0, 1, 2, 3, 4, 5, 6, 7, 8, 9, 10, 11, 12, 13, 14, 15, 16, 17] (by decide) rfl rfl (by decide) (by decide) (by decide) rfl (fun H locs hP hD hS hz => ?_)
    have hG : s.heap.size + 23 ≤ H.size := Nat.le_trans (Nat.add_le_add_right hG 1) hz
    refine W.eq (g2 := F0 m 418 ls [.int (cdx 1)]) rfl ?_
    refine lv_ldc (v := (-2000000001)) hx hb hown (hts _ (List.mem_of_getElem? (i := 1) (by decide +kernel))) dL_refuses_418 ?_
    refine lv_icmp_ne (tgt := 670) hx hb dL_refuses_420 (by decide) (fun c_420 => by exact absurd cdx_1 c_420) (fun c_420 => ?_)
    refine lv_aload_n hx hb dL_refuses_423 rfl (lv_at hl 0 rfl) ?_
    refine lv_iload hx hb dL_refuses_424 (lv_at hl 5 rfl) ?_
    refine g_callSWB (As := [.ref (q 0), .int store]) (rest := []) (wr := [(qn, .inl (cI, 1, .inl g))]) (wn := NW cI cZ q qn (g, u)) hx hb hml hown hts (tx_collects l hst D cI cZ q u store (z := 1) (if_pos hs2) (by decide)) gL_refuses_L_collects rfl rfl rfl hdL_collects ⟨Nat.le_of_ble_eq_true rfl, Nat.le_of_ble_eq_true rfl⟩ LE_em hE XT_tm hXT hP hK hD hS hA rfl hl.1 rfl (Nat.le_of_ble_eq_true rfl) dL_refuses_426 ⟨Nat.le_of_ble_eq_true rfl, Nat.le_of_ble_eq_true rfl⟩ [1, 2, 3, 4, 5, 6, 7, 8, 9, 10, 11, 12, 13, 14, 15, 16, 17] [0] [0, 1, 2, 3, 4, 5, 6, 7, 8, 9, 10, 11, 12, 13, 14, 15, 16, 17] (by decide) rfl rfl (by decide) (by decide) (by decide) rfl (fun H locs hP hD hS hz => ?_)
    have hG : s.heap.size + 24 ≤ H.size := Nat.le_trans (Nat.add_le_add_right hG 1) hz
    refine W.eq (g2 := F0 m 429 ls [.int (cdx 1)]) rfl ?_
    refine lv_ldc (v := (-2000000001)) hx hb hown (hts _ (List.mem_of_getElem? (i := 1) (by decide +kernel))) dL_refuses_429 ?_
    refine lv_icmp_ne (tgt := 670) hx hb dL_refuses_431 (by decide) (fun c_431 => by exact absurd cdx_1 c_431) (fun c_431 => ?_)
    refine lv_aload_n hx hb dL_refuses_434 rfl (lv_at hl 0 rfl) ?_
    refine lv_iload hx hb dL_refuses_435 (lv_at hl 5 rfl) ?_
    refine lv_iconst (v := nI 0) hx hb dL_refuses_437 (by decide +kernel) ?_
    refine g_callSWB (As := [.ref (q 0), .int store, .int (nI 0)]) (rest := []) (wr := [(qn, .inl (cI, 1, .inl g))]) (wn := NW cI cZ q qn (g, u)) hx hb hml hown hts (tx_has l hst D cI cZ q u n hn h60 store (nI 0) (z := 1) (if_pos hs2) (by decide)) gL_refuses_L_has rfl rfl rfl hdL_has ⟨Nat.le_of_ble_eq_true rfl, Nat.le_of_ble_eq_true rfl⟩ LE_em hE XT_tm hXT hP hK hD hS hA rfl hl.1 rfl (Nat.le_of_ble_eq_true rfl) dL_refuses_438 ⟨Nat.le_of_ble_eq_true rfl, Nat.le_of_ble_eq_true rfl⟩ [1, 2, 3, 4, 5, 6, 7, 8, 9, 10, 11, 12, 13, 14, 15, 16, 17] [0] [0, 1, 2, 3, 4, 5, 6, 7, 8, 9, 10, 11, 12, 13, 14, 15, 16, 17] (by decide) rfl rfl (by decide) (by decide) (by decide) rfl (fun H locs hP hD hS hz => ?_)
    have hG : s.heap.size + 25 ≤ H.size := Nat.le_trans (Nat.add_le_add_right hG 1) hz
    refine W.eq (g2 := F0 m 441 ls [.int (cdx 1)]) rfl ?_
    refine lv_ldc (v := (-2000000001)) hx hb hown (hts _ (List.mem_of_getElem? (i := 1) (by decide +kernel))) dL_refuses_441 ?_
    refine lv_icmp_ne (tgt := 670) hx hb dL_refuses_443 (by decide) (fun c_443 => by exact absurd cdx_1 c_443) (fun c_443 => ?_)
    refine lv_aload_n hx hb dL_refuses_446 rfl (lv_at hl 0 rfl) ?_
    refine lv_iconst (v := nI 0) hx hb dL_refuses_447 (by decide +kernel) ?_
    refine lv_iload hx hb dL_refuses_448 (lv_at hl 4 rfl) ?_
    refine g_callSWB (As := [.ref (q 0), .int (nI 0), .int none]) (rest := []) (wr := [(qn, .inl (cI, 1, .inl g))]) (wn := NW cI cZ q qn (g, u)) hx hb hml hown hts (tx_has l hst D cI cZ q u n hn h60 (nI 0) none (z := 1) (fz_b (by omega) hno _ _) (by decide)) gL_refuses_L_has rfl rfl rfl hdL_has ⟨Nat.le_of_ble_eq_true rfl, Nat.le_of_ble_eq_true rfl⟩ LE_em hE XT_tm hXT hP hK hD hS hA rfl hl.1 rfl (Nat.le_of_ble_eq_true rfl) dL_refuses_450 ⟨Nat.le_of_ble_eq_true rfl, Nat.le_of_ble_eq_true rfl⟩ [1, 2, 3, 4, 5, 6, 7, 8, 9, 10, 11, 12, 13, 14, 15, 16, 17] [0] [0, 1, 2, 3, 4, 5, 6, 7, 8, 9, 10, 11, 12, 13, 14, 15, 16, 17] (by decide) rfl rfl (by decide) (by decide) (by decide) rfl (fun H locs hP hD hS hz => ?_)
    have hG : s.heap.size + 26 ≤ H.size := Nat.le_trans (Nat.add_le_add_right hG 1) hz
    refine W.eq (g2 := F0 m 453 ls [.int (cdx 1)]) rfl ?_
    refine lv_ldc (v := (-2000000001)) hx hb hown (hts _ (List.mem_of_getElem? (i := 1) (by decide +kernel))) dL_refuses_453 ?_
    refine lv_icmp_ne (tgt := 670) hx hb dL_refuses_455 (by decide) (fun c_455 => by exact absurd cdx_1 c_455) (fun c_455 => ?_)
    refine lv_aload_n hx hb dL_refuses_458 rfl (lv_at hl 0 rfl) ?_
    refine lv_iload hx hb dL_refuses_459 (lv_at hl 5 rfl) ?_
    refine lv_sipush (v := nI 999) hx hb dL_refuses_461 (by decide +kernel) ?_
    refine g_callSWB (As := [.ref (q 0), .int store, .int (nI 999)]) (rest := []) (wr := [(qn, .inl (cI, 1, .inl g))]) (wn := NW cI cZ q qn (g, u)) hx hb hml hown hts (tx_hasFile l hst D cI cZ q u store (nI 999) (z := 1) (if_pos hs2) (by decide)) gL_refuses_L_hasFile rfl rfl rfl hdL_hasFile ⟨Nat.le_of_ble_eq_true rfl, Nat.le_of_ble_eq_true rfl⟩ LE_em hE XT_tm hXT hP hK hD hS hA rfl hl.1 rfl (Nat.le_of_ble_eq_true rfl) dL_refuses_464 ⟨Nat.le_of_ble_eq_true rfl, Nat.le_of_ble_eq_true rfl⟩ [1, 2, 3, 4, 5, 6, 7, 8, 9, 10, 11, 12, 13, 14, 15, 16, 17] [0] [0, 1, 2, 3, 4, 5, 6, 7, 8, 9, 10, 11, 12, 13, 14, 15, 16, 17] (by decide) rfl rfl (by decide) (by decide) (by decide) rfl (fun H locs hP hD hS hz => ?_)
    have hG : s.heap.size + 27 ≤ H.size := Nat.le_trans (Nat.add_le_add_right hG 1) hz
    refine W.eq (g2 := F0 m 467 ls [.int (cdx 1)]) rfl ?_
    refine lv_ldc (v := (-2000000001)) hx hb hown (hts _ (List.mem_of_getElem? (i := 1) (by decide +kernel))) dL_refuses_467 ?_
    refine lv_icmp_ne (tgt := 670) hx hb dL_refuses_469 (by decide) (fun c_469 => by exact absurd cdx_1 c_469) (fun c_469 => ?_)
    refine lv_aload_n hx hb dL_refuses_472 rfl (lv_at hl 0 rfl) ?_
    refine lv_iload_n hx hb dL_refuses_473 rfl (lv_at hl 2 rfl) ?_
    refine lv_iconst (v := nI 2) hx hb dL_refuses_474 (by decide +kernel) ?_
    refine l_irem hx hb dL_refuses_475 (by omega) (by decide) (by decide) ?_
    refine lv_bipush (v := nI 100) hx hb dL_refuses_476 (by decide +kernel) ?_
    refine lv_iload_n hx hb dL_refuses_478 rfl (lv_at hl 2 rfl) ?_
    refine l_iadd hx hb dL_refuses_479 ?_
    refine g_callSWB (As := [.ref (q 0), .int (nI (X % 2)), .int (nI (100 + X))]) (rest := []) (wr := [(qn, .inl (cI, 1, .inl g))]) (wn := NW cI cZ q qn (g, u)) hx hb hml hown hts (tx_hasFile l hst D cI cZ q u (nI (X % 2)) (nI (100 + X)) (z := 2) (fz_b (by omega) (xR_big (n := 100) (by omega) (by omega)) _ _) (by decide)) gL_refuses_L_hasFile rfl rfl rfl hdL_hasFile ⟨Nat.le_of_ble_eq_true rfl, Nat.le_of_ble_eq_true rfl⟩ LE_em hE XT_tm hXT hP hK hD hS hA rfl hl.1 rfl (Nat.le_of_ble_eq_true rfl) dL_refuses_480 ⟨Nat.le_of_ble_eq_true rfl, Nat.le_of_ble_eq_true rfl⟩ [1, 2, 3, 4, 5, 6, 7, 8, 9, 10, 11, 12, 13, 14, 15, 16, 17] [0] [0, 1, 2, 3, 4, 5, 6, 7, 8, 9, 10, 11, 12, 13, 14, 15, 16, 17] (by decide) rfl rfl (by decide) (by decide) (by decide) rfl (fun H locs hP hD hS hz => ?_)
    have hG : s.heap.size + 28 ≤ H.size := Nat.le_trans (Nat.add_le_add_right hG 1) hz
    refine W.eq (g2 := F0 m 483 ls [.int (cdx 2)]) rfl ?_
    refine lv_ldc (v := (-2000000002)) hx hb hown (hts _ (List.mem_of_getElem? (i := 2) (by decide +kernel))) dL_refuses_483 ?_
    refine lv_icmp_ne (tgt := 670) hx hb dL_refuses_485 (by decide) (fun c_485 => by exact absurd cdx_2 c_485) (fun c_485 => ?_)
    refine lv_aload_n hx hb dL_refuses_488 rfl (lv_at hl 0 rfl) ?_
    refine lv_iload_n hx hb dL_refuses_489 rfl (lv_at hl 2 rfl) ?_
    refine lv_iconst (v := nI 2) hx hb dL_refuses_490 (by decide +kernel) ?_
    refine l_irem hx hb dL_refuses_491 (by omega) (by decide) (by decide) ?_
    refine lv_iconst (v := (-1)) hx hb dL_refuses_492 (by decide +kernel) ?_
    refine lv_iload_n hx hb dL_refuses_493 rfl (lv_at hl 2 rfl) ?_
    refine lv_isub hx hb dL_refuses_494 ?_
    refine g_callSWB (As := [.ref (q 0), .int (nI (X % 2)), .int ((-1) - (nI X))]) (rest := []) (wr := [(qn, .inl (cI, 1, .inl g))]) (wn := NW cI cZ q qn (g, u)) hx hb hml hown hts (tx_hasFile l hst D cI cZ q u (nI (X % 2)) ((-1) - (nI X)) (z := 2) (fz_b (by omega) (xR_neg _ (n_sub_neg (a := 1) (by omega) (by omega) (by omega) toInt_m1)) _ _) (by decide)) gL_refuses_L_hasFile rfl rfl rfl hdL_hasFile ⟨Nat.le_of_ble_eq_true rfl, Nat.le_of_ble_eq_true rfl⟩ LE_em hE XT_tm hXT hP hK hD hS hA rfl hl.1 rfl (Nat.le_of_ble_eq_true rfl) dL_refuses_495 ⟨Nat.le_of_ble_eq_true rfl, Nat.le_of_ble_eq_true rfl⟩ [1, 2, 3, 4, 5, 6, 7, 8, 9, 10, 11, 12, 13, 14, 15, 16, 17] [0] [0, 1, 2, 3, 4, 5, 6, 7, 8, 9, 10, 11, 12, 13, 14, 15, 16, 17] (by decide) rfl rfl (by decide) (by decide) (by decide) rfl (fun H locs hP hD hS hz => ?_)
    have hG : s.heap.size + 29 ≤ H.size := Nat.le_trans (Nat.add_le_add_right hG 1) hz
    refine W.eq (g2 := F0 m 498 ls [.int (cdx 2)]) rfl ?_
    refine lv_ldc (v := (-2000000002)) hx hb hown (hts _ (List.mem_of_getElem? (i := 2) (by decide +kernel))) dL_refuses_498 ?_
    refine lv_icmp_ne (tgt := 670) hx hb dL_refuses_500 (by decide) (fun c_500 => by exact absurd cdx_2 c_500) (fun c_500 => ?_)
    refine lv_aload_n hx hb dL_refuses_503 rfl (lv_at hl 0 rfl) ?_
    refine lv_iload hx hb dL_refuses_504 (lv_at hl 4 rfl) ?_
    refine g_callSWB (As := [.ref (q 0), .int none]) (rest := []) (wr := [(qn, .inl (cI, 1, .inl g))]) (wn := NW cI cZ q qn (g, u)) hx hb hml hown hts (tx_shallow l hst D cI cZ q u n hn h60 none (z := 1) (if_pos hno) (by decide)) gL_refuses_L_shallow rfl rfl rfl hdL_shallow ⟨Nat.le_of_ble_eq_true rfl, Nat.le_of_ble_eq_true rfl⟩ LE_em hE XT_tm hXT hP hK hD hS hA rfl hl.1 rfl (Nat.le_of_ble_eq_true rfl) dL_refuses_506 ⟨Nat.le_of_ble_eq_true rfl, Nat.le_of_ble_eq_true rfl⟩ [1, 2, 3, 4, 5, 6, 7, 8, 9, 10, 11, 12, 13, 14, 15, 16, 17] [0] [0, 1, 2, 3, 4, 5, 6, 7, 8, 9, 10, 11, 12, 13, 14, 15, 16, 17] (by decide) rfl rfl (by decide) (by decide) (by decide) rfl (fun H locs hP hD hS hz => ?_)
    have hG : s.heap.size + 30 ≤ H.size := Nat.le_trans (Nat.add_le_add_right hG 1) hz
    refine W.eq (g2 := F0 m 509 ls [.int (cdx 1)]) rfl ?_
    refine lv_ldc (v := (-2000000001)) hx hb hown (hts _ (List.mem_of_getElem? (i := 1) (by decide +kernel))) dL_refuses_509 ?_
    refine lv_icmp_ne (tgt := 670) hx hb dL_refuses_511 (by decide) (fun c_511 => by exact absurd cdx_1 c_511) (fun c_511 => ?_)
    refine lv_aload_n hx hb dL_refuses_514 rfl (lv_at hl 0 rfl) ?_
    refine lv_iload hx hb dL_refuses_515 (lv_at hl 5 rfl) ?_
    refine lv_iconst (v := nI 0) hx hb dL_refuses_517 (by decide +kernel) ?_
    refine lv_iconst (v := nI 0) hx hb dL_refuses_518 (by decide +kernel) ?_
    refine g_callSWB (As := [.ref (q 0), .int store, .int (nI 0), .int (nI 0)]) (rest := []) (wr := [(qn, .inl (cI, 1, .inl g))]) (wn := NW cI cZ q qn (g, u)) hx hb hml hown hts (tx_ancestor l hst D cI cZ q u n hn h60 store (nI 0) (nI 0) (z := 1) (if_pos hs2) (by decide)) gL_refuses_L_ancestor rfl rfl rfl hdL_ancestor ⟨Nat.le_of_ble_eq_true rfl, Nat.le_of_ble_eq_true rfl⟩ LE_em hE XT_tm hXT hP hK hD hS hA rfl hl.1 rfl (Nat.le_of_ble_eq_true rfl) dL_refuses_519 ⟨Nat.le_of_ble_eq_true rfl, Nat.le_of_ble_eq_true rfl⟩ [1, 2, 3, 4, 5, 6, 7, 8, 9, 10, 11, 12, 13, 14, 15, 16, 17] [0] [0, 1, 2, 3, 4, 5, 6, 7, 8, 9, 10, 11, 12, 13, 14, 15, 16, 17] (by decide) rfl rfl (by decide) (by decide) (by decide) rfl (fun H locs hP hD hS hz => ?_)
    have hG : s.heap.size + 31 ≤ H.size := Nat.le_trans (Nat.add_le_add_right hG 1) hz
    refine W.eq (g2 := F0 m 522 ls [.int (cdx 1)]) rfl ?_
    refine lv_ldc (v := (-2000000001)) hx hb hown (hts _ (List.mem_of_getElem? (i := 1) (by decide +kernel))) dL_refuses_522 ?_
    refine lv_icmp_ne (tgt := 670) hx hb dL_refuses_524 (by decide) (fun c_524 => by exact absurd cdx_1 c_524) (fun c_524 => ?_)
    refine lv_aload_n hx hb dL_refuses_527 rfl (lv_at hl 0 rfl) ?_
    refine lv_iload_n hx hb dL_refuses_528 rfl (lv_at hl 2 rfl) ?_
    refine lv_iconst (v := nI 2) hx hb dL_refuses_529 (by decide +kernel) ?_
    refine l_irem hx hb dL_refuses_530 (by omega) (by decide) (by decide) ?_
    refine lv_iload hx hb dL_refuses_531 (lv_at hl 4 rfl) ?_
    refine lv_iconst (v := nI 0) hx hb dL_refuses_533 (by decide +kernel) ?_
    refine g_callSWB (As := [.ref (q 0), .int (nI (X % 2)), .int none, .int (nI 0)]) (rest := []) (wr := [(qn, .inl (cI, 1, .inl g))]) (wn := NW cI cZ q qn (g, u)) hx hb hml hown hts (tx_ancestor l hst D cI cZ q u n hn h60 (nI (X % 2)) none (nI 0) (z := 1) (by rw [fS_b (by omega)]; exact fz_anc (Or.inl hno)) (by decide)) gL_refuses_L_ancestor rfl rfl rfl hdL_ancestor ⟨Nat.le_of_ble_eq_true rfl, Nat.le_of_ble_eq_true rfl⟩ LE_em hE XT_tm hXT hP hK hD hS hA rfl hl.1 rfl (Nat.le_of_ble_eq_true rfl) dL_refuses_534 ⟨Nat.le_of_ble_eq_true rfl, Nat.le_of_ble_eq_true rfl⟩ [1, 2, 3, 4, 5, 6, 7, 8, 9, 10, 11, 12, 13, 14, 15, 16, 17] [0] [0, 1, 2, 3, 4, 5, 6, 7, 8, 9, 10, 11, 12, 13, 14, 15, 16, 17] (by decide) rfl rfl (by decide) (by decide) (by decide) rfl (fun H locs hP hD hS hz => ?_)
    have hG : s.heap.size + 32 ≤ H.size := Nat.le_trans (Nat.add_le_add_right hG 1) hz
    refine W.eq (g2 := F0 m 537 ls [.int (cdx 1)]) rfl ?_
    refine lv_ldc (v := (-2000000001)) hx hb hown (hts _ (List.mem_of_getElem? (i := 1) (by decide +kernel))) dL_refuses_537 ?_
    refine lv_icmp_ne (tgt := 670) hx hb dL_refuses_539 (by decide) (fun c_539 => by exact absurd cdx_1 c_539) (fun c_539 => ?_)
    refine lv_aload_n hx hb dL_refuses_542 rfl (lv_at hl 0 rfl) ?_
    refine lv_iload_n hx hb dL_refuses_543 rfl (lv_at hl 2 rfl) ?_
    refine lv_iconst (v := nI 2) hx hb dL_refuses_544 (by decide +kernel) ?_
    refine l_irem hx hb dL_refuses_545 (by omega) (by decide) (by decide) ?_
    refine lv_iconst (v := nI 0) hx hb dL_refuses_546 (by decide +kernel) ?_
    refine lv_iload hx hb dL_refuses_547 (lv_at hl 4 rfl) ?_
    refine g_callSWB (As := [.ref (q 0), .int (nI (X % 2)), .int (nI 0), .int none]) (rest := []) (wr := [(qn, .inl (cI, 1, .inl g))]) (wn := NW cI cZ q qn (g, u)) hx hb hml hown hts (tx_ancestor l hst D cI cZ q u n hn h60 (nI (X % 2)) (nI 0) none (z := 1) (by rw [fS_b (by omega)]; exact fz_anc (Or.inr hno)) (by decide)) gL_refuses_L_ancestor rfl rfl rfl hdL_ancestor ⟨Nat.le_of_ble_eq_true rfl, Nat.le_of_ble_eq_true rfl⟩ LE_em hE XT_tm hXT hP hK hD hS hA rfl hl.1 rfl (Nat.le_of_ble_eq_true rfl) dL_refuses_549 ⟨Nat.le_of_ble_eq_true rfl, Nat.le_of_ble_eq_true rfl⟩ [1, 2, 3, 4, 5, 6, 7, 8, 9, 10, 11, 12, 13, 14, 15, 16, 17] [0] [0, 1, 2, 3, 4, 5, 6, 7, 8, 9, 10, 11, 12, 13, 14, 15, 16, 17] (by decide) rfl rfl (by decide) (by decide) (by decide) rfl (fun H locs hP hD hS hz => ?_)
    have hG : s.heap.size + 33 ≤ H.size := Nat.le_trans (Nat.add_le_add_right hG 1) hz
    refine W.eq (g2 := F0 m 552 ls [.int (cdx 1)]) rfl ?_
    refine lv_ldc (v := (-2000000001)) hx hb hown (hts _ (List.mem_of_getElem? (i := 1) (by decide +kernel))) dL_refuses_552 ?_
    refine lv_icmp_ne (tgt := 670) hx hb dL_refuses_554 (by decide) (fun c_554 => by exact absurd cdx_1 c_554) (fun c_554 => ?_)
    refine lv_aload_n hx hb dL_refuses_557 rfl (lv_at hl 1 rfl) ?_
    refine lv_iconst (v := nI 0) hx hb dL_refuses_558 (by decide +kernel) ?_
    refine g_iald (wd := NW cI cZ q qn) (u := (g, u)) (n := 1) (f := g) hx hb hK hP 0 0 rfl rfl 0 (by omega) (by omega) rfl dL_refuses_559 ?_
    refine W.eq (g2 := F0 m 560 ls [.int (nI w)]) (by rw [hg]) ?_
    refine lv_iconst (v := nI 3) hx hb dL_refuses_560 (by decide +kernel) ?_
    refine lv_icmp_lt (tgt := 578) hx hb dL_refuses_561 (by decide) (fun c_561 => ?_) (fun c_561 => by have n_561 : ¬ w < 3 := fun h => c_561 ((g_ltI (a := w) (b := 3) rfl rfl (by omega) (by decide)).mpr h); exfalso; omega)
    have n_561 : w < 3 := (g_ltI (a := w) (b := 3) rfl rfl (by omega) (by decide)).mp c_561
    refine lv_iload hx hb dL_refuses_578 (lv_at hl 3 rfl) ?_
    refine lv_bipush (v := nI 60) hx hb dL_refuses_580 (by decide +kernel) ?_
    refine lv_icmp_lt (tgt := 601) hx hb dL_refuses_582 (by decide) (fun c_582 => ?_) (fun c_582 => by have n_582 : ¬ n < 60 := fun h => c_582 ((g_ltI (a := n) (b := 60) rfl rfl (by omega) (by decide)).mpr h); exfalso; omega)
    have n_582 : n < 60 := (g_ltI (a := n) (b := 60) rfl rfl (by omega) (by decide)).mp c_582
    have j640 : ∀  (H : Heap) (locs : List Loc) (ls : Array Slot) (hP : va_P D vwCl (NW cI cZ q qn (g, u)) H) (hD : va_D A (NW cI cZ q qn (g, u))) (hS : va_S A s.heap H locs) (hl : lv_has ls 12 [(0, .ref (q 0)), (1, .ref qn), (2, .int (nI X)), (4, .int (nI n)), (5, .int none), (6, .int store), (7, .int ref)]) (hG : s.heap.size + 33 ≤ H.size), W p l e rmL_refuses s m ([.ref (q 0), .ref qn, .int (nI X)] : List Value).toArray below meth c H locs 35 210 Q (F0 m 640 ls []) := by
      intro  H locs ls hP hD hS hl hG
      have j666 : ∀  (H : Heap) (locs : List Loc) (ls : Array Slot) (hP : va_P D vwCl (NW cI cZ q qn (g, u)) H) (hD : va_D A (NW cI cZ q qn (g, u))) (hS : va_S A s.heap H locs) (hl : lv_has ls 12 [(0, .ref (q 0)), (1, .ref qn), (2, .int (nI X)), (4, .int (nI n)), (5, .int none), (6, .int store), (7, .int ref)]) (hG : s.heap.size + 33 ≤ H.size), W p l e rmL_refuses s m ([.ref (q 0), .ref qn, .int (nI X)] : List Value).toArray below meth c H locs 36 216 Q (F0 m 666 ls []) := by
        intro  H locs ls hP hD hS hl hG
        refine lv_iconst (v := nI 1) hx hb dL_refuses_666 (by decide +kernel) ?_
        refine lv_goto (tgt := 671) hx hb dL_refuses_667 (by decide) ?_
        have j815 : ∀  (H : Heap) (locs : List Loc) (ls : Array Slot) (hP : va_P D vwCl (NW cI cZ q qn (g, u)) H) (hD : va_D A (NW cI cZ q qn (g, u))) (hS : va_S A s.heap H locs) (hl : lv_has ls 12 [(0, .ref (q 0)), (8, .int (nI 1))]) (hG : s.heap.size + 33 ≤ H.size), W p l e rmL_refuses s m ([.ref (q 0), .ref qn, .int (nI X)] : List Value).toArray below meth c H locs 40 240 Q (F0 m 815 ls []) := by
          intro  H locs ls hP hD hS hl hG
          refine lv_iload hx hb dL_refuses_815 (lv_at hl 1 rfl) ?_
          exact g_retB (u1 := (g, u)) hx hb hret (g_nar01 _ (Or.inr rfl)) hlk hQ (by omega) (by omega) hP hD hS (Nat.le_trans (Nat.add_le_add_left (by omega) _) hG) dL_refuses_817 rfl rfl
        refine lv_istore (lv' := [(8, .int (nI 1)), (0, .ref (q 0)), (1, .ref qn), (2, .int (nI X)), (4, .int (nI n)), (5, .int none), (6, .int store), (7, .int ref)]) hx hb dL_refuses_671 hl (by decide) rfl (fun ls hl => ?_)
        refine lv_iload hx hb dL_refuses_673 (lv_at hl 0 rfl) ?_
        refine lv_if_eq (tgt := 815) hx hb dL_refuses_675 (by decide) (fun c_675 => by have n_675 : 1 = 0 := (g_eqI (a := 1) (b := 0) rfl rfl (by decide) (by decide)).mp c_675; exfalso; omega) (fun c_675 => ?_)
        have n_675 : ¬ 1 = 0 := fun h => c_675 ((g_eqI (a := 1) (b := 0) rfl rfl (by decide) (by decide)).mpr h)
        refine lv_iload hx hb dL_refuses_678 (lv_at hl 4 rfl) ?_
        refine lv_if_le (tgt := 815) hx hb dL_refuses_680 (by decide) (fun c_680 => ?_) (fun c_680 => ?_)
        · have n_680 : n ≤ 0 := (g_leI (a := n) (b := 0) rfl rfl (by omega) (by decide)).mp c_680
          exact W.widen (by omega) (by omega) (j815  _ _ _ hP hD hS (lv_sub hl [1, 0] rfl) (Nat.le_trans (Nat.add_le_add_left (by omega) _) hG) )
        · have n_680 : ¬ n ≤ 0 := fun h => c_680 ((g_leI (a := n) (b := 0) rfl rfl (by omega) (by decide)).mpr h)
          refine lv_iload_n hx hb dL_refuses_683 rfl (lv_at hl 3 rfl) ?_
          refine lv_iconst (v := nI 2) hx hb dL_refuses_684 (by decide +kernel) ?_
          refine l_idiv hx hb dL_refuses_685 (by omega) (by decide) (by decide) ?_
          refine lv_iload hx hb dL_refuses_686 (lv_at hl 4 rfl) ?_
          refine l_irem hx hb dL_refuses_688 (by omega) (by omega) (by omega) ?_
          refine lv_istore (lv' := [(9, .int (nI ((X / 2) % n))), (8, .int (nI 1)), (0, .ref (q 0)), (1, .ref qn), (2, .int (nI X)), (4, .int (nI n)), (5, .int none), (6, .int store), (7, .int ref)]) hx hb dL_refuses_689 hl (by decide) rfl (fun ls hl => ?_)
          refine lv_iconst (v := nI 0) hx hb dL_refuses_691 (by decide +kernel) ?_
          refine lv_istore (lv' := [(10, .int (nI 0)), (9, .int (nI ((X / 2) % n))), (8, .int (nI 1)), (0, .ref (q 0)), (1, .ref qn), (2, .int (nI X)), (4, .int (nI n)), (5, .int none), (6, .int store), (7, .int ref)]) hx hb dL_refuses_692 hl (by decide) rfl (fun ls hl => ?_)
          refine lv_iload hx hb dL_refuses_694 (lv_at hl 0 rfl) ?_
          refine lv_iconst (v := nI 2) hx hb dL_refuses_696 (by decide +kernel) ?_
          refine lv_icmp_ge (tgt := 815) hx hb dL_refuses_697 (by decide) (fun c_697 => by have n_697 : 2 ≤ 0 := (g_leI (a := 2) (b := 0) rfl rfl (by decide) (by decide)).mp c_697; exfalso; omega) (fun c_697 => ?_)
          have n_697 : ¬ 2 ≤ 0 := fun h => c_697 ((g_leI (a := 2) (b := 0) rfl rfl (by decide) (by decide)).mpr h)
          refine lv_iload hx hb dL_refuses_700 (lv_at hl 2 rfl) ?_
          refine lv_if_eq (tgt := 815) hx hb dL_refuses_702 (by decide) (fun c_702 => by have n_702 : 1 = 0 := (g_eqI (a := 1) (b := 0) rfl rfl (by decide) (by decide)).mp c_702; exfalso; omega) (fun c_702 => ?_)
          have n_702 : ¬ 1 = 0 := fun h => c_702 ((g_eqI (a := 1) (b := 0) rfl rfl (by decide) (by decide)).mpr h)
          refine lv_aload_n hx hb dL_refuses_705 rfl (lv_at hl 3 rfl) ?_
          refine lv_iload hx hb dL_refuses_706 (lv_at hl 0 rfl) ?_
          refine lv_iload hx hb dL_refuses_708 (lv_at hl 1 rfl) ?_
          refine g_callSWB (As := [.ref (q 0), .int (nI 0), .int (nI ((X / 2) % n))]) (rest := []) (wr := [(qn, .inl (cI, 1, .inl g))]) (wn := NW cI cZ q qn (g, u)) hx hb hml hown hts (lr_has l D cI cZ q u n hn h60 0 (by omega) (nI ((X / 2) % n)) (xR_in (Nat.mod_lt _ (by omega)) (by omega))) gL_refuses_L_has rfl rfl rfl hdL_has ⟨Nat.le_of_ble_eq_true rfl, Nat.le_of_ble_eq_true rfl⟩ LE_em hE XT_tm hXT hP hK hD hS hA rfl hl.1 rfl (Nat.le_of_ble_eq_true rfl) dL_refuses_710 ⟨Nat.le_of_ble_eq_true rfl, Nat.le_of_ble_eq_true rfl⟩ [1, 2, 3, 4, 5, 6, 7, 8, 9, 10, 11, 12, 13, 14, 15, 16, 17] [0] [0, 1, 2, 3, 4, 5, 6, 7, 8, 9, 10, 11, 12, 13, 14, 15, 16, 17] (by decide) rfl rfl (by decide) (by decide) (by decide) rfl (fun H locs hP hD hS hz => ?_)
          have hG : s.heap.size + 33 ≤ H.size := Nat.le_trans hG hz
          refine W.eq (g2 := F0 m 713 ls [.int (xCon (u.2 0) (nI ((X / 2) % n)))]) rfl ?_
          refine lv_iconst (v := nI 1) hx hb dL_refuses_713 (by decide +kernel) ?_
          refine lv_icmp_ne (tgt := 721) hx hb dL_refuses_714 (by decide) (fun c_714 => ?_) (fun c_714 => ?_)
          · refine lv_iconst (v := nI 0) hx hb dL_refuses_721 (by decide +kernel) ?_
            refine lv_istore (lv' := [(11, .int (nI 0)), (10, .int (nI 0)), (9, .int (nI ((X / 2) % n))), (8, .int (nI 1)), (0, .ref (q 0)), (1, .ref qn), (2, .int (nI X)), (4, .int (nI n)), (5, .int none), (6, .int store), (7, .int ref)]) hx hb dL_refuses_722 hl (by decide) rfl (fun ls hl => ?_)
            refine lv_iload hx hb dL_refuses_724 (lv_at hl 0 rfl) ?_
            refine lv_if_eq (tgt := 770) hx hb dL_refuses_726 (by decide) (fun c_726 => ?_) (fun c_726 => by have n_726 : ¬ 0 = 0 := fun h => c_726 ((g_eqI (a := 0) (b := 0) rfl rfl (by decide) (by decide)).mpr h); exfalso; omega)
            have n_726 : 0 = 0 := (g_eqI (a := 0) (b := 0) rfl rfl (by decide) (by decide)).mp c_726
            refine lv_aload_n hx hb dL_refuses_770 rfl (lv_at hl 4 rfl) ?_
            refine lv_iload hx hb dL_refuses_771 (lv_at hl 1 rfl) ?_
            refine lv_iload hx hb dL_refuses_773 (lv_at hl 2 rfl) ?_
            refine lv_iconst (v := (-1)) hx hb dL_refuses_775 (by decide +kernel) ?_
            refine lv_iconst (v := nI 0) hx hb dL_refuses_776 (by decide +kernel) ?_
            refine lv_iconst (v := nI 0) hx hb dL_refuses_777 (by decide +kernel) ?_
            refine g_callSWB (As := [.ref (q 0), .int (nI 0), .int (nI ((X / 2) % n)), .int (-1), .int (nI 0), .int (nI 0)]) (rest := []) (wr := [(qn, .inl (cI, 1, .inl g))]) (wn := NW cI cZ q qn (g, u)) hx hb hml hown hts (tx_makes l hst D cI cZ q u n hn h60 (nI 0) (nI ((X / 2) % n)) (-1) (nI 0) (nI 0) (z := 1) (fz_mk1 (by omega) (Or.inr (Or.inl (hoN_no (nI_m1 (by have := Nat.mod_lt (X / 2) (show n > 0 by omega); omega)) (one_01 (xCon_01 _ _) c_714))))) (by decide)) gL_refuses_L_makes rfl rfl rfl hdL_makes ⟨Nat.le_of_ble_eq_true rfl, Nat.le_of_ble_eq_true rfl⟩ LE_em hE XT_tm hXT hP hK hD hS hA rfl hl.1 rfl (Nat.le_of_ble_eq_true rfl) dL_refuses_778 ⟨Nat.le_of_ble_eq_true rfl, Nat.le_of_ble_eq_true rfl⟩ [1, 2, 3, 4, 5, 6, 7, 8, 9, 10, 11, 12, 13, 14, 15, 16, 17] [0] [0, 1, 2, 3, 4, 5, 6, 7, 8, 9, 10, 11, 12, 13, 14, 15, 16, 17] (by decide) rfl rfl (by decide) (by decide) (by decide) rfl (fun H locs hP hD hS hz => ?_)
            have hG : s.heap.size + 34 ≤ H.size := Nat.le_trans (Nat.add_le_add_right hG 1) hz
            refine W.eq (g2 := F0 m 781 ls [.int (cdx 1)]) rfl ?_
            refine lv_ldc (v := (-2000000001)) hx hb hown (hts _ (List.mem_of_getElem? (i := 1) (by decide +kernel))) dL_refuses_781 ?_
            refine lv_icmp_ne (tgt := 806) hx hb dL_refuses_783 (by decide) (fun c_783 => by exact absurd cdx_1 c_783) (fun c_783 => ?_)
            refine lv_aload_n hx hb dL_refuses_786 rfl (lv_at hl 4 rfl) ?_
            refine lv_iload hx hb dL_refuses_787 (lv_at hl 1 rfl) ?_
            refine lv_iload_n hx hb dL_refuses_789 rfl (lv_at hl 6 rfl) ?_
            refine lv_iconst (v := nI 4) hx hb dL_refuses_790 (by decide +kernel) ?_
            refine l_irem hx hb dL_refuses_791 (by omega) (by decide) (by decide) ?_
            refine lv_iload hx hb dL_refuses_792 (lv_at hl 2 rfl) ?_
            refine g_callSWB (As := [.ref (q 0), .int (nI 0), .int (nI (X % 4)), .int (nI ((X / 2) % n))]) (rest := []) (wr := [(qn, .inl (cI, 1, .inl g))]) (wn := NW cI cZ q qn (g, u)) hx hb hml hown hts (tx_sets l hst D cI cZ q u (nI 0) (nI (X % 4)) (nI ((X / 2) % n)) (z := 1) (fz_st (by omega) (Or.inr (hoN_no (nI_m1 (by have := Nat.mod_lt (X / 2) (show n > 0 by omega); omega)) (one_01 (xCon_01 _ _) c_714)))) (by decide)) gL_refuses_L_sets rfl rfl rfl hdL_sets ⟨Nat.le_of_ble_eq_true rfl, Nat.le_of_ble_eq_true rfl⟩ LE_em hE XT_tm hXT hP hK hD hS hA rfl hl.1 rfl (Nat.le_of_ble_eq_true rfl) dL_refuses_794 ⟨Nat.le_of_ble_eq_true rfl, Nat.le_of_ble_eq_true rfl⟩ [1, 2, 3, 4, 5, 6, 7, 8, 9, 10, 11, 12, 13, 14, 15, 16, 17] [0] [0, 1, 2, 3, 4, 5, 6, 7, 8, 9, 10, 11, 12, 13, 14, 15, 16, 17] (by decide) rfl rfl (by decide) (by decide) (by decide) rfl (fun H locs hP hD hS hz => ?_)
            have hG : s.heap.size + 35 ≤ H.size := Nat.le_trans (Nat.add_le_add_right hG 1) hz
            refine W.eq (g2 := F0 m 797 ls [.int (cdx 1)]) rfl ?_
            refine lv_ldc (v := (-2000000001)) hx hb hown (hts _ (List.mem_of_getElem? (i := 1) (by decide +kernel))) dL_refuses_797 ?_
            refine lv_icmp_ne (tgt := 806) hx hb dL_refuses_799 (by decide) (fun c_799 => by exact absurd cdx_1 c_799) (fun c_799 => ?_)
            refine lv_iconst (v := nI 1) hx hb dL_refuses_802 (by decide +kernel) ?_
            refine lv_goto (tgt := 807) hx hb dL_refuses_803 (by decide) ?_
            refine lv_istore (lv' := [(8, .int (nI 1)), (11, .int (nI 0)), (10, .int (nI 0)), (9, .int (nI ((X / 2) % n))), (0, .ref (q 0)), (1, .ref qn), (2, .int (nI X)), (4, .int (nI n)), (5, .int none), (6, .int store), (7, .int ref)]) hx hb dL_refuses_807 hl (by decide) rfl (fun ls hl => ?_)
            refine lv_iinc (v := (nI (0 + 1))) (lv' := [(10, .int (nI (0 + 1))), (8, .int (nI 1)), (11, .int (nI 0)), (9, .int (nI ((X / 2) % n))), (0, .ref (q 0)), (1, .ref qn), (2, .int (nI X)), (4, .int (nI n)), (5, .int none), (6, .int store), (7, .int ref)]) hx hb dL_refuses_809 hl (k := 2) rfl (nI_1 _) (by decide) rfl (fun ls hl => ?_)
            refine lv_goto (tgt := 694) hx hb dL_refuses_812 (by decide) ?_
            refine lv_iload hx hb dL_refuses_694 (lv_at hl 0 rfl) ?_
            refine lv_iconst (v := nI 2) hx hb dL_refuses_696 (by decide +kernel) ?_
            refine lv_icmp_ge (tgt := 815) hx hb dL_refuses_697 (by decide) (fun c_697 => by have n_697 : 2 ≤ (0 + 1) := (g_leI (a := 2) (b := (0 + 1)) rfl rfl (by decide) (by omega)).mp c_697; exfalso; omega) (fun c_697 => ?_)
            have n_697 : ¬ 2 ≤ (0 + 1) := fun h => c_697 ((g_leI (a := 2) (b := (0 + 1)) rfl rfl (by decide) (by omega)).mpr h)
            refine lv_iload hx hb dL_refuses_700 (lv_at hl 1 rfl) ?_
            refine lv_if_eq (tgt := 815) hx hb dL_refuses_702 (by decide) (fun c_702 => by have n_702 : 1 = 0 := (g_eqI (a := 1) (b := 0) rfl rfl (by decide) (by decide)).mp c_702; exfalso; omega) (fun c_702 => ?_)
            have n_702 : ¬ 1 = 0 := fun h => c_702 ((g_eqI (a := 1) (b := 0) rfl rfl (by decide) (by decide)).mpr h)
            refine lv_aload_n hx hb dL_refuses_705 rfl (lv_at hl 4 rfl) ?_
            refine lv_iload hx hb dL_refuses_706 (lv_at hl 0 rfl) ?_
            refine lv_iload hx hb dL_refuses_708 (lv_at hl 3 rfl) ?_
            refine g_callSWB (As := [.ref (q 0), .int (nI (0 + 1)), .int (nI ((X / 2) % n))]) (rest := []) (wr := [(qn, .inl (cI, 1, .inl g))]) (wn := NW cI cZ q qn (g, u)) hx hb hml hown hts (lr_has l D cI cZ q u n hn h60 (0 + 1) (by omega) (nI ((X / 2) % n)) (xR_in (Nat.mod_lt _ (by omega)) (by omega))) gL_refuses_L_has rfl rfl rfl hdL_has ⟨Nat.le_of_ble_eq_true rfl, Nat.le_of_ble_eq_true rfl⟩ LE_em hE XT_tm hXT hP hK hD hS hA rfl hl.1 rfl (Nat.le_of_ble_eq_true rfl) dL_refuses_710 ⟨Nat.le_of_ble_eq_true rfl, Nat.le_of_ble_eq_true rfl⟩ [1, 2, 3, 4, 5, 6, 7, 8, 9, 10, 11, 12, 13, 14, 15, 16, 17] [0] [0, 1, 2, 3, 4, 5, 6, 7, 8, 9, 10, 11, 12, 13, 14, 15, 16, 17] (by decide) rfl rfl (by decide) (by decide) (by decide) rfl (fun H locs hP hD hS hz => ?_)
            have hG : s.heap.size + 35 ≤ H.size := Nat.le_trans hG hz
            refine W.eq (g2 := F0 m 713 ls [.int (xCon (u.2 (0 + 1)) (nI ((X / 2) % n)))]) rfl ?_
            refine lv_iconst (v := nI 1) hx hb dL_refuses_713 (by decide +kernel) ?_
            refine lv_icmp_ne (tgt := 721) hx hb dL_refuses_714 (by decide) (fun c_714 => ?_) (fun c_714 => ?_)
            · refine lv_iconst (v := nI 0) hx hb dL_refuses_721 (by decide +kernel) ?_
              refine lv_istore (lv' := [(11, .int (nI 0)), (10, .int (nI (0 + 1))), (8, .int (nI 1)), (9, .int (nI ((X / 2) % n))), (0, .ref (q 0)), (1, .ref qn), (2, .int (nI X)), (4, .int (nI n)), (5, .int none), (6, .int store), (7, .int ref)]) hx hb dL_refuses_722 hl (by decide) rfl (fun ls hl => ?_)
              refine lv_iload hx hb dL_refuses_724 (lv_at hl 0 rfl) ?_
              refine lv_if_eq (tgt := 770) hx hb dL_refuses_726 (by decide) (fun c_726 => ?_) (fun c_726 => by have n_726 : ¬ 0 = 0 := fun h => c_726 ((g_eqI (a := 0) (b := 0) rfl rfl (by decide) (by decide)).mpr h); exfalso; omega)
              have n_726 : 0 = 0 := (g_eqI (a := 0) (b := 0) rfl rfl (by decide) (by decide)).mp c_726
              refine lv_aload_n hx hb dL_refuses_770 rfl (lv_at hl 4 rfl) ?_
              refine lv_iload hx hb dL_refuses_771 (lv_at hl 1 rfl) ?_
              refine lv_iload hx hb dL_refuses_773 (lv_at hl 3 rfl) ?_
              refine lv_iconst (v := (-1)) hx hb dL_refuses_775 (by decide +kernel) ?_
              refine lv_iconst (v := nI 0) hx hb dL_refuses_776 (by decide +kernel) ?_
              refine lv_iconst (v := nI 0) hx hb dL_refuses_777 (by decide +kernel) ?_
              refine g_callSWB (As := [.ref (q 0), .int (nI (0 + 1)), .int (nI ((X / 2) % n)), .int (-1), .int (nI 0), .int (nI 0)]) (rest := []) (wr := [(qn, .inl (cI, 1, .inl g))]) (wn := NW cI cZ q qn (g, u)) hx hb hml hown hts (tx_makes l hst D cI cZ q u n hn h60 (nI (0 + 1)) (nI ((X / 2) % n)) (-1) (nI 0) (nI 0) (z := 1) (fz_mk1 (by omega) (Or.inr (Or.inl (hoN_no (nI_m1 (by have := Nat.mod_lt (X / 2) (show n > 0 by omega); omega)) (one_01 (xCon_01 _ _) c_714))))) (by decide)) gL_refuses_L_makes rfl rfl rfl hdL_makes ⟨Nat.le_of_ble_eq_true rfl, Nat.le_of_ble_eq_true rfl⟩ LE_em hE XT_tm hXT hP hK hD hS hA rfl hl.1 rfl (Nat.le_of_ble_eq_true rfl) dL_refuses_778 ⟨Nat.le_of_ble_eq_true rfl, Nat.le_of_ble_eq_true rfl⟩ [1, 2, 3, 4, 5, 6, 7, 8, 9, 10, 11, 12, 13, 14, 15, 16, 17] [0] [0, 1, 2, 3, 4, 5, 6, 7, 8, 9, 10, 11, 12, 13, 14, 15, 16, 17] (by decide) rfl rfl (by decide) (by decide) (by decide) rfl (fun H locs hP hD hS hz => ?_)
              have hG : s.heap.size + 36 ≤ H.size := Nat.le_trans (Nat.add_le_add_right hG 1) hz
              refine W.eq (g2 := F0 m 781 ls [.int (cdx 1)]) rfl ?_
              refine lv_ldc (v := (-2000000001)) hx hb hown (hts _ (List.mem_of_getElem? (i := 1) (by decide +kernel))) dL_refuses_781 ?_
              refine lv_icmp_ne (tgt := 806) hx hb dL_refuses_783 (by decide) (fun c_783 => by exact absurd cdx_1 c_783) (fun c_783 => ?_)
              refine lv_aload_n hx hb dL_refuses_786 rfl (lv_at hl 4 rfl) ?_
              refine lv_iload hx hb dL_refuses_787 (lv_at hl 1 rfl) ?_
              refine lv_iload_n hx hb dL_refuses_789 rfl (lv_at hl 6 rfl) ?_
              refine lv_iconst (v := nI 4) hx hb dL_refuses_790 (by decide +kernel) ?_
              refine l_irem hx hb dL_refuses_791 (by omega) (by decide) (by decide) ?_
              refine lv_iload hx hb dL_refuses_792 (lv_at hl 3 rfl) ?_
              refine g_callSWB (As := [.ref (q 0), .int (nI (0 + 1)), .int (nI (X % 4)), .int (nI ((X / 2) % n))]) (rest := []) (wr := [(qn, .inl (cI, 1, .inl g))]) (wn := NW cI cZ q qn (g, u)) hx hb hml hown hts (tx_sets l hst D cI cZ q u (nI (0 + 1)) (nI (X % 4)) (nI ((X / 2) % n)) (z := 1) (fz_st (by omega) (Or.inr (hoN_no (nI_m1 (by have := Nat.mod_lt (X / 2) (show n > 0 by omega); omega)) (one_01 (xCon_01 _ _) c_714)))) (by decide)) gL_refuses_L_sets rfl rfl rfl hdL_sets ⟨Nat.le_of_ble_eq_true rfl, Nat.le_of_ble_eq_true rfl⟩ LE_em hE XT_tm hXT hP hK hD hS hA rfl hl.1 rfl (Nat.le_of_ble_eq_true rfl) dL_refuses_794 ⟨Nat.le_of_ble_eq_true rfl, Nat.le_of_ble_eq_true rfl⟩ [1, 2, 3, 4, 5, 6, 7, 8, 9, 10, 11, 12, 13, 14, 15, 16, 17] [0] [0, 1, 2, 3, 4, 5, 6, 7, 8, 9, 10, 11, 12, 13, 14, 15, 16, 17] (by decide) rfl rfl (by decide) (by decide) (by decide) rfl (fun H locs hP hD hS hz => ?_)
              have hG : s.heap.size + 37 ≤ H.size := Nat.le_trans (Nat.add_le_add_right hG 1) hz
              refine W.eq (g2 := F0 m 797 ls [.int (cdx 1)]) rfl ?_
              refine lv_ldc (v := (-2000000001)) hx hb hown (hts _ (List.mem_of_getElem? (i := 1) (by decide +kernel))) dL_refuses_797 ?_
              refine lv_icmp_ne (tgt := 806) hx hb dL_refuses_799 (by decide) (fun c_799 => by exact absurd cdx_1 c_799) (fun c_799 => ?_)
              refine lv_iconst (v := nI 1) hx hb dL_refuses_802 (by decide +kernel) ?_
              refine lv_goto (tgt := 807) hx hb dL_refuses_803 (by decide) ?_
              refine lv_istore (lv' := [(8, .int (nI 1)), (11, .int (nI 0)), (10, .int (nI (0 + 1))), (9, .int (nI ((X / 2) % n))), (0, .ref (q 0)), (1, .ref qn), (2, .int (nI X)), (4, .int (nI n)), (5, .int none), (6, .int store), (7, .int ref)]) hx hb dL_refuses_807 hl (by decide) rfl (fun ls hl => ?_)
              refine lv_iinc (v := (nI ((0 + 1) + 1))) (lv' := [(10, .int (nI ((0 + 1) + 1))), (8, .int (nI 1)), (11, .int (nI 0)), (9, .int (nI ((X / 2) % n))), (0, .ref (q 0)), (1, .ref qn), (2, .int (nI X)), (4, .int (nI n)), (5, .int none), (6, .int store), (7, .int ref)]) hx hb dL_refuses_809 hl (k := 2) rfl (nI_1 _) (by decide) rfl (fun ls hl => ?_)
              refine lv_goto (tgt := 694) hx hb dL_refuses_812 (by decide) ?_
              refine lv_iload hx hb dL_refuses_694 (lv_at hl 0 rfl) ?_
              refine lv_iconst (v := nI 2) hx hb dL_refuses_696 (by decide +kernel) ?_
              refine lv_icmp_ge (tgt := 815) hx hb dL_refuses_697 (by decide) (fun c_697 => ?_) (fun c_697 => by have n_697 : ¬ 2 ≤ ((0 + 1) + 1) := fun h => c_697 ((g_leI (a := 2) (b := ((0 + 1) + 1)) rfl rfl (by decide) (by omega)).mpr h); exfalso; omega)
              have n_697 : 2 ≤ ((0 + 1) + 1) := (g_leI (a := 2) (b := ((0 + 1) + 1)) rfl rfl (by decide) (by omega)).mp c_697
              exact W.widen (by omega) (by omega) (j815  _ _ _ hP hD hS (lv_sub hl [4, 1] rfl) (Nat.le_trans (Nat.add_le_add_left (by omega) _) hG) )
            · refine lv_iconst (v := nI 1) hx hb dL_refuses_717 (by decide +kernel) ?_
              refine lv_goto (tgt := 722) hx hb dL_refuses_718 (by decide) ?_
              refine lv_istore (lv' := [(11, .int (nI 1)), (10, .int (nI (0 + 1))), (8, .int (nI 1)), (9, .int (nI ((X / 2) % n))), (0, .ref (q 0)), (1, .ref qn), (2, .int (nI X)), (4, .int (nI n)), (5, .int none), (6, .int store), (7, .int ref)]) hx hb dL_refuses_722 hl (by decide) rfl (fun ls hl => ?_)
              refine lv_iload hx hb dL_refuses_724 (lv_at hl 0 rfl) ?_
              refine lv_if_eq (tgt := 770) hx hb dL_refuses_726 (by decide) (fun c_726 => by have n_726 : 1 = 0 := (g_eqI (a := 1) (b := 0) rfl rfl (by decide) (by decide)).mp c_726; exfalso; omega) (fun c_726 => ?_)
              have n_726 : ¬ 1 = 0 := fun h => c_726 ((g_eqI (a := 1) (b := 0) rfl rfl (by decide) (by decide)).mpr h)
              refine lv_aload_n hx hb dL_refuses_729 rfl (lv_at hl 4 rfl) ?_
              refine lv_iload hx hb dL_refuses_730 (lv_at hl 1 rfl) ?_
              refine lv_iload hx hb dL_refuses_732 (lv_at hl 3 rfl) ?_
              refine lv_iload hx hb dL_refuses_734 (lv_at hl 3 rfl) ?_
              refine lv_iconst (v := nI 0) hx hb dL_refuses_736 (by decide +kernel) ?_
              refine lv_iconst (v := nI 0) hx hb dL_refuses_737 (by decide +kernel) ?_
              refine g_callSWB (As := [.ref (q 0), .int (nI (0 + 1)), .int (nI ((X / 2) % n)), .int (nI ((X / 2) % n)), .int (nI 0), .int (nI 0)]) (rest := []) (wr := [(qn, .inl (cI, 1, .inl g))]) (wn := NW cI cZ q qn (g, u)) hx hb hml hown hts (tx_makes l hst D cI cZ q u n hn h60 (nI (0 + 1)) (nI ((X / 2) % n)) (nI ((X / 2) % n)) (nI 0) (nI 0) (z := 2) (fz_mk2 (by omega) (by decide +kernel) (hoN_in (one_ne c_714)) (hoN_in (one_ne c_714)) (Or.inr ⟨(nI_m1 (by have := Nat.mod_lt (X / 2) (show n > 0 by omega); omega)), Or.inr rfl⟩)) (by decide)) gL_refuses_L_makes rfl rfl rfl hdL_makes ⟨Nat.le_of_ble_eq_true rfl, Nat.le_of_ble_eq_true rfl⟩ LE_em hE XT_tm hXT hP hK hD hS hA rfl hl.1 rfl (Nat.le_of_ble_eq_true rfl) dL_refuses_738 ⟨Nat.le_of_ble_eq_true rfl, Nat.le_of_ble_eq_true rfl⟩ [1, 2, 3, 4, 5, 6, 7, 8, 9, 10, 11, 12, 13, 14, 15, 16, 17] [0] [0, 1, 2, 3, 4, 5, 6, 7, 8, 9, 10, 11, 12, 13, 14, 15, 16, 17] (by decide) rfl rfl (by decide) (by decide) (by decide) rfl (fun H locs hP hD hS hz => ?_)
              have hG : s.heap.size + 36 ≤ H.size := Nat.le_trans (Nat.add_le_add_right hG 1) hz
              refine W.eq (g2 := F0 m 741 ls [.int (cdx 2)]) rfl ?_
              refine lv_ldc (v := (-2000000002)) hx hb hown (hts _ (List.mem_of_getElem? (i := 2) (by decide +kernel))) dL_refuses_741 ?_
              refine lv_icmp_ne (tgt := 766) hx hb dL_refuses_743 (by decide) (fun c_743 => by exact absurd cdx_2 c_743) (fun c_743 => ?_)
              refine lv_aload_n hx hb dL_refuses_746 rfl (lv_at hl 4 rfl) ?_
              refine lv_iload hx hb dL_refuses_747 (lv_at hl 1 rfl) ?_
              refine lv_iconst (v := (-1)) hx hb dL_refuses_749 (by decide +kernel) ?_
              refine lv_iload hx hb dL_refuses_750 (lv_at hl 3 rfl) ?_
              refine lv_iconst (v := nI 0) hx hb dL_refuses_752 (by decide +kernel) ?_
              refine lv_iconst (v := nI 0) hx hb dL_refuses_753 (by decide +kernel) ?_
              refine g_callSWB (As := [.ref (q 0), .int (nI (0 + 1)), .int (-1), .int (nI ((X / 2) % n)), .int (nI 0), .int (nI 0)]) (rest := []) (wr := [(qn, .inl (cI, 1, .inl g))]) (wn := NW cI cZ q qn (g, u)) hx hb hml hown hts (tx_makes l hst D cI cZ q u n hn h60 (nI (0 + 1)) (-1) (nI ((X / 2) % n)) (nI 0) (nI 0) (z := 2) (fz_mk2 (by omega) (by decide +kernel) (hoN_m1 _) (hoN_in (one_ne c_714)) (Or.inr ⟨(nI_m1 (by have := Nat.mod_lt (X / 2) (show n > 0 by omega); omega)), Or.inl rfl⟩)) (by decide)) gL_refuses_L_makes rfl rfl rfl hdL_makes ⟨Nat.le_of_ble_eq_true rfl, Nat.le_of_ble_eq_true rfl⟩ LE_em hE XT_tm hXT hP hK hD hS hA rfl hl.1 rfl (Nat.le_of_ble_eq_true rfl) dL_refuses_754 ⟨Nat.le_of_ble_eq_true rfl, Nat.le_of_ble_eq_true rfl⟩ [1, 2, 3, 4, 5, 6, 7, 8, 9, 10, 11, 12, 13, 14, 15, 16, 17] [0] [0, 1, 2, 3, 4, 5, 6, 7, 8, 9, 10, 11, 12, 13, 14, 15, 16, 17] (by decide) rfl rfl (by decide) (by decide) (by decide) rfl (fun H locs hP hD hS hz => ?_)
              have hG : s.heap.size + 37 ≤ H.size := Nat.le_trans (Nat.add_le_add_right hG 1) hz
              refine W.eq (g2 := F0 m 757 ls [.int (cdx 2)]) rfl ?_
              refine lv_ldc (v := (-2000000002)) hx hb hown (hts _ (List.mem_of_getElem? (i := 2) (by decide +kernel))) dL_refuses_757 ?_
              refine lv_icmp_ne (tgt := 766) hx hb dL_refuses_759 (by decide) (fun c_759 => by exact absurd cdx_2 c_759) (fun c_759 => ?_)
              refine lv_iconst (v := nI 1) hx hb dL_refuses_762 (by decide +kernel) ?_
              refine lv_goto (tgt := 807) hx hb dL_refuses_763 (by decide) ?_
              refine lv_istore (lv' := [(8, .int (nI 1)), (11, .int (nI 1)), (10, .int (nI (0 + 1))), (9, .int (nI ((X / 2) % n))), (0, .ref (q 0)), (1, .ref qn), (2, .int (nI X)), (4, .int (nI n)), (5, .int none), (6, .int store), (7, .int ref)]) hx hb dL_refuses_807 hl (by decide) rfl (fun ls hl => ?_)
              refine lv_iinc (v := (nI ((0 + 1) + 1))) (lv' := [(10, .int (nI ((0 + 1) + 1))), (8, .int (nI 1)), (11, .int (nI 1)), (9, .int (nI ((X / 2) % n))), (0, .ref (q 0)), (1, .ref qn), (2, .int (nI X)), (4, .int (nI n)), (5, .int none), (6, .int store), (7, .int ref)]) hx hb dL_refuses_809 hl (k := 2) rfl (nI_1 _) (by decide) rfl (fun ls hl => ?_)
              refine lv_goto (tgt := 694) hx hb dL_refuses_812 (by decide) ?_
              refine lv_iload hx hb dL_refuses_694 (lv_at hl 0 rfl) ?_
              refine lv_iconst (v := nI 2) hx hb dL_refuses_696 (by decide +kernel) ?_
              refine lv_icmp_ge (tgt := 815) hx hb dL_refuses_697 (by decide) (fun c_697 => ?_) (fun c_697 => by have n_697 : ¬ 2 ≤ ((0 + 1) + 1) := fun h => c_697 ((g_leI (a := 2) (b := ((0 + 1) + 1)) rfl rfl (by decide) (by omega)).mpr h); exfalso; omega)
              have n_697 : 2 ≤ ((0 + 1) + 1) := (g_leI (a := 2) (b := ((0 + 1) + 1)) rfl rfl (by decide) (by omega)).mp c_697
              exact W.widen (by omega) (by omega) (j815  _ _ _ hP hD hS (lv_sub hl [4, 1] rfl) (Nat.le_trans (Nat.add_le_add_left (by omega) _) hG) )
          · refine lv_iconst (v := nI 1) hx hb dL_refuses_717 (by decide +kernel) ?_
            refine lv_goto (tgt := 722) hx hb dL_refuses_718 (by decide) ?_
            refine lv_istore (lv' := [(11, .int (nI 1)), (10, .int (nI 0)), (9, .int (nI ((X / 2) % n))), (8, .int (nI 1)), (0, .ref (q 0)), (1, .ref qn), (2, .int (nI X)), (4, .int (nI n)), (5, .int none), (6, .int store), (7, .int ref)]) hx hb dL_refuses_722 hl (by decide) rfl (fun ls hl => ?_)
            refine lv_iload hx hb dL_refuses_724 (lv_at hl 0 rfl) ?_
            refine lv_if_eq (tgt := 770) hx hb dL_refuses_726 (by decide) (fun c_726 => by have n_726 : 1 = 0 := (g_eqI (a := 1) (b := 0) rfl rfl (by decide) (by decide)).mp c_726; exfalso; omega) (fun c_726 => ?_)
            have n_726 : ¬ 1 = 0 := fun h => c_726 ((g_eqI (a := 1) (b := 0) rfl rfl (by decide) (by decide)).mpr h)
            refine lv_aload_n hx hb dL_refuses_729 rfl (lv_at hl 4 rfl) ?_
            refine lv_iload hx hb dL_refuses_730 (lv_at hl 1 rfl) ?_
            refine lv_iload hx hb dL_refuses_732 (lv_at hl 2 rfl) ?_
            refine lv_iload hx hb dL_refuses_734 (lv_at hl 2 rfl) ?_
            refine lv_iconst (v := nI 0) hx hb dL_refuses_736 (by decide +kernel) ?_
            refine lv_iconst (v := nI 0) hx hb dL_refuses_737 (by decide +kernel) ?_
            refine g_callSWB (As := [.ref (q 0), .int (nI 0), .int (nI ((X / 2) % n)), .int (nI ((X / 2) % n)), .int (nI 0), .int (nI 0)]) (rest := []) (wr := [(qn, .inl (cI, 1, .inl g))]) (wn := NW cI cZ q qn (g, u)) hx hb hml hown hts (tx_makes l hst D cI cZ q u n hn h60 (nI 0) (nI ((X / 2) % n)) (nI ((X / 2) % n)) (nI 0) (nI 0) (z := 2) (fz_mk2 (by omega) (by decide +kernel) (hoN_in (one_ne c_714)) (hoN_in (one_ne c_714)) (Or.inr ⟨(nI_m1 (by have := Nat.mod_lt (X / 2) (show n > 0 by omega); omega)), Or.inr rfl⟩)) (by decide)) gL_refuses_L_makes rfl rfl rfl hdL_makes ⟨Nat.le_of_ble_eq_true rfl, Nat.le_of_ble_eq_true rfl⟩ LE_em hE XT_tm hXT hP hK hD hS hA rfl hl.1 rfl (Nat.le_of_ble_eq_true rfl) dL_refuses_738 ⟨Nat.le_of_ble_eq_true rfl, Nat.le_of_ble_eq_true rfl⟩ [1, 2, 3, 4, 5, 6, 7, 8, 9, 10, 11, 12, 13, 14, 15, 16, 17] [0] [0, 1, 2, 3, 4, 5, 6, 7, 8, 9, 10, 11, 12, 13, 14, 15, 16, 17] (by decide) rfl rfl (by decide) (by decide) (by decide) rfl (fun H locs hP hD hS hz => ?_)
            have hG : s.heap.size + 34 ≤ H.size := Nat.le_trans (Nat.add_le_add_right hG 1) hz
            refine W.eq (g2 := F0 m 741 ls [.int (cdx 2)]) rfl ?_
            refine lv_ldc (v := (-2000000002)) hx hb hown (hts _ (List.mem_of_getElem? (i := 2) (by decide +kernel))) dL_refuses_741 ?_
            refine lv_icmp_ne (tgt := 766) hx hb dL_refuses_743 (by decide) (fun c_743 => by exact absurd cdx_2 c_743) (fun c_743 => ?_)
            refine lv_aload_n hx hb dL_refuses_746 rfl (lv_at hl 4 rfl) ?_
            refine lv_iload hx hb dL_refuses_747 (lv_at hl 1 rfl) ?_
            refine lv_iconst (v := (-1)) hx hb dL_refuses_749 (by decide +kernel) ?_
            refine lv_iload hx hb dL_refuses_750 (lv_at hl 2 rfl) ?_
            refine lv_iconst (v := nI 0) hx hb dL_refuses_752 (by decide +kernel) ?_
            refine lv_iconst (v := nI 0) hx hb dL_refuses_753 (by decide +kernel) ?_
            refine g_callSWB (As := [.ref (q 0), .int (nI 0), .int (-1), .int (nI ((X / 2) % n)), .int (nI 0), .int (nI 0)]) (rest := []) (wr := [(qn, .inl (cI, 1, .inl g))]) (wn := NW cI cZ q qn (g, u)) hx hb hml hown hts (tx_makes l hst D cI cZ q u n hn h60 (nI 0) (-1) (nI ((X / 2) % n)) (nI 0) (nI 0) (z := 2) (fz_mk2 (by omega) (by decide +kernel) (hoN_m1 _) (hoN_in (one_ne c_714)) (Or.inr ⟨(nI_m1 (by have := Nat.mod_lt (X / 2) (show n > 0 by omega); omega)), Or.inl rfl⟩)) (by decide)) gL_refuses_L_makes rfl rfl rfl hdL_makes ⟨Nat.le_of_ble_eq_true rfl, Nat.le_of_ble_eq_true rfl⟩ LE_em hE XT_tm hXT hP hK hD hS hA rfl hl.1 rfl (Nat.le_of_ble_eq_true rfl) dL_refuses_754 ⟨Nat.le_of_ble_eq_true rfl, Nat.le_of_ble_eq_true rfl⟩ [1, 2, 3, 4, 5, 6, 7, 8, 9, 10, 11, 12, 13, 14, 15, 16, 17] [0] [0, 1, 2, 3, 4, 5, 6, 7, 8, 9, 10, 11, 12, 13, 14, 15, 16, 17] (by decide) rfl rfl (by decide) (by decide) (by decide) rfl (fun H locs hP hD hS hz => ?_)
            have hG : s.heap.size + 35 ≤ H.size := Nat.le_trans (Nat.add_le_add_right hG 1) hz
            refine W.eq (g2 := F0 m 757 ls [.int (cdx 2)]) rfl ?_
            refine lv_ldc (v := (-2000000002)) hx hb hown (hts _ (List.mem_of_getElem? (i := 2) (by decide +kernel))) dL_refuses_757 ?_
            refine lv_icmp_ne (tgt := 766) hx hb dL_refuses_759 (by decide) (fun c_759 => by exact absurd cdx_2 c_759) (fun c_759 => ?_)
            refine lv_iconst (v := nI 1) hx hb dL_refuses_762 (by decide +kernel) ?_
            refine lv_goto (tgt := 807) hx hb dL_refuses_763 (by decide) ?_
            refine lv_istore (lv' := [(8, .int (nI 1)), (11, .int (nI 1)), (10, .int (nI 0)), (9, .int (nI ((X / 2) % n))), (0, .ref (q 0)), (1, .ref qn), (2, .int (nI X)), (4, .int (nI n)), (5, .int none), (6, .int store), (7, .int ref)]) hx hb dL_refuses_807 hl (by decide) rfl (fun ls hl => ?_)
            refine lv_iinc (v := (nI (0 + 1))) (lv' := [(10, .int (nI (0 + 1))), (8, .int (nI 1)), (11, .int (nI 1)), (9, .int (nI ((X / 2) % n))), (0, .ref (q 0)), (1, .ref qn), (2, .int (nI X)), (4, .int (nI n)), (5, .int none), (6, .int store), (7, .int ref)]) hx hb dL_refuses_809 hl (k := 2) rfl (nI_1 _) (by decide) rfl (fun ls hl => ?_)
            refine lv_goto (tgt := 694) hx hb dL_refuses_812 (by decide) ?_
            refine lv_iload hx hb dL_refuses_694 (lv_at hl 0 rfl) ?_
            refine lv_iconst (v := nI 2) hx hb dL_refuses_696 (by decide +kernel) ?_
            refine lv_icmp_ge (tgt := 815) hx hb dL_refuses_697 (by decide) (fun c_697 => by have n_697 : 2 ≤ (0 + 1) := (g_leI (a := 2) (b := (0 + 1)) rfl rfl (by decide) (by omega)).mp c_697; exfalso; omega) (fun c_697 => ?_)
            have n_697 : ¬ 2 ≤ (0 + 1) := fun h => c_697 ((g_leI (a := 2) (b := (0 + 1)) rfl rfl (by decide) (by omega)).mpr h)
            refine lv_iload hx hb dL_refuses_700 (lv_at hl 1 rfl) ?_
            refine lv_if_eq (tgt := 815) hx hb dL_refuses_702 (by decide) (fun c_702 => by have n_702 : 1 = 0 := (g_eqI (a := 1) (b := 0) rfl rfl (by decide) (by decide)).mp c_702; exfalso; omega) (fun c_702 => ?_)
            have n_702 : ¬ 1 = 0 := fun h => c_702 ((g_eqI (a := 1) (b := 0) rfl rfl (by decide) (by decide)).mpr h)
            refine lv_aload_n hx hb dL_refuses_705 rfl (lv_at hl 4 rfl) ?_
            refine lv_iload hx hb dL_refuses_706 (lv_at hl 0 rfl) ?_
            refine lv_iload hx hb dL_refuses_708 (lv_at hl 3 rfl) ?_
            refine g_callSWB (As := [.ref (q 0), .int (nI (0 + 1)), .int (nI ((X / 2) % n))]) (rest := []) (wr := [(qn, .inl (cI, 1, .inl g))]) (wn := NW cI cZ q qn (g, u)) hx hb hml hown hts (lr_has l D cI cZ q u n hn h60 (0 + 1) (by omega) (nI ((X / 2) % n)) (xR_in (Nat.mod_lt _ (by omega)) (by omega))) gL_refuses_L_has rfl rfl rfl hdL_has ⟨Nat.le_of_ble_eq_true rfl, Nat.le_of_ble_eq_true rfl⟩ LE_em hE XT_tm hXT hP hK hD hS hA rfl hl.1 rfl (Nat.le_of_ble_eq_true rfl) dL_refuses_710 ⟨Nat.le_of_ble_eq_true rfl, Nat.le_of_ble_eq_true rfl⟩ [1, 2, 3, 4, 5, 6, 7, 8, 9, 10, 11, 12, 13, 14, 15, 16, 17] [0] [0, 1, 2, 3, 4, 5, 6, 7, 8, 9, 10, 11, 12, 13, 14, 15, 16, 17] (by decide) rfl rfl (by decide) (by decide) (by decide) rfl (fun H locs hP hD hS hz => ?_)
            have hG : s.heap.size + 35 ≤ H.size := Nat.le_trans hG hz
            refine W.eq (g2 := F0 m 713 ls [.int (xCon (u.2 (0 + 1)) (nI ((X / 2) % n)))]) rfl ?_
            refine lv_iconst (v := nI 1) hx hb dL_refuses_713 (by decide +kernel) ?_
            refine lv_icmp_ne (tgt := 721) hx hb dL_refuses_714 (by decide) (fun c_714 => ?_) (fun c_714 => ?_)
            · refine lv_iconst (v := nI 0) hx hb dL_refuses_721 (by decide +kernel) ?_
              refine lv_istore (lv' := [(11, .int (nI 0)), (10, .int (nI (0 + 1))), (8, .int (nI 1)), (9, .int (nI ((X / 2) % n))), (0, .ref (q 0)), (1, .ref qn), (2, .int (nI X)), (4, .int (nI n)), (5, .int none), (6, .int store), (7, .int ref)]) hx hb dL_refuses_722 hl (by decide) rfl (fun ls hl => ?_)
              refine lv_iload hx hb dL_refuses_724 (lv_at hl 0 rfl) ?_
              refine lv_if_eq (tgt := 770) hx hb dL_refuses_726 (by decide) (fun c_726 => ?_) (fun c_726 => by have n_726 : ¬ 0 = 0 := fun h => c_726 ((g_eqI (a := 0) (b := 0) rfl rfl (by decide) (by decide)).mpr h); exfalso; omega)
              have n_726 : 0 = 0 := (g_eqI (a := 0) (b := 0) rfl rfl (by decide) (by decide)).mp c_726
              refine lv_aload_n hx hb dL_refuses_770 rfl (lv_at hl 4 rfl) ?_
              refine lv_iload hx hb dL_refuses_771 (lv_at hl 1 rfl) ?_
              refine lv_iload hx hb dL_refuses_773 (lv_at hl 3 rfl) ?_
              refine lv_iconst (v := (-1)) hx hb dL_refuses_775 (by decide +kernel) ?_
              refine lv_iconst (v := nI 0) hx hb dL_refuses_776 (by decide +kernel) ?_
              refine lv_iconst (v := nI 0) hx hb dL_refuses_777 (by decide +kernel) ?_
              refine g_callSWB (As := [.ref (q 0), .int (nI (0 + 1)), .int (nI ((X / 2) % n)), .int (-1), .int (nI 0), .int (nI 0)]) (rest := []) (wr := [(qn, .inl (cI, 1, .inl g))]) (wn := NW cI cZ q qn (g, u)) hx hb hml hown hts (tx_makes l hst D cI cZ q u n hn h60 (nI (0 + 1)) (nI ((X / 2) % n)) (-1) (nI 0) (nI 0) (z := 1) (fz_mk1 (by omega) (Or.inr (Or.inl (hoN_no (nI_m1 (by have := Nat.mod_lt (X / 2) (show n > 0 by omega); omega)) (one_01 (xCon_01 _ _) c_714))))) (by decide)) gL_refuses_L_makes rfl rfl rfl hdL_makes ⟨Nat.le_of_ble_eq_true rfl, Nat.le_of_ble_eq_true rfl⟩ LE_em hE XT_tm hXT hP hK hD hS hA rfl hl.1 rfl (Nat.le_of_ble_eq_true rfl) dL_refuses_778 ⟨Nat.le_of_ble_eq_true rfl, Nat.le_of_ble_eq_true rfl⟩ [1, 2, 3, 4, 5, 6, 7, 8, 9, 10, 11, 12, 13, 14, 15, 16, 17] [0] [0, 1, 2, 3, 4, 5, 6, 7, 8, 9, 10, 11, 12, 13, 14, 15, 16, 17] (by decide) rfl rfl (by decide) (by decide) (by decide) rfl (fun H locs hP hD hS hz => ?_)
              have hG : s.heap.size + 36 ≤ H.size := Nat.le_trans (Nat.add_le_add_right hG 1) hz
              refine W.eq (g2 := F0 m 781 ls [.int (cdx 1)]) rfl ?_
              refine lv_ldc (v := (-2000000001)) hx hb hown (hts _ (List.mem_of_getElem? (i := 1) (by decide +kernel))) dL_refuses_781 ?_
              refine lv_icmp_ne (tgt := 806) hx hb dL_refuses_783 (by decide) (fun c_783 => by exact absurd cdx_1 c_783) (fun c_783 => ?_)
              refine lv_aload_n hx hb dL_refuses_786 rfl (lv_at hl 4 rfl) ?_
              refine lv_iload hx hb dL_refuses_787 (lv_at hl 1 rfl) ?_
              refine lv_iload_n hx hb dL_refuses_789 rfl (lv_at hl 6 rfl) ?_
              refine lv_iconst (v := nI 4) hx hb dL_refuses_790 (by decide +kernel) ?_
              refine l_irem hx hb dL_refuses_791 (by omega) (by decide) (by decide) ?_
              refine lv_iload hx hb dL_refuses_792 (lv_at hl 3 rfl) ?_
              refine g_callSWB (As := [.ref (q 0), .int (nI (0 + 1)), .int (nI (X % 4)), .int (nI ((X / 2) % n))]) (rest := []) (wr := [(qn, .inl (cI, 1, .inl g))]) (wn := NW cI cZ q qn (g, u)) hx hb hml hown hts (tx_sets l hst D cI cZ q u (nI (0 + 1)) (nI (X % 4)) (nI ((X / 2) % n)) (z := 1) (fz_st (by omega) (Or.inr (hoN_no (nI_m1 (by have := Nat.mod_lt (X / 2) (show n > 0 by omega); omega)) (one_01 (xCon_01 _ _) c_714)))) (by decide)) gL_refuses_L_sets rfl rfl rfl hdL_sets ⟨Nat.le_of_ble_eq_true rfl, Nat.le_of_ble_eq_true rfl⟩ LE_em hE XT_tm hXT hP hK hD hS hA rfl hl.1 rfl (Nat.le_of_ble_eq_true rfl) dL_refuses_794 ⟨Nat.le_of_ble_eq_true rfl, Nat.le_of_ble_eq_true rfl⟩ [1, 2, 3, 4, 5, 6, 7, 8, 9, 10, 11, 12, 13, 14, 15, 16, 17] [0] [0, 1, 2, 3, 4, 5, 6, 7, 8, 9, 10, 11, 12, 13, 14, 15, 16, 17] (by decide) rfl rfl (by decide) (by decide) (by decide) rfl (fun H locs hP hD hS hz => ?_)
              have hG : s.heap.size + 37 ≤ H.size := Nat.le_trans (Nat.add_le_add_right hG 1) hz
              refine W.eq (g2 := F0 m 797 ls [.int (cdx 1)]) rfl ?_
              refine lv_ldc (v := (-2000000001)) hx hb hown (hts _ (List.mem_of_getElem? (i := 1) (by decide +kernel))) dL_refuses_797 ?_
              refine lv_icmp_ne (tgt := 806) hx hb dL_refuses_799 (by decide) (fun c_799 => by exact absurd cdx_1 c_799) (fun c_799 => ?_)
              refine lv_iconst (v := nI 1) hx hb dL_refuses_802 (by decide +kernel) ?_
              refine lv_goto (tgt := 807) hx hb dL_refuses_803 (by decide) ?_
              refine lv_istore (lv' := [(8, .int (nI 1)), (11, .int (nI 0)), (10, .int (nI (0 + 1))), (9, .int (nI ((X / 2) % n))), (0, .ref (q 0)), (1, .ref qn), (2, .int (nI X)), (4, .int (nI n)), (5, .int none), (6, .int store), (7, .int ref)]) hx hb dL_refuses_807 hl (by decide) rfl (fun ls hl => ?_)
              refine lv_iinc (v := (nI ((0 + 1) + 1))) (lv' := [(10, .int (nI ((0 + 1) + 1))), (8, .int (nI 1)), (11, .int (nI 0)), (9, .int (nI ((X / 2) % n))), (0, .ref (q 0)), (1, .ref qn), (2, .int (nI X)), (4, .int (nI n)), (5, .int none), (6, .int store), (7, .int ref)]) hx hb dL_refuses_809 hl (k := 2) rfl (nI_1 _) (by decide) rfl (fun ls hl => ?_)
              refine lv_goto (tgt := 694) hx hb dL_refuses_812 (by decide) ?_
              refine lv_iload hx hb dL_refuses_694 (lv_at hl 0 rfl) ?_
              refine lv_iconst (v := nI 2) hx hb dL_refuses_696 (by decide +kernel) ?_
              refine lv_icmp_ge (tgt := 815) hx hb dL_refuses_697 (by decide) (fun c_697 => ?_) (fun c_697 => by have n_697 : ¬ 2 ≤ ((0 + 1) + 1) := fun h => c_697 ((g_leI (a := 2) (b := ((0 + 1) + 1)) rfl rfl (by decide) (by omega)).mpr h); exfalso; omega)
              have n_697 : 2 ≤ ((0 + 1) + 1) := (g_leI (a := 2) (b := ((0 + 1) + 1)) rfl rfl (by decide) (by omega)).mp c_697
              exact W.widen (by omega) (by omega) (j815  _ _ _ hP hD hS (lv_sub hl [4, 1] rfl) (Nat.le_trans (Nat.add_le_add_left (by omega) _) hG) )
            · refine lv_iconst (v := nI 1) hx hb dL_refuses_717 (by decide +kernel) ?_
              refine lv_goto (tgt := 722) hx hb dL_refuses_718 (by decide) ?_
              refine lv_istore (lv' := [(11, .int (nI 1)), (10, .int (nI (0 + 1))), (8, .int (nI 1)), (9, .int (nI ((X / 2) % n))), (0, .ref (q 0)), (1, .ref qn), (2, .int (nI X)), (4, .int (nI n)), (5, .int none), (6, .int store), (7, .int ref)]) hx hb dL_refuses_722 hl (by decide) rfl (fun ls hl => ?_)
              refine lv_iload hx hb dL_refuses_724 (lv_at hl 0 rfl) ?_
              refine lv_if_eq (tgt := 770) hx hb dL_refuses_726 (by decide) (fun c_726 => by have n_726 : 1 = 0 := (g_eqI (a := 1) (b := 0) rfl rfl (by decide) (by decide)).mp c_726; exfalso; omega) (fun c_726 => ?_)
              have n_726 : ¬ 1 = 0 := fun h => c_726 ((g_eqI (a := 1) (b := 0) rfl rfl (by decide) (by decide)).mpr h)
              refine lv_aload_n hx hb dL_refuses_729 rfl (lv_at hl 4 rfl) ?_
              refine lv_iload hx hb dL_refuses_730 (lv_at hl 1 rfl) ?_
              refine lv_iload hx hb dL_refuses_732 (lv_at hl 3 rfl) ?_
              refine lv_iload hx hb dL_refuses_734 (lv_at hl 3 rfl) ?_
              refine lv_iconst (v := nI 0) hx hb dL_refuses_736 (by decide +kernel) ?_
              refine lv_iconst (v := nI 0) hx hb dL_refuses_737 (by decide +kernel) ?_
              refine g_callSWB (As := [.ref (q 0), .int (nI (0 + 1)), .int (nI ((X / 2) % n)), .int (nI ((X / 2) % n)), .int (nI 0), .int (nI 0)]) (rest := []) (wr := [(qn, .inl (cI, 1, .inl g))]) (wn := NW cI cZ q qn (g, u)) hx hb hml hown hts (tx_makes l hst D cI cZ q u n hn h60 (nI (0 + 1)) (nI ((X / 2) % n)) (nI ((X / 2) % n)) (nI 0) (nI 0) (z := 2) (fz_mk2 (by omega) (by decide +kernel) (hoN_in (one_ne c_714)) (hoN_in (one_ne c_714)) (Or.inr ⟨(nI_m1 (by have := Nat.mod_lt (X / 2) (show n > 0 by omega); omega)), Or.inr rfl⟩)) (by decide)) gL_refuses_L_makes rfl rfl rfl hdL_makes ⟨Nat.le_of_ble_eq_true rfl, Nat.le_of_ble_eq_true rfl⟩ LE_em hE XT_tm hXT hP hK hD hS hA rfl hl.1 rfl (Nat.le_of_ble_eq_true rfl) dL_refuses_738 ⟨Nat.le_of_ble_eq_true rfl, Nat.le_of_ble_eq_true rfl⟩ [1, 2, 3, 4, 5, 6, 7, 8, 9, 10, 11, 12, 13, 14, 15, 16, 17] [0] [0, 1, 2, 3, 4, 5, 6, 7, 8, 9, 10, 11, 12, 13, 14, 15, 16, 17] (by decide) rfl rfl (by decide) (by decide) (by decide) rfl (fun H locs hP hD hS hz => ?_)
              have hG : s.heap.size + 36 ≤ H.size := Nat.le_trans (Nat.add_le_add_right hG 1) hz
              refine W.eq (g2 := F0 m 741 ls [.int (cdx 2)]) rfl ?_
              refine lv_ldc (v := (-2000000002)) hx hb hown (hts _ (List.mem_of_getElem? (i := 2) (by decide +kernel))) dL_refuses_741 ?_
              refine lv_icmp_ne (tgt := 766) hx hb dL_refuses_743 (by decide) (fun c_743 => by exact absurd cdx_2 c_743) (fun c_743 => ?_)
              refine lv_aload_n hx hb dL_refuses_746 rfl (lv_at hl 4 rfl) ?_
              refine lv_iload hx hb dL_refuses_747 (lv_at hl 1 rfl) ?_
              refine lv_iconst (v := (-1)) hx hb dL_refuses_749 (by decide +kernel) ?_
              refine lv_iload hx hb dL_refuses_750 (lv_at hl 3 rfl) ?_
              refine lv_iconst (v := nI 0) hx hb dL_refuses_752 (by decide +kernel) ?_
              refine lv_iconst (v := nI 0) hx hb dL_refuses_753 (by decide +kernel) ?_
              refine g_callSWB (As := [.ref (q 0), .int (nI (0 + 1)), .int (-1), .int (nI ((X / 2) % n)), .int (nI 0), .int (nI 0)]) (rest := []) (wr := [(qn, .inl (cI, 1, .inl g))]) (wn := NW cI cZ q qn (g, u)) hx hb hml hown hts (tx_makes l hst D cI cZ q u n hn h60 (nI (0 + 1)) (-1) (nI ((X / 2) % n)) (nI 0) (nI 0) (z := 2) (fz_mk2 (by omega) (by decide +kernel) (hoN_m1 _) (hoN_in (one_ne c_714)) (Or.inr ⟨(nI_m1 (by have := Nat.mod_lt (X / 2) (show n > 0 by omega); omega)), Or.inl rfl⟩)) (by decide)) gL_refuses_L_makes rfl rfl rfl hdL_makes ⟨Nat.le_of_ble_eq_true rfl, Nat.le_of_ble_eq_true rfl⟩ LE_em hE XT_tm hXT hP hK hD hS hA rfl hl.1 rfl (Nat.le_of_ble_eq_true rfl) dL_refuses_754 ⟨Nat.le_of_ble_eq_true rfl, Nat.le_of_ble_eq_true rfl⟩ [1, 2, 3, 4, 5, 6, 7, 8, 9, 10, 11, 12, 13, 14, 15, 16, 17] [0] [0, 1, 2, 3, 4, 5, 6, 7, 8, 9, 10, 11, 12, 13, 14, 15, 16, 17] (by decide) rfl rfl (by decide) (by decide) (by decide) rfl (fun H locs hP hD hS hz => ?_)
              have hG : s.heap.size + 37 ≤ H.size := Nat.le_trans (Nat.add_le_add_right hG 1) hz
              refine W.eq (g2 := F0 m 757 ls [.int (cdx 2)]) rfl ?_
              refine lv_ldc (v := (-2000000002)) hx hb hown (hts _ (List.mem_of_getElem? (i := 2) (by decide +kernel))) dL_refuses_757 ?_
              refine lv_icmp_ne (tgt := 766) hx hb dL_refuses_759 (by decide) (fun c_759 => by exact absurd cdx_2 c_759) (fun c_759 => ?_)
              refine lv_iconst (v := nI 1) hx hb dL_refuses_762 (by decide +kernel) ?_
              refine lv_goto (tgt := 807) hx hb dL_refuses_763 (by decide) ?_
              refine lv_istore (lv' := [(8, .int (nI 1)), (11, .int (nI 1)), (10, .int (nI (0 + 1))), (9, .int (nI ((X / 2) % n))), (0, .ref (q 0)), (1, .ref qn), (2, .int (nI X)), (4, .int (nI n)), (5, .int none), (6, .int store), (7, .int ref)]) hx hb dL_refuses_807 hl (by decide) rfl (fun ls hl => ?_)
              refine lv_iinc (v := (nI ((0 + 1) + 1))) (lv' := [(10, .int (nI ((0 + 1) + 1))), (8, .int (nI 1)), (11, .int (nI 1)), (9, .int (nI ((X / 2) % n))), (0, .ref (q 0)), (1, .ref qn), (2, .int (nI X)), (4, .int (nI n)), (5, .int none), (6, .int store), (7, .int ref)]) hx hb dL_refuses_809 hl (k := 2) rfl (nI_1 _) (by decide) rfl (fun ls hl => ?_)
              refine lv_goto (tgt := 694) hx hb dL_refuses_812 (by decide) ?_
              refine lv_iload hx hb dL_refuses_694 (lv_at hl 0 rfl) ?_
              refine lv_iconst (v := nI 2) hx hb dL_refuses_696 (by decide +kernel) ?_
              refine lv_icmp_ge (tgt := 815) hx hb dL_refuses_697 (by decide) (fun c_697 => ?_) (fun c_697 => by have n_697 : ¬ 2 ≤ ((0 + 1) + 1) := fun h => c_697 ((g_leI (a := 2) (b := ((0 + 1) + 1)) rfl rfl (by decide) (by omega)).mpr h); exfalso; omega)
              have n_697 : 2 ≤ ((0 + 1) + 1) := (g_leI (a := 2) (b := ((0 + 1) + 1)) rfl rfl (by decide) (by omega)).mp c_697
              exact W.widen (by omega) (by omega) (j815  _ _ _ hP hD hS (lv_sub hl [4, 1] rfl) (Nat.le_trans (Nat.add_le_add_left (by omega) _) hG) )
      refine lv_aload_n hx hb dL_refuses_640 rfl (lv_at hl 0 rfl) ?_
      refine lv_iconst (v := nI 0) hx hb dL_refuses_641 (by decide +kernel) ?_
      refine lv_iload_n hx hb dL_refuses_642 rfl (lv_at hl 2 rfl) ?_
      refine lv_bipush (v := nI 100) hx hb dL_refuses_643 (by decide +kernel) ?_
      refine l_irem hx hb dL_refuses_645 (by omega) (by decide) (by decide) ?_
      refine g_callSWB (As := [.ref (q 0), .int (nI 0), .int (nI (X % 100))]) (rest := []) (wr := [(qn, .inl (cI, 1, .inl g))]) (wn := NW cI cZ q qn (g, u)) hx hb hml hown hts (lr_hasFile l D cI cZ q u 0 (by omega) (nI (X % 100)) (xR_in (n := 100) (by omega) (by omega))) gL_refuses_L_hasFile rfl rfl rfl hdL_hasFile ⟨Nat.le_of_ble_eq_true rfl, Nat.le_of_ble_eq_true rfl⟩ LE_em hE XT_tm hXT hP hK hD hS hA rfl hl.1 rfl (Nat.le_of_ble_eq_true rfl) dL_refuses_646 ⟨Nat.le_of_ble_eq_true rfl, Nat.le_of_ble_eq_true rfl⟩ [1, 2, 3, 4, 5, 6, 7, 8, 9, 10, 11, 12, 13, 14, 15, 16, 17] [0] [0, 1, 2, 3, 4, 5, 6, 7, 8, 9, 10, 11, 12, 13, 14, 15, 16, 17] (by decide) rfl rfl (by decide) (by decide) (by decide) rfl (fun H locs hP hD hS hz => ?_)
      have hG : s.heap.size + 33 ≤ H.size := Nat.le_trans hG hz
      refine W.eq (g2 := F0 m 649 ls [.int (xHas (u.1 5) (nI (X % 100)))]) rfl ?_
      refine lv_iconst (v := nI 1) hx hb dL_refuses_649 (by decide +kernel) ?_
      refine lv_icmp_eq (tgt := 666) hx hb dL_refuses_650 (by decide) (fun c_650 => ?_) (fun c_650 => ?_)
      · exact W.widen (by omega) (by omega) (j666  _ _ _ hP hD hS (lv_sub hl [0, 1, 2, 3, 4, 5, 6] rfl) (Nat.le_trans (Nat.add_le_add_left (by omega) _) hG) )
      · refine lv_aload_n hx hb dL_refuses_653 rfl (lv_at hl 0 rfl) ?_
        refine lv_iload_n hx hb dL_refuses_654 rfl (lv_at hl 2 rfl) ?_
        refine lv_bipush (v := nI 100) hx hb dL_refuses_655 (by decide +kernel) ?_
        refine l_irem hx hb dL_refuses_657 (by omega) (by decide) (by decide) ?_
        refine g_callSWB (As := [.ref (q 0), .int (nI (X % 100))]) (rest := []) (wr := [(qn, .inl (cI, 1, .inl g))]) (wn := NW cI cZ q qn (g, u)) hx hb hml hown hts (tx_loads l hst D cI cZ q u (nI (X % 100)) (z := 3) (fz_ld3 (xR_in (n := 100) (by omega) (by omega)) (one_01 (xHas_01' _ _) c_650)) (by decide)) gL_refuses_L_loads rfl rfl rfl hdL_loads ⟨Nat.le_of_ble_eq_true rfl, Nat.le_of_ble_eq_true rfl⟩ LE_em hE XT_tm hXT hP hK hD hS hA rfl hl.1 rfl (Nat.le_of_ble_eq_true rfl) dL_refuses_658 ⟨Nat.le_of_ble_eq_true rfl, Nat.le_of_ble_eq_true rfl⟩ [1, 2, 3, 4, 5, 6, 7, 8, 9, 10, 11, 12, 13, 14, 15, 16, 17] [0] [0, 1, 2, 3, 4, 5, 6, 7, 8, 9, 10, 11, 12, 13, 14, 15, 16, 17] (by decide) rfl rfl (by decide) (by decide) (by decide) rfl (fun H locs hP hD hS hz => ?_)
        have hG : s.heap.size + 34 ≤ H.size := Nat.le_trans (Nat.add_le_add_right hG 1) hz
        refine W.eq (g2 := F0 m 661 ls [.int (cdx 3)]) rfl ?_
        refine lv_ldc (v := (-2000000003)) hx hb hown (hts _ (List.mem_of_getElem? (i := 3) (by decide +kernel))) dL_refuses_661 ?_
        refine lv_icmp_ne (tgt := 670) hx hb dL_refuses_663 (by decide) (fun c_663 => by exact absurd cdx_3 c_663) (fun c_663 => ?_)
        exact W.widen (by omega) (by omega) (j666  _ _ _ hP hD hS (lv_sub hl [0, 1, 2, 3, 4, 5, 6] rfl) (Nat.le_trans (Nat.add_le_add_left (by omega) _) hG) )
    refine lv_aload_n hx hb dL_refuses_601 rfl (lv_at hl 0 rfl) ?_
    refine lv_iconst (v := nI 0) hx hb dL_refuses_602 (by decide +kernel) ?_
    refine lv_iload_n hx hb dL_refuses_603 rfl (lv_at hl 2 rfl) ?_
    refine lv_iconst (v := nI 4) hx hb dL_refuses_604 (by decide +kernel) ?_
    refine l_irem hx hb dL_refuses_605 (by omega) (by decide) (by decide) ?_
    refine g_callSWB (As := [.ref (q 0), .int (nI 0), .int (nI (X % 4))]) (rest := []) (wr := [(qn, .inl (cI, 1, .inl g))]) (wn := NW cI cZ q qn (g, u)) hx hb hml hown hts (lr_ref l D cI cZ q u 0 (by omega) (nI (X % 4)) (xR_in (n := 4) (by omega) (by omega))) gL_refuses_L_ref rfl rfl rfl hdL_ref ⟨Nat.le_of_ble_eq_true rfl, Nat.le_of_ble_eq_true rfl⟩ LE_em hE XT_tm hXT hP hK hD hS hA rfl hl.1 rfl (Nat.le_of_ble_eq_true rfl) dL_refuses_606 ⟨Nat.le_of_ble_eq_true rfl, Nat.le_of_ble_eq_true rfl⟩ [1, 2, 3, 4, 5, 6, 7, 8, 9, 10, 11, 12, 13, 14, 15, 16, 17] [0] [0, 1, 2, 3, 4, 5, 6, 7, 8, 9, 10, 11, 12, 13, 14, 15, 16, 17] (by decide) rfl rfl (by decide) (by decide) (by decide) rfl (fun H locs hP hD hS hz => ?_)
    have hG : s.heap.size + 33 ≤ H.size := Nat.le_trans hG hz
    refine W.eq (g2 := F0 m 609 ls [.int (xRefOf (u.1 6) (nI (X % 4)))]) rfl ?_
    refine lv_if_ge (tgt := 640) hx hb dL_refuses_609 (by decide) (fun c_609 => ?_) (fun c_609 => ?_)
    · exact W.widen (by omega) (by omega) (j640  _ _ _ hP hD hS (lv_sub hl [0, 1, 2, 3, 4, 5, 6] rfl) (Nat.le_trans (Nat.add_le_add_left (by omega) _) hG) )
    · have hR : xRefOf (u.1 6) (nI (X % 4)) = -1 := by
        rw [rf_at (by omega)] at c_609 ⊢
        rcases href (X % 4) (by omega) with h | ⟨j, hj, h⟩
        · exact h
        · exact absurd (by rw [h]; exact nI_pos' hj) c_609
      refine lv_aload_n hx hb dL_refuses_612 rfl (lv_at hl 0 rfl) ?_
      refine lv_iload_n hx hb dL_refuses_613 rfl (lv_at hl 2 rfl) ?_
      refine lv_iconst (v := nI 4) hx hb dL_refuses_614 (by decide +kernel) ?_
      refine l_irem hx hb dL_refuses_615 (by omega) (by decide) (by decide) ?_
      refine lv_iconst (v := nI 0) hx hb dL_refuses_616 (by decide +kernel) ?_
      refine lv_iconst (v := nI 1) hx hb dL_refuses_617 (by decide +kernel) ?_
      refine g_callSWB (As := [.ref (q 0), .int (nI (X % 4)), .int (nI 0), .int (nI 1)]) (rest := []) (wr := [(qn, .inl (cI, 1, .inl g))]) (wn := NW cI cZ q qn (g, u)) hx hb hml hown hts (tx_fetches l hst D cI cZ q u (nI (X % 4)) (nI 0) (nI 1) (z := 3) (fz_fet3 (xR_in (n := 4) (by omega) (by omega)) (by decide +kernel) (by decide +kernel) hR) (by decide)) gL_refuses_L_fetches rfl rfl rfl hdL_fetches ⟨Nat.le_of_ble_eq_true rfl, Nat.le_of_ble_eq_true rfl⟩ LE_em hE XT_tm hXT hP hK hD hS hA rfl hl.1 rfl (Nat.le_of_ble_eq_true rfl) dL_refuses_618 ⟨Nat.le_of_ble_eq_true rfl, Nat.le_of_ble_eq_true rfl⟩ [1, 2, 3, 4, 5, 6, 7, 8, 9, 10, 11, 12, 13, 14, 15, 16, 17] [0] [0, 1, 2, 3, 4, 5, 6, 7, 8, 9, 10, 11, 12, 13, 14, 15, 16, 17] (by decide) rfl rfl (by decide) (by decide) (by decide) rfl (fun H locs hP hD hS hz => ?_)
      have hG : s.heap.size + 34 ≤ H.size := Nat.le_trans (Nat.add_le_add_right hG 1) hz
      refine W.eq (g2 := F0 m 621 ls [.int (cdx 3)]) rfl ?_
      refine lv_ldc (v := (-2000000003)) hx hb hown (hts _ (List.mem_of_getElem? (i := 3) (by decide +kernel))) dL_refuses_621 ?_
      refine lv_icmp_ne (tgt := 670) hx hb dL_refuses_623 (by decide) (fun c_623 => by exact absurd cdx_3 c_623) (fun c_623 => ?_)
      refine lv_aload_n hx hb dL_refuses_626 rfl (lv_at hl 0 rfl) ?_
      refine lv_iload_n hx hb dL_refuses_627 rfl (lv_at hl 2 rfl) ?_
      refine lv_iconst (v := nI 4) hx hb dL_refuses_628 (by decide +kernel) ?_
      refine l_irem hx hb dL_refuses_629 (by omega) (by decide) (by decide) ?_
      refine lv_bipush (v := nI 60) hx hb dL_refuses_630 (by decide +kernel) ?_
      refine g_callSWB (As := [.ref (q 0), .int (nI (X % 4)), .int (nI 60)]) (rest := []) (wr := [(qn, .inl (cI, 1, .inl g))]) (wn := NW cI cZ q qn (g, u)) hx hb hml hown hts (tx_would l hst D cI cZ q u (nI (X % 4)) (nI 60) (z := 3) (fz_fet3 (xR_in (n := 4) (by omega) (by omega)) (by decide +kernel) (by decide +kernel) hR) (by decide)) gL_refuses_L_would rfl rfl rfl hdL_would ⟨Nat.le_of_ble_eq_true rfl, Nat.le_of_ble_eq_true rfl⟩ LE_em hE XT_tm hXT hP hK hD hS hA rfl hl.1 rfl (Nat.le_of_ble_eq_true rfl) dL_refuses_632 ⟨Nat.le_of_ble_eq_true rfl, Nat.le_of_ble_eq_true rfl⟩ [1, 2, 3, 4, 5, 6, 7, 8, 9, 10, 11, 12, 13, 14, 15, 16, 17] [0] [0, 1, 2, 3, 4, 5, 6, 7, 8, 9, 10, 11, 12, 13, 14, 15, 16, 17] (by decide) rfl rfl (by decide) (by decide) (by decide) rfl (fun H locs hP hD hS hz => ?_)
      have hG : s.heap.size + 35 ≤ H.size := Nat.le_trans (Nat.add_le_add_right hG 1) hz
      refine W.eq (g2 := F0 m 635 ls [.int (cdx 3)]) rfl ?_
      refine lv_ldc (v := (-2000000003)) hx hb hown (hts _ (List.mem_of_getElem? (i := 3) (by decide +kernel))) dL_refuses_635 ?_
      refine lv_icmp_ne (tgt := 670) hx hb dL_refuses_637 (by decide) (fun c_637 => by exact absurd cdx_3 c_637) (fun c_637 => ?_)
      exact W.widen (by omega) (by omega) (j640  _ _ _ hP hD hS (lv_sub hl [0, 1, 2, 3, 4, 5, 6] rfl) (Nat.le_trans (Nat.add_le_add_left (by omega) _) hG) )
  refine lv_iload_n hx hb dL_refuses_0 rfl (lv_at hl 2 rfl) ?_
  refine lv_iconst (v := nI 2) hx hb dL_refuses_1 (by decide +kernel) ?_
  refine l_irem hx hb dL_refuses_2 (by omega) (by decide) (by decide) ?_
  refine lv_if_ne (tgt := 10) hx hb dL_refuses_3 (by decide) (fun c_3 => ?_) (fun c_3 => ?_)
  · have n_3 : ¬ (X % 2) = 0 := fun h => c_3 ((g_eqI (a := (X % 2)) (b := 0) rfl rfl (by omega) (by decide)).mpr h)
    refine lv_iconst (v := nI 0) hx hb dL_refuses_10 (by decide +kernel) ?_
    refine lv_istore_n (lv' := [(3, .int (nI 0)), (0, .ref (q 0)), (1, .ref qn), (2, .int (nI X))]) hx hb dL_refuses_11 rfl hl (by decide) rfl (fun ls hl => ?_)
    refine lv_aload_n hx hb dL_refuses_12 rfl (lv_at hl 1 rfl) ?_
    refine g_callVF (As := []) (rest := []) (wr := [(qn, .inl (cI, 1, .inl g))]) (wn := NW cI cZ q qn (g, u)) hx hb hml hown hts (ctX2_commits l D cI cZ q u n hn h60) gL_refuses_X2_commits rfl rfl rfl hdX2_commits ⟨Nat.le_of_ble_eq_true rfl, Nat.le_of_ble_eq_true rfl⟩ XG_em hE.1.1 hP hK hD hS hA 0 rfl rfl rfl hl.1 rfl (Nat.le_of_ble_eq_true rfl) dL_refuses_13 ⟨Nat.le_of_ble_eq_true rfl, Nat.le_of_ble_eq_true rfl⟩ [1, 2, 3, 4, 5, 6, 7, 8, 9, 10, 11, 12, 13, 14, 15, 16, 17] [0] [0, 1, 2, 3, 4, 5, 6, 7, 8, 9, 10, 11, 12, 13, 14, 15, 16, 17] (by decide) rfl rfl (by decide) (by decide) (by decide) rfl (fun H locs hP hD hS hz => ?_)
    have hG : s.heap.size + 0 ≤ H.size := Nat.le_trans hG hz
    refine W.eq (g2 := F0 m 16 ls [.int (nI n)]) rfl ?_
    refine lv_istore (lv' := [(4, .int (nI n)), (3, .int (nI 0)), (0, .ref (q 0)), (1, .ref qn), (2, .int (nI X))]) hx hb dL_refuses_16 hl (by decide) rfl (fun ls hl => ?_)
    refine lv_iload_n hx hb dL_refuses_18 rfl (lv_at hl 1 rfl) ?_
    refine lv_if_eq (tgt := 32) hx hb dL_refuses_19 (by decide) (fun c_19 => ?_) (fun c_19 => by have n_19 : ¬ 0 = 0 := fun h => c_19 ((g_eqI (a := 0) (b := 0) rfl rfl (by decide) (by decide)).mpr h); exfalso; omega)
    have n_19 : 0 = 0 := (g_eqI (a := 0) (b := 0) rfl rfl (by decide) (by decide)).mp c_19
    refine lv_iload hx hb dL_refuses_32 (lv_at hl 0 rfl) ?_
    refine lv_iload_n hx hb dL_refuses_34 rfl (lv_at hl 4 rfl) ?_
    refine lv_bipush (v := nI 50) hx hb dL_refuses_35 (by decide +kernel) ?_
    refine l_irem hx hb dL_refuses_37 (by omega) (by decide) (by decide) ?_
    refine l_iadd hx hb dL_refuses_38 ?_
    refine lv_istore (lv' := [(5, .int (nI (n + (X % 50)))), (4, .int (nI n)), (3, .int (nI 0)), (0, .ref (q 0)), (1, .ref qn), (2, .int (nI X))]) hx hb dL_refuses_39 hl (by decide) rfl (fun ls hl => ?_)
    refine lv_iload_n hx hb dL_refuses_41 rfl (lv_at hl 2 rfl) ?_
    refine lv_if_eq (tgt := 54) hx hb dL_refuses_42 (by decide) (fun c_42 => ?_) (fun c_42 => by have n_42 : ¬ 0 = 0 := fun h => c_42 ((g_eqI (a := 0) (b := 0) rfl rfl (by decide) (by decide)).mpr h); exfalso; omega)
    have n_42 : 0 = 0 := (g_eqI (a := 0) (b := 0) rfl rfl (by decide) (by decide)).mp c_42
    refine lv_iconst (v := nI 2) hx hb dL_refuses_54 (by decide +kernel) ?_
    refine lv_iload_n hx hb dL_refuses_55 rfl (lv_at hl 5 rfl) ?_
    refine lv_bipush (v := nI 50) hx hb dL_refuses_56 (by decide +kernel) ?_
    refine l_irem hx hb dL_refuses_58 (by omega) (by decide) (by decide) ?_
    refine l_iadd hx hb dL_refuses_59 ?_
    refine lv_istore (lv' := [(6, .int (nI (2 + (X % 50)))), (5, .int (nI (n + (X % 50)))), (4, .int (nI n)), (3, .int (nI 0)), (0, .ref (q 0)), (1, .ref qn), (2, .int (nI X))]) hx hb dL_refuses_60 hl (by decide) rfl (fun ls hl => ?_)
    refine lv_iload_n hx hb dL_refuses_62 rfl (lv_at hl 3 rfl) ?_
    refine lv_if_eq (tgt := 75) hx hb dL_refuses_63 (by decide) (fun c_63 => ?_) (fun c_63 => by have n_63 : ¬ 0 = 0 := fun h => c_63 ((g_eqI (a := 0) (b := 0) rfl rfl (by decide) (by decide)).mpr h); exfalso; omega)
    have n_63 : 0 = 0 := (g_eqI (a := 0) (b := 0) rfl rfl (by decide) (by decide)).mp c_63
    refine lv_iconst (v := nI 4) hx hb dL_refuses_75 (by decide +kernel) ?_
    refine lv_iload_n hx hb dL_refuses_76 rfl (lv_at hl 6 rfl) ?_
    refine lv_bipush (v := nI 50) hx hb dL_refuses_77 (by decide +kernel) ?_
    refine l_irem hx hb dL_refuses_79 (by omega) (by decide) (by decide) ?_
    refine l_iadd hx hb dL_refuses_80 ?_
    refine lv_istore (lv' := [(7, .int (nI (4 + (X % 50)))), (6, .int (nI (2 + (X % 50)))), (5, .int (nI (n + (X % 50)))), (4, .int (nI n)), (3, .int (nI 0)), (0, .ref (q 0)), (1, .ref qn), (2, .int (nI X))]) hx hb dL_refuses_81 hl (by decide) rfl (fun ls hl => ?_)
    exact W.widen (by omega) (by omega) (main (nI (n + (X % 50))) (nI (2 + (X % 50))) (nI (4 + (X % 50))) _ _ _ hP hD hS (lv_sub hl [5, 6, 7, 3, 2, 1, 0] rfl) (Nat.le_trans (Nat.add_le_add_left (by omega) _) hG) (xR_big (n := n) (by omega) (by omega)) (nI_m1 (by omega)) (xR_big (n := 2) (by omega) (by omega)) (xR_big (n := 4) (by omega) (by omega)))
  · have n_3 : (X % 2) = 0 := (g_eqI (a := (X % 2)) (b := 0) rfl rfl (by omega) (by decide)).mp c_3
    refine lv_iconst (v := nI 1) hx hb dL_refuses_6 (by decide +kernel) ?_
    refine lv_goto (tgt := 11) hx hb dL_refuses_7 (by decide) ?_
    refine lv_istore_n (lv' := [(3, .int (nI 1)), (0, .ref (q 0)), (1, .ref qn), (2, .int (nI X))]) hx hb dL_refuses_11 rfl hl (by decide) rfl (fun ls hl => ?_)
    refine lv_aload_n hx hb dL_refuses_12 rfl (lv_at hl 1 rfl) ?_
    refine g_callVF (As := []) (rest := []) (wr := [(qn, .inl (cI, 1, .inl g))]) (wn := NW cI cZ q qn (g, u)) hx hb hml hown hts (ctX2_commits l D cI cZ q u n hn h60) gL_refuses_X2_commits rfl rfl rfl hdX2_commits ⟨Nat.le_of_ble_eq_true rfl, Nat.le_of_ble_eq_true rfl⟩ XG_em hE.1.1 hP hK hD hS hA 0 rfl rfl rfl hl.1 rfl (Nat.le_of_ble_eq_true rfl) dL_refuses_13 ⟨Nat.le_of_ble_eq_true rfl, Nat.le_of_ble_eq_true rfl⟩ [1, 2, 3, 4, 5, 6, 7, 8, 9, 10, 11, 12, 13, 14, 15, 16, 17] [0] [0, 1, 2, 3, 4, 5, 6, 7, 8, 9, 10, 11, 12, 13, 14, 15, 16, 17] (by decide) rfl rfl (by decide) (by decide) (by decide) rfl (fun H locs hP hD hS hz => ?_)
    have hG : s.heap.size + 0 ≤ H.size := Nat.le_trans hG hz
    refine W.eq (g2 := F0 m 16 ls [.int (nI n)]) rfl ?_
    refine lv_istore (lv' := [(4, .int (nI n)), (3, .int (nI 1)), (0, .ref (q 0)), (1, .ref qn), (2, .int (nI X))]) hx hb dL_refuses_16 hl (by decide) rfl (fun ls hl => ?_)
    refine lv_iload_n hx hb dL_refuses_18 rfl (lv_at hl 1 rfl) ?_
    refine lv_if_eq (tgt := 32) hx hb dL_refuses_19 (by decide) (fun c_19 => by have n_19 : 1 = 0 := (g_eqI (a := 1) (b := 0) rfl rfl (by decide) (by decide)).mp c_19; exfalso; omega) (fun c_19 => ?_)
    have n_19 : ¬ 1 = 0 := fun h => c_19 ((g_eqI (a := 1) (b := 0) rfl rfl (by decide) (by decide)).mpr h)
    refine lv_bipush (v := (-2)) hx hb dL_refuses_22 (by decide +kernel) ?_
    refine lv_iload_n hx hb dL_refuses_24 rfl (lv_at hl 4 rfl) ?_
    refine lv_bipush (v := nI 50) hx hb dL_refuses_25 (by decide +kernel) ?_
    refine l_irem hx hb dL_refuses_27 (by omega) (by decide) (by decide) ?_
    refine lv_isub hx hb dL_refuses_28 ?_
    refine lv_goto (tgt := 39) hx hb dL_refuses_29 (by decide) ?_
    refine lv_istore (lv' := [(5, .int ((-2) - (nI (X % 50)))), (4, .int (nI n)), (3, .int (nI 1)), (0, .ref (q 0)), (1, .ref qn), (2, .int (nI X))]) hx hb dL_refuses_39 hl (by decide) rfl (fun ls hl => ?_)
    refine lv_iload_n hx hb dL_refuses_41 rfl (lv_at hl 2 rfl) ?_
    refine lv_if_eq (tgt := 54) hx hb dL_refuses_42 (by decide) (fun c_42 => by have n_42 : 1 = 0 := (g_eqI (a := 1) (b := 0) rfl rfl (by decide) (by decide)).mp c_42; exfalso; omega) (fun c_42 => ?_)
    have n_42 : ¬ 1 = 0 := fun h => c_42 ((g_eqI (a := 1) (b := 0) rfl rfl (by decide) (by decide)).mpr h)
    refine lv_iconst (v := (-1)) hx hb dL_refuses_45 (by decide +kernel) ?_
    refine lv_iload_n hx hb dL_refuses_46 rfl (lv_at hl 5 rfl) ?_
    refine lv_bipush (v := nI 50) hx hb dL_refuses_47 (by decide +kernel) ?_
    refine l_irem hx hb dL_refuses_49 (by omega) (by decide) (by decide) ?_
    refine lv_isub hx hb dL_refuses_50 ?_
    refine lv_goto (tgt := 60) hx hb dL_refuses_51 (by decide) ?_
    refine lv_istore (lv' := [(6, .int ((-1) - (nI (X % 50)))), (5, .int ((-2) - (nI (X % 50)))), (4, .int (nI n)), (3, .int (nI 1)), (0, .ref (q 0)), (1, .ref qn), (2, .int (nI X))]) hx hb dL_refuses_60 hl (by decide) rfl (fun ls hl => ?_)
    refine lv_iload_n hx hb dL_refuses_62 rfl (lv_at hl 3 rfl) ?_
    refine lv_if_eq (tgt := 75) hx hb dL_refuses_63 (by decide) (fun c_63 => by have n_63 : 1 = 0 := (g_eqI (a := 1) (b := 0) rfl rfl (by decide) (by decide)).mp c_63; exfalso; omega) (fun c_63 => ?_)
    have n_63 : ¬ 1 = 0 := fun h => c_63 ((g_eqI (a := 1) (b := 0) rfl rfl (by decide) (by decide)).mpr h)
    refine lv_iconst (v := (-1)) hx hb dL_refuses_66 (by decide +kernel) ?_
    refine lv_iload_n hx hb dL_refuses_67 rfl (lv_at hl 6 rfl) ?_
    refine lv_bipush (v := nI 50) hx hb dL_refuses_68 (by decide +kernel) ?_
    refine l_irem hx hb dL_refuses_70 (by omega) (by decide) (by decide) ?_
    refine lv_isub hx hb dL_refuses_71 ?_
    refine lv_goto (tgt := 81) hx hb dL_refuses_72 (by decide) ?_
    refine lv_istore (lv' := [(7, .int ((-1) - (nI (X % 50)))), (6, .int ((-1) - (nI (X % 50)))), (5, .int ((-2) - (nI (X % 50)))), (4, .int (nI n)), (3, .int (nI 1)), (0, .ref (q 0)), (1, .ref qn), (2, .int (nI X))]) hx hb dL_refuses_81 hl (by decide) rfl (fun ls hl => ?_)
    exact W.widen (by omega) (by omega) (main ((-2) - (nI (X % 50))) ((-1) - (nI (X % 50))) ((-1) - (nI (X % 50))) _ _ _ hP hD hS (lv_sub hl [5, 6, 7, 3, 2, 1, 0] rfl) (Nat.le_trans (Nat.add_le_add_left (by omega) _) hG) (xR_neg _ (n_sub_neg (a := 2) (by omega) (by omega) (by omega) toInt_m2)) (n_sub_m1 (a := 2) (by omega) (by omega) (by omega) toInt_m2) (xR_neg _ (n_sub_neg (a := 1) (by omega) (by omega) (by omega) toInt_m1)) (xR_neg _ (n_sub_neg (a := 1) (by omega) (by omega) (by omega) toInt_m1)))
