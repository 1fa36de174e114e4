/-! THE LAW: two houses are alike -/
def XX (cI cZ : ClassId) (q qb : Nat → Nat) (z : SX × SX) : va_W := XW cI cZ q z.1 ++ XW cI cZ qb z.2
/-- the rows for use again -/
def sF (n : Nat) (u : SX) : SX := gS u 4 (xFiles n (u.1 2) (u.2 1) (u.1 4))
theorem nI_inc4 (k : Nat) : nI k + Int32.ofInt 4 = nI (k + 4) := by rw [show Int32.ofInt 4 = nI 4 from by decide +kernel]; exact nI_add _ _
theorem sF_n {n : Nat} {u : SX} (hn : u.1 15 0 = nI n) : (sF n u).1 15 0 = nI n := hn
theorem sF_at {n : Nat} {u : SX} (k : Nat) (h : k ≠ 4) : (sF n u).1 k = u.1 k := by
  show va_up u.1 4 _ k = u.1 k
  unfold va_up
  exact if_neg h
theorem sF_2 {n : Nat} {u : SX} : (sF n u).2 = u.2 := rfl
abbrev rmL_alike : Room := { frames := 10, cells := 0, slots := 0, locals := 263 }
theorem hdL_alike : yL_alike.cls ≠ "java/lang/invoke/MethodHandle" ∧ yL_alike.cls ≠ "java/lang/invoke/VarHandle" ∧ (parseMethodDescriptor yL_alike.desc).map (fun d => d.parameters.length) = some 3 := by decide +kernel
set_option maxHeartbeats 4000000 in
set_option maxRecDepth 100000 in
theorem cr_alike (l : Launch) (hst : l.stackTraces = false) (D : va_G) (cI cZ : ClassId) (q qb : Nat → Nat) (u v : SX) (n : Nat) (hnu : u.1 15 0 = nI n) (hnv : v.1 15 0 = nI n) (h60 : n ≤ 60) (hq : ∀ k, k ≠ 3 → k ≠ 4 → u.1 k = v.1 k) (h2 : u.2 = v.2) (hL : xLack (xFiles n (u.1 2) (u.2 1) (u.1 4)) (u.1 7) = xLack (xFiles n (v.1 2) (v.2 1) (v.1 4)) (v.1 7)) (X : Nat) (hX : X < 2 ^ 31) : gB l yL_alike wsL_alike rmL_alike D (tyXZ cI cZ) (XX cI cZ q qb) LE XT [.ref (q 0), .ref (qb 0), .int (nI X)] (u, v) (some (.int 1)) (sF n u, sF n v) 0 0 0 := by
  refine g_startB (cc := cL_alike) (maxL := 5) (ret := (some .boolean)) (by decide) rfl (Nat.le_of_ble_eq_true rfl) ?_
  intro p e s m below meth c A ls Q hx hb hml hret hts hown hlk hE hP hK hD hA hl hQ hS hXT
  have hown : s.vm.findClass RL = some m.cls := hown
  have hl : lv_has ls 5 [(0, .ref (q 0)), (1, .ref (qb 0)), (2, .int (nI X))] := hl
  have hG : s.heap.size + 0 ≤ s.heap.size := Nat.le_refl _
  have he : u.1 14 0 = v.1 14 0 := by rw [hq 14 (by decide) (by decide)]
  have rest : ∀ (uA vA : SX) (H : Heap) (locs : List Loc) (ls : Array Slot) (hP : va_P D vwCl (XX cI cZ q qb (uA, vA)) H) (hD : va_D A (XX cI cZ q qb (uA, vA))) (hS : va_S A s.heap H locs) (hl : lv_has ls 5 [(0, .ref (q 0)), (1, .ref (qb 0)), (2, .int (nI X)), (3, .int (nI 1))]) (hG : s.heap.size + 0 ≤ H.size) (hnu : uA.1 15 0 = nI n) (hnv : vA.1 15 0 = nI n) (hq : ∀ k, k ≠ 3 → k ≠ 4 → uA.1 k = vA.1 k) (h2 : uA.2 = vA.2) (hus : uA = sF n u) (hvs : vA = sF n v), W p l e rmL_alike s m ([.ref (q 0), .ref (qb 0), .int (nI X)] : List Value).toArray below meth c H locs 0 0 Q (F0 m 39 ls []) := by
    intro uA vA H locs ls hP hD hS hl hG hnu hnv hq h2 hus hvs
    refine lv_iconst (v := nI 0) hx hb dL_alike_39 (by decide +kernel) ?_
    refine lv_istore (lv' := [(4, .int (nI 0)), (0, .ref (q 0)), (1, .ref (qb 0)), (2, .int (nI X)), (3, .int (nI 1))]) hx hb dL_alike_40 hl (by decide) rfl (fun ls hl => ?_)
    have loop1 : ∀ (d k : Nat) (H : Heap) (locs : List Loc) (ls : Array Slot) (hP : va_P D vwCl (XX cI cZ q qb (uA, vA)) H) (hD : va_D A (XX cI cZ q qb (uA, vA))) (hS : va_S A s.heap H locs) (hl : lv_has ls 5 [(0, .ref (q 0)), (1, .ref (qb 0)), (2, .int (nI X)), (3, .int (nI 1)), (4, .int (nI k))]) (hG : s.heap.size + 0 ≤ H.size) (hk : k + d = 8), W p l e rmL_alike s m ([.ref (q 0), .ref (qb 0), .int (nI X)] : List Value).toArray below meth c H locs 0 0 Q (F0 m 42 ls []) := by
      intro d
      induction d with
      | zero =>
        intro k H locs ls hP hD hS hl hG hk
        refine lv_iload hx hb dL_alike_42 (lv_at hl 4 rfl) ?_
        refine lv_bipush (v := nI 8) hx hb dL_alike_44 (by decide +kernel) ?_
        refine lv_icmp_ge (tgt := 92) hx hb dL_alike_46 (by decide) (fun c_46 => ?_) (fun c_46 => by have n_46 : ¬ 8 ≤ k := fun h => c_46 ((g_leI (a := 8) (b := k) rfl rfl (by decide) (by omega)).mpr h); exfalso; omega)
        have n_46 : 8 ≤ k := (g_leI (a := 8) (b := k) rfl rfl (by decide) (by omega)).mp c_46
        refine lv_iconst (v := nI 0) hx hb dL_alike_92 (by decide +kernel) ?_
        refine lv_istore (lv' := [(4, .int (nI 0)), (0, .ref (q 0)), (1, .ref (qb 0)), (2, .int (nI X)), (3, .int (nI 1))]) hx hb dL_alike_93 hl (by decide) rfl (fun ls hl => ?_)
        have loop2 : ∀ (d k : Nat) (H : Heap) (locs : List Loc) (ls : Array Slot) (hP : va_P D vwCl (XX cI cZ q qb (uA, vA)) H) (hD : va_D A (XX cI cZ q qb (uA, vA))) (hS : va_S A s.heap H locs) (hl : lv_has ls 5 [(0, .ref (q 0)), (1, .ref (qb 0)), (2, .int (nI X)), (3, .int (nI 1)), (4, .int (nI k))]) (hG : s.heap.size + 0 ≤ H.size) (hk : k + d = n), W p l e rmL_alike s m ([.ref (q 0), .ref (qb 0), .int (nI X)] : List Value).toArray below meth c H locs 0 0 Q (F0 m 95 ls []) := by
          intro d
          induction d with
          | zero =>
            intro k H locs ls hP hD hS hl hG hk
            refine lv_iload hx hb dL_alike_95 (lv_at hl 4 rfl) ?_
            refine lv_aload_n hx hb dL_alike_97 rfl (lv_at hl 0 rfl) ?_
            refine g_callVF (As := []) (rest := [.int (nI k)]) (wr := XW cI cZ qb vA) (wn := XX cI cZ q qb (uA, vA)) hx hb hml hown hts (ctX2_commits l D cI cZ q uA n hnu h60) gL_alike_X2_commits rfl rfl rfl hdX2_commits ⟨Nat.le_of_ble_eq_true rfl, Nat.le_of_ble_eq_true rfl⟩ XG_em hE.1.1 hP hK hD hS hA 0 rfl rfl rfl hl.1 rfl (Nat.le_of_ble_eq_true rfl) dL_alike_98 ⟨Nat.le_of_ble_eq_true rfl, Nat.le_of_ble_eq_true rfl⟩ [0, 1, 2, 3, 4, 5, 6, 7, 8, 9, 10, 11, 12, 13, 14, 15, 16] [17, 18, 19, 20, 21, 22, 23, 24, 25, 26, 27, 28, 29, 30, 31, 32, 33] [17, 18, 19, 20, 21, 22, 23, 24, 25, 26, 27, 28, 29, 30, 31, 32, 33, 0, 1, 2, 3, 4, 5, 6, 7, 8, 9, 10, 11, 12, 13, 14, 15, 16] (by decide) rfl rfl (by decide) (by decide) (by decide) rfl (fun H locs hP hD hS hz => ?_)
            have hG : s.heap.size + 0 ≤ H.size := Nat.le_trans hG hz
            refine W.eq (g2 := F0 m 101 ls [.int (nI n), .int (nI k)]) rfl ?_
            refine lv_icmp_ge (tgt := 190) hx hb dL_alike_101 (by decide) (fun c_101 => ?_) (fun c_101 => by have n_101 : ¬ n ≤ k := fun h => c_101 ((g_leI (a := n) (b := k) rfl rfl (by omega) (by omega)).mpr h); exfalso; omega)
            have n_101 : n ≤ k := (g_leI (a := n) (b := k) rfl rfl (by omega) (by omega)).mp c_101
            refine lv_iload_n hx hb dL_alike_190 rfl (lv_at hl 2 rfl) ?_
            refine lv_iconst (v := nI 4) hx hb dL_alike_191 (by decide +kernel) ?_
            refine l_irem hx hb dL_alike_192 (by omega) (by decide) (by decide) ?_
            refine lv_istore (lv' := [(4, .int (nI (X % 4))), (0, .ref (q 0)), (1, .ref (qb 0)), (2, .int (nI X)), (3, .int (nI 1))]) hx hb dL_alike_193 hl (by decide) rfl (fun ls hl => ?_)
            have loop3 : ∀ (d k : Nat) (H : Heap) (locs : List Loc) (ls : Array Slot) (hP : va_P D vwCl (XX cI cZ q qb (uA, vA)) H) (hD : va_D A (XX cI cZ q qb (uA, vA))) (hS : va_S A s.heap H locs) (hl : lv_has ls 5 [(0, .ref (q 0)), (1, .ref (qb 0)), (2, .int (nI X)), (3, .int (nI 1)), (4, .int (nI k))]) (hG : s.heap.size + 0 ≤ H.size) (hk : 30 ≤ k + 4 * d) (hk2 : k < 34), W p l e rmL_alike s m ([.ref (q 0), .ref (qb 0), .int (nI X)] : List Value).toArray below meth c H locs 0 0 Q (F0 m 195 ls []) := by
              intro d
              induction d with
              | zero =>
                intro k H locs ls hP hD hS hl hG hk hk2
                refine lv_iload hx hb dL_alike_195 (lv_at hl 4 rfl) ?_
                refine lv_bipush (v := nI 30) hx hb dL_alike_197 (by decide +kernel) ?_
                refine lv_icmp_ge (tgt := 252) hx hb dL_alike_199 (by decide) (fun c_199 => ?_) (fun c_199 => by have n_199 : ¬ 30 ≤ k := fun h => c_199 ((g_leI (a := 30) (b := k) rfl rfl (by decide) (by omega)).mpr h); exfalso; omega)
                have n_199 : 30 ≤ k := (g_leI (a := 30) (b := k) rfl rfl (by decide) (by omega)).mp c_199
                refine lv_iload_n hx hb dL_alike_252 rfl (lv_at hl 3 rfl) ?_
                exact g_retB (u1 := (uA, vA)) hx hb hret (g_nar01 _ (Or.inr rfl)) hlk hQ (by omega) (by omega) hP hD hS (Nat.le_trans (Nat.add_le_add_left (by omega) _) hG) dL_alike_253 rfl (by rw [hus, hvs])
              | succ d ih =>
                intro k H locs ls hP hD hS hl hG hk hk2
                refine lv_iload hx hb dL_alike_195 (lv_at hl 4 rfl) ?_
                refine lv_bipush (v := nI 30) hx hb dL_alike_197 (by decide +kernel) ?_
                refine lv_icmp_ge (tgt := 252) hx hb dL_alike_199 (by decide) (fun c_199 => ?_) (fun c_199 => ?_)
                · have n_199 : 30 ≤ k := (g_leI (a := 30) (b := k) rfl rfl (by decide) (by omega)).mp c_199
                  refine lv_iload_n hx hb dL_alike_252 rfl (lv_at hl 3 rfl) ?_
                  exact g_retB (u1 := (uA, vA)) hx hb hret (g_nar01 _ (Or.inr rfl)) hlk hQ (by omega) (by omega) hP hD hS (Nat.le_trans (Nat.add_le_add_left (by omega) _) hG) dL_alike_253 rfl (by rw [hus, hvs])
                · have n_199 : ¬ 30 ≤ k := fun h => c_199 ((g_leI (a := 30) (b := k) rfl rfl (by decide) (by omega)).mpr h)
                  refine lv_iload_n hx hb dL_alike_202 rfl (lv_at hl 3 rfl) ?_
                  refine lv_if_eq (tgt := 252) hx hb dL_alike_203 (by decide) (fun c_203 => by have n_203 : 1 = 0 := (g_eqI (a := 1) (b := 0) rfl rfl (by decide) (by decide)).mp c_203; exfalso; omega) (fun c_203 => ?_)
                  have n_203 : ¬ 1 = 0 := fun h => c_203 ((g_eqI (a := 1) (b := 0) rfl rfl (by decide) (by decide)).mpr h)
                  refine lv_aload_n hx hb dL_alike_206 rfl (lv_at hl 0 rfl) ?_
                  refine lv_iconst (v := nI 0) hx hb dL_alike_207 (by decide +kernel) ?_
                  refine lv_iload hx hb dL_alike_208 (lv_at hl 4 rfl) ?_
                  refine g_callSWB (As := [.ref (q 0), .int (nI 0), .int (nI k)]) (rest := []) (wr := XW cI cZ qb vA) (wn := XX cI cZ q qb (uA, vA)) hx hb hml hown hts (lr_hasFile l D cI cZ q uA 0 (by omega) (nI k) (xR_in (n := 100) (by omega) (by omega))) gL_alike_L_hasFile rfl rfl rfl hdL_hasFile ⟨Nat.le_of_ble_eq_true rfl, Nat.le_of_ble_eq_true rfl⟩ LE_em hE XT_tm hXT hP hK hD hS hA rfl hl.1 rfl (Nat.le_of_ble_eq_true rfl) dL_alike_210 ⟨Nat.le_of_ble_eq_true rfl, Nat.le_of_ble_eq_true rfl⟩ [0, 1, 2, 3, 4, 5, 6, 7, 8, 9, 10, 11, 12, 13, 14, 15, 16] [17, 18, 19, 20, 21, 22, 23, 24, 25, 26, 27, 28, 29, 30, 31, 32, 33] [17, 18, 19, 20, 21, 22, 23, 24, 25, 26, 27, 28, 29, 30, 31, 32, 33, 0, 1, 2, 3, 4, 5, 6, 7, 8, 9, 10, 11, 12, 13, 14, 15, 16] (by decide) rfl rfl (by decide) (by decide) (by decide) rfl (fun H locs hP hD hS hz => ?_)
                  have hG : s.heap.size + 0 ≤ H.size := Nat.le_trans hG hz
                  refine W.eq (g2 := F0 m 213 ls [.int (xHas (uA.1 (5 + 2 * 0)) (nI k))]) rfl ?_
                  refine lv_aload_n hx hb dL_alike_213 rfl (lv_at hl 1 rfl) ?_
                  refine lv_iconst (v := nI 0) hx hb dL_alike_214 (by decide +kernel) ?_
                  refine lv_iload hx hb dL_alike_215 (lv_at hl 4 rfl) ?_
                  refine g_callSWB (As := [.ref (qb 0), .int (nI 0), .int (nI k)]) (rest := [.int (xHas (uA.1 (5 + 2 * 0)) (nI k))]) (wr := XW cI cZ q uA) (wn := XX cI cZ q qb (uA, vA)) hx hb hml hown hts (lr_hasFile l D cI cZ qb vA 0 (by omega) (nI k) (xR_in (n := 100) (by omega) (by omega))) gL_alike_L_hasFile rfl rfl rfl hdL_hasFile ⟨Nat.le_of_ble_eq_true rfl, Nat.le_of_ble_eq_true rfl⟩ LE_em hE XT_tm hXT hP hK hD hS hA rfl hl.1 rfl (Nat.le_of_ble_eq_true rfl) dL_alike_217 ⟨Nat.le_of_ble_eq_true rfl, Nat.le_of_ble_eq_true rfl⟩ [17, 18, 19, 20, 21, 22, 23, 24, 25, 26, 27, 28, 29, 30, 31, 32, 33] [0, 1, 2, 3, 4, 5, 6, 7, 8, 9, 10, 11, 12, 13, 14, 15, 16] [0, 1, 2, 3, 4, 5, 6, 7, 8, 9, 10, 11, 12, 13, 14, 15, 16, 17, 18, 19, 20, 21, 22, 23, 24, 25, 26, 27, 28, 29, 30, 31, 32, 33] (by decide) rfl rfl (by decide) (by decide) (by decide) rfl (fun H locs hP hD hS hz => ?_)
                  have hG : s.heap.size + 0 ≤ H.size := Nat.le_trans hG hz
                  refine W.eq (g2 := F0 m 220 ls [.int (xHas (vA.1 (5 + 2 * 0)) (nI k)), .int (xHas (uA.1 (5 + 2 * 0)) (nI k))]) rfl ?_
                  refine lv_icmp_ne (tgt := 244) hx hb dL_alike_220 (by decide) (fun c_220 => by exact absurd (by rw [hq (5 + 2 * 0) (by omega) (by omega)]) c_220) (fun c_220 => ?_)
                  refine lv_aload_n hx hb dL_alike_223 rfl (lv_at hl 0 rfl) ?_
                  refine lv_iconst (v := nI 1) hx hb dL_alike_224 (by decide +kernel) ?_
                  refine lv_iload hx hb dL_alike_225 (lv_at hl 4 rfl) ?_
                  refine g_callSWB (As := [.ref (q 0), .int (nI 1), .int (nI k)]) (rest := []) (wr := XW cI cZ qb vA) (wn := XX cI cZ q qb (uA, vA)) hx hb hml hown hts (lr_hasFile l D cI cZ q uA 1 (by omega) (nI k) (xR_in (n := 100) (by omega) (by omega))) gL_alike_L_hasFile rfl rfl rfl hdL_hasFile ⟨Nat.le_of_ble_eq_true rfl, Nat.le_of_ble_eq_true rfl⟩ LE_em hE XT_tm hXT hP hK hD hS hA rfl hl.1 rfl (Nat.le_of_ble_eq_true rfl) dL_alike_227 ⟨Nat.le_of_ble_eq_true rfl, Nat.le_of_ble_eq_true rfl⟩ [0, 1, 2, 3, 4, 5, 6, 7, 8, 9, 10, 11, 12, 13, 14, 15, 16] [17, 18, 19, 20, 21, 22, 23, 24, 25, 26, 27, 28, 29, 30, 31, 32, 33] [17, 18, 19, 20, 21, 22, 23, 24, 25, 26, 27, 28, 29, 30, 31, 32, 33, 0, 1, 2, 3, 4, 5, 6, 7, 8, 9, 10, 11, 12, 13, 14, 15, 16] (by decide) rfl rfl (by decide) (by decide) (by decide) rfl (fun H locs hP hD hS hz => ?_)
                  have hG : s.heap.size + 0 ≤ H.size := Nat.le_trans hG hz
                  refine W.eq (g2 := F0 m 230 ls [.int (xHas (uA.1 (5 + 2 * 1)) (nI k))]) rfl ?_
                  refine lv_aload_n hx hb dL_alike_230 rfl (lv_at hl 1 rfl) ?_
                  refine lv_iconst (v := nI 1) hx hb dL_alike_231 (by decide +kernel) ?_
                  refine lv_iload hx hb dL_alike_232 (lv_at hl 4 rfl) ?_
                  refine g_callSWB (As := [.ref (qb 0), .int (nI 1), .int (nI k)]) (rest := [.int (xHas (uA.1 (5 + 2 * 1)) (nI k))]) (wr := XW cI cZ q uA) (wn := XX cI cZ q qb (uA, vA)) hx hb hml hown hts (lr_hasFile l D cI cZ qb vA 1 (by omega) (nI k) (xR_in (n := 100) (by omega) (by omega))) gL_alike_L_hasFile rfl rfl rfl hdL_hasFile ⟨Nat.le_of_ble_eq_true rfl, Nat.le_of_ble_eq_true rfl⟩ LE_em hE XT_tm hXT hP hK hD hS hA rfl hl.1 rfl (Nat.le_of_ble_eq_true rfl) dL_alike_234 ⟨Nat.le_of_ble_eq_true rfl, Nat.le_of_ble_eq_true rfl⟩ [17, 18, 19, 20, 21, 22, 23, 24, 25, 26, 27, 28, 29, 30, 31, 32, 33] [0, 1, 2, 3, 4, 5, 6, 7, 8, 9, 10, 11, 12, 13, 14, 15, 16] [0, 1, 2, 3, 4, 5, 6, 7, 8, 9, 10, 11, 12, 13, 14, 15, 16, 17, 18, 19, 20, 21, 22, 23, 24, 25, 26, 27, 28, 29, 30, 31, 32, 33] (by decide) rfl rfl (by decide) (by decide) (by decide) rfl (fun H locs hP hD hS hz => ?_)
                  have hG : s.heap.size + 0 ≤ H.size := Nat.le_trans hG hz
                  refine W.eq (g2 := F0 m 237 ls [.int (xHas (vA.1 (5 + 2 * 1)) (nI k)), .int (xHas (uA.1 (5 + 2 * 1)) (nI k))]) rfl ?_
                  refine lv_icmp_ne (tgt := 244) hx hb dL_alike_237 (by decide) (fun c_237 => by exact absurd (by rw [hq (5 + 2 * 1) (by omega) (by omega)]) c_237) (fun c_237 => ?_)
                  refine lv_iconst (v := nI 1) hx hb dL_alike_240 (by decide +kernel) ?_
                  refine lv_goto (tgt := 245) hx hb dL_alike_241 (by decide) ?_
                  refine lv_istore_n (lv' := [(3, .int (nI 1)), (0, .ref (q 0)), (1, .ref (qb 0)), (2, .int (nI X)), (4, .int (nI k))]) hx hb dL_alike_245 rfl hl (by decide) rfl (fun ls hl => ?_)
                  refine lv_iinc (v := (nI (k + 4))) (lv' := [(4, .int (nI (k + 4))), (3, .int (nI 1)), (0, .ref (q 0)), (1, .ref (qb 0)), (2, .int (nI X))]) hx hb dL_alike_246 hl (k := 4) rfl (nI_inc4 _) (by decide) rfl (fun ls hl => ?_)
                  refine lv_goto (tgt := 195) hx hb dL_alike_249 (by decide) ?_
                  exact W.widen (by omega) (by omega) (ih (k + 4) _ _ _ hP hD hS (lv_sub hl [2, 3, 4, 1, 0] rfl) (Nat.le_trans (Nat.add_le_add_left (by omega) _) hG) (by omega) (by omega))
            exact W.widen (by omega) (by omega) (loop3 8 (X % 4) _ _ _ hP hD hS (lv_sub hl [1, 2, 3, 4, 0] rfl) (Nat.le_trans (Nat.add_le_add_left (by omega) _) hG) (by omega) (by omega))
          | succ d ih =>
            intro k H locs ls hP hD hS hl hG hk
            refine lv_iload hx hb dL_alike_95 (lv_at hl 4 rfl) ?_
            refine lv_aload_n hx hb dL_alike_97 rfl (lv_at hl 0 rfl) ?_
            refine g_callVF (As := []) (rest := [.int (nI k)]) (wr := XW cI cZ qb vA) (wn := XX cI cZ q qb (uA, vA)) hx hb hml hown hts (ctX2_commits l D cI cZ q uA n hnu h60) gL_alike_X2_commits rfl rfl rfl hdX2_commits ⟨Nat.le_of_ble_eq_true rfl, Nat.le_of_ble_eq_true rfl⟩ XG_em hE.1.1 hP hK hD hS hA 0 rfl rfl rfl hl.1 rfl (Nat.le_of_ble_eq_true rfl) dL_alike_98 ⟨Nat.le_of_ble_eq_true rfl, Nat.le_of_ble_eq_true rfl⟩ [0, 1, 2, 3, 4, 5, 6, 7, 8, 9, 10, 11, 12, 13, 14, 15, 16] [17, 18, 19, 20, 21, 22, 23, 24, 25, 26, 27, 28, 29, 30, 31, 32, 33] [17, 18, 19, 20, 21, 22, 23, 24, 25, 26, 27, 28, 29, 30, 31, 32, 33, 0, 1, 2, 3, 4, 5, 6, 7, 8, 9, 10, 11, 12, 13, 14, 15, 16] (by decide) rfl rfl (by decide) (by decide) (by decide) rfl (fun H locs hP hD hS hz => ?_)
            have hG : s.heap.size + 0 ≤ H.size := Nat.le_trans hG hz
            refine W.eq (g2 := F0 m 101 ls [.int (nI n), .int (nI k)]) rfl ?_
            refine lv_icmp_ge (tgt := 190) hx hb dL_alike_101 (by decide) (fun c_101 => by have n_101 : n ≤ k := (g_leI (a := n) (b := k) rfl rfl (by omega) (by omega)).mp c_101; exfalso; omega) (fun c_101 => ?_)
            have n_101 : ¬ n ≤ k := fun h => c_101 ((g_leI (a := n) (b := k) rfl rfl (by omega) (by omega)).mpr h)
            refine lv_iload_n hx hb dL_alike_104 rfl (lv_at hl 3 rfl) ?_
            refine lv_if_eq (tgt := 190) hx hb dL_alike_105 (by decide) (fun c_105 => by have n_105 : 1 = 0 := (g_eqI (a := 1) (b := 0) rfl rfl (by decide) (by decide)).mp c_105; exfalso; omega) (fun c_105 => ?_)
            have n_105 : ¬ 1 = 0 := fun h => c_105 ((g_eqI (a := 1) (b := 0) rfl rfl (by decide) (by decide)).mpr h)
            refine lv_aload_n hx hb dL_alike_108 rfl (lv_at hl 0 rfl) ?_
            refine lv_iconst (v := nI 0) hx hb dL_alike_109 (by decide +kernel) ?_
            refine lv_iload hx hb dL_alike_110 (lv_at hl 4 rfl) ?_
            refine g_callSWB (As := [.ref (q 0), .int (nI 0), .int (nI k)]) (rest := []) (wr := XW cI cZ qb vA) (wn := XX cI cZ q qb (uA, vA)) hx hb hml hown hts (lr_has l D cI cZ q uA n hnu h60 0 (by omega) (nI k) (xR_in (n := n) (by omega) (by omega))) gL_alike_L_has rfl rfl rfl hdL_has ⟨Nat.le_of_ble_eq_true rfl, Nat.le_of_ble_eq_true rfl⟩ LE_em hE XT_tm hXT hP hK hD hS hA rfl hl.1 rfl (Nat.le_of_ble_eq_true rfl) dL_alike_112 ⟨Nat.le_of_ble_eq_true rfl, Nat.le_of_ble_eq_true rfl⟩ [0, 1, 2, 3, 4, 5, 6, 7, 8, 9, 10, 11, 12, 13, 14, 15, 16] [17, 18, 19, 20, 21, 22, 23, 24, 25, 26, 27, 28, 29, 30, 31, 32, 33] [17, 18, 19, 20, 21, 22, 23, 24, 25, 26, 27, 28, 29, 30, 31, 32, 33, 0, 1, 2, 3, 4, 5, 6, 7, 8, 9, 10, 11, 12, 13, 14, 15, 16] (by decide) rfl rfl (by decide) (by decide) (by decide) rfl (fun H locs hP hD hS hz => ?_)
            have hG : s.heap.size + 0 ≤ H.size := Nat.le_trans hG hz
            refine W.eq (g2 := F0 m 115 ls [.int (xCon (uA.2 0) (nI k))]) rfl ?_
            refine lv_aload_n hx hb dL_alike_115 rfl (lv_at hl 1 rfl) ?_
            refine lv_iconst (v := nI 0) hx hb dL_alike_116 (by decide +kernel) ?_
            refine lv_iload hx hb dL_alike_117 (lv_at hl 4 rfl) ?_
            refine g_callSWB (As := [.ref (qb 0), .int (nI 0), .int (nI k)]) (rest := [.int (xCon (uA.2 0) (nI k))]) (wr := XW cI cZ q uA) (wn := XX cI cZ q qb (uA, vA)) hx hb hml hown hts (lr_has l D cI cZ qb vA n hnv h60 0 (by omega) (nI k) (xR_in (n := n) (by omega) (by omega))) gL_alike_L_has rfl rfl rfl hdL_has ⟨Nat.le_of_ble_eq_true rfl, Nat.le_of_ble_eq_true rfl⟩ LE_em hE XT_tm hXT hP hK hD hS hA rfl hl.1 rfl (Nat.le_of_ble_eq_true rfl) dL_alike_119 ⟨Nat.le_of_ble_eq_true rfl, Nat.le_of_ble_eq_true rfl⟩ [17, 18, 19, 20, 21, 22, 23, 24, 25, 26, 27, 28, 29, 30, 31, 32, 33] [0, 1, 2, 3, 4, 5, 6, 7, 8, 9, 10, 11, 12, 13, 14, 15, 16] [0, 1, 2, 3, 4, 5, 6, 7, 8, 9, 10, 11, 12, 13, 14, 15, 16, 17, 18, 19, 20, 21, 22, 23, 24, 25, 26, 27, 28, 29, 30, 31, 32, 33] (by decide) rfl rfl (by decide) (by decide) (by decide) rfl (fun H locs hP hD hS hz => ?_)
            have hG : s.heap.size + 0 ≤ H.size := Nat.le_trans hG hz
            refine W.eq (g2 := F0 m 122 ls [.int (xCon (vA.2 0) (nI k)), .int (xCon (uA.2 0) (nI k))]) rfl ?_
            refine lv_icmp_ne (tgt := 182) hx hb dL_alike_122 (by decide) (fun c_122 => by exact absurd (by rw [h2]) c_122) (fun c_122 => ?_)
            refine lv_aload_n hx hb dL_alike_125 rfl (lv_at hl 0 rfl) ?_
            refine lv_iconst (v := nI 1) hx hb dL_alike_126 (by decide +kernel) ?_
            refine lv_iload hx hb dL_alike_127 (lv_at hl 4 rfl) ?_
            refine g_callSWB (As := [.ref (q 0), .int (nI 1), .int (nI k)]) (rest := []) (wr := XW cI cZ qb vA) (wn := XX cI cZ q qb (uA, vA)) hx hb hml hown hts (lr_has l D cI cZ q uA n hnu h60 1 (by omega) (nI k) (xR_in (n := n) (by omega) (by omega))) gL_alike_L_has rfl rfl rfl hdL_has ⟨Nat.le_of_ble_eq_true rfl, Nat.le_of_ble_eq_true rfl⟩ LE_em hE XT_tm hXT hP hK hD hS hA rfl hl.1 rfl (Nat.le_of_ble_eq_true rfl) dL_alike_129 ⟨Nat.le_of_ble_eq_true rfl, Nat.le_of_ble_eq_true rfl⟩ [0, 1, 2, 3, 4, 5, 6, 7, 8, 9, 10, 11, 12, 13, 14, 15, 16] [17, 18, 19, 20, 21, 22, 23, 24, 25, 26, 27, 28, 29, 30, 31, 32, 33] [17, 18, 19, 20, 21, 22, 23, 24, 25, 26, 27, 28, 29, 30, 31, 32, 33, 0, 1, 2, 3, 4, 5, 6, 7, 8, 9, 10, 11, 12, 13, 14, 15, 16] (by decide) rfl rfl (by decide) (by decide) (by decide) rfl (fun H locs hP hD hS hz => ?_)
            have hG : s.heap.size + 0 ≤ H.size := Nat.le_trans hG hz
            refine W.eq (g2 := F0 m 132 ls [.int (xCon (uA.2 1) (nI k))]) rfl ?_
            refine lv_aload_n hx hb dL_alike_132 rfl (lv_at hl 1 rfl) ?_
            refine lv_iconst (v := nI 1) hx hb dL_alike_133 (by decide +kernel) ?_
            refine lv_iload hx hb dL_alike_134 (lv_at hl 4 rfl) ?_
            refine g_callSWB (As := [.ref (qb 0), .int (nI 1), .int (nI k)]) (rest := [.int (xCon (uA.2 1) (nI k))]) (wr := XW cI cZ q uA) (wn := XX cI cZ q qb (uA, vA)) hx hb hml hown hts (lr_has l D cI cZ qb vA n hnv h60 1 (by omega) (nI k) (xR_in (n := n) (by omega) (by omega))) gL_alike_L_has rfl rfl rfl hdL_has ⟨Nat.le_of_ble_eq_true rfl, Nat.le_of_ble_eq_true rfl⟩ LE_em hE XT_tm hXT hP hK hD hS hA rfl hl.1 rfl (Nat.le_of_ble_eq_true rfl) dL_alike_136 ⟨Nat.le_of_ble_eq_true rfl, Nat.le_of_ble_eq_true rfl⟩ [17, 18, 19, 20, 21, 22, 23, 24, 25, 26, 27, 28, 29, 30, 31, 32, 33] [0, 1, 2, 3, 4, 5, 6, 7, 8, 9, 10, 11, 12, 13, 14, 15, 16] [0, 1, 2, 3, 4, 5, 6, 7, 8, 9, 10, 11, 12, 13, 14, 15, 16, 17, 18, 19, 20, 21, 22, 23, 24, 25, 26, 27, 28, 29, 30, 31, 32, 33] (by decide) rfl rfl (by decide) (by decide) (by decide) rfl (fun H locs hP hD hS hz => ?_)
            have hG : s.heap.size + 0 ≤ H.size := Nat.le_trans hG hz
            refine W.eq (g2 := F0 m 139 ls [.int (xCon (vA.2 1) (nI k)), .int (xCon (uA.2 1) (nI k))]) rfl ?_
            refine lv_icmp_ne (tgt := 182) hx hb dL_alike_139 (by decide) (fun c_139 => by exact absurd (by rw [h2]) c_139) (fun c_139 => ?_)
            refine lv_aload_n hx hb dL_alike_142 rfl (lv_at hl 0 rfl) ?_
            refine lv_iload hx hb dL_alike_143 (lv_at hl 4 rfl) ?_
            refine g_callSWB (As := [.ref (q 0), .int (nI k)]) (rest := []) (wr := XW cI cZ qb vA) (wn := XX cI cZ q qb (uA, vA)) hx hb hml hown hts (lr_shallow l D cI cZ q uA n hnu h60 (nI k) (xR_in (n := n) (by omega) (by omega))) gL_alike_L_shallow rfl rfl rfl hdL_shallow ⟨Nat.le_of_ble_eq_true rfl, Nat.le_of_ble_eq_true rfl⟩ LE_em hE XT_tm hXT hP hK hD hS hA rfl hl.1 rfl (Nat.le_of_ble_eq_true rfl) dL_alike_145 ⟨Nat.le_of_ble_eq_true rfl, Nat.le_of_ble_eq_true rfl⟩ [0, 1, 2, 3, 4, 5, 6, 7, 8, 9, 10, 11, 12, 13, 14, 15, 16] [17, 18, 19, 20, 21, 22, 23, 24, 25, 26, 27, 28, 29, 30, 31, 32, 33] [17, 18, 19, 20, 21, 22, 23, 24, 25, 26, 27, 28, 29, 30, 31, 32, 33, 0, 1, 2, 3, 4, 5, 6, 7, 8, 9, 10, 11, 12, 13, 14, 15, 16] (by decide) rfl rfl (by decide) (by decide) (by decide) rfl (fun H locs hP hD hS hz => ?_)
            have hG : s.heap.size + 0 ≤ H.size := Nat.le_trans hG hz
            refine W.eq (g2 := F0 m 148 ls [.int (xCon (xShallow n (uA.1 0) (uA.1 1) (uA.2 1)) (nI k))]) rfl ?_
            refine lv_aload_n hx hb dL_alike_148 rfl (lv_at hl 1 rfl) ?_
            refine lv_iload hx hb dL_alike_149 (lv_at hl 4 rfl) ?_
            refine g_callSWB (As := [.ref (qb 0), .int (nI k)]) (rest := [.int (xCon (xShallow n (uA.1 0) (uA.1 1) (uA.2 1)) (nI k))]) (wr := XW cI cZ q uA) (wn := XX cI cZ q qb (uA, vA)) hx hb hml hown hts (lr_shallow l D cI cZ qb vA n hnv h60 (nI k) (xR_in (n := n) (by omega) (by omega))) gL_alike_L_shallow rfl rfl rfl hdL_shallow ⟨Nat.le_of_ble_eq_true rfl, Nat.le_of_ble_eq_true rfl⟩ LE_em hE XT_tm hXT hP hK hD hS hA rfl hl.1 rfl (Nat.le_of_ble_eq_true rfl) dL_alike_151 ⟨Nat.le_of_ble_eq_true rfl, Nat.le_of_ble_eq_true rfl⟩ [17, 18, 19, 20, 21, 22, 23, 24, 25, 26, 27, 28, 29, 30, 31, 32, 33] [0, 1, 2, 3, 4, 5, 6, 7, 8, 9, 10, 11, 12, 13, 14, 15, 16] [0, 1, 2, 3, 4, 5, 6, 7, 8, 9, 10, 11, 12, 13, 14, 15, 16, 17, 18, 19, 20, 21, 22, 23, 24, 25, 26, 27, 28, 29, 30, 31, 32, 33] (by decide) rfl rfl (by decide) (by decide) (by decide) rfl (fun H locs hP hD hS hz => ?_)
            have hG : s.heap.size + 0 ≤ H.size := Nat.le_trans hG hz
            refine W.eq (g2 := F0 m 154 ls [.int (xCon (xShallow n (vA.1 0) (vA.1 1) (vA.2 1)) (nI k)), .int (xCon (xShallow n (uA.1 0) (uA.1 1) (uA.2 1)) (nI k))]) rfl ?_
            refine lv_icmp_ne (tgt := 182) hx hb dL_alike_154 (by decide) (fun c_154 => by exact absurd (by rw [hq 0 (by omega) (by omega), hq 1 (by omega) (by omega), h2]) c_154) (fun c_154 => ?_)
            refine lv_aload_n hx hb dL_alike_157 rfl (lv_at hl 0 rfl) ?_
            refine lv_iload hx hb dL_alike_158 (lv_at hl 4 rfl) ?_
            refine lv_iload_n hx hb dL_alike_160 rfl (lv_at hl 2 rfl) ?_
            refine lv_iconst (v := nI 4) hx hb dL_alike_161 (by decide +kernel) ?_
            refine l_irem hx hb dL_alike_162 (by omega) (by decide) (by decide) ?_
            refine g_callSWB (As := [.ref (q 0), .int (nI k), .int (nI (X % 4))]) (rest := []) (wr := XW cI cZ qb vA) (wn := XX cI cZ q qb (uA, vA)) hx hb hml hown hts (lr_file l D cI cZ q uA n hnu h60 (nI k) (nI (X % 4)) (xR_in (n := n) (by omega) (by omega)) (xR_in (n := 4) (by omega) (by omega))) gL_alike_L_file rfl rfl rfl hdL_file ⟨Nat.le_of_ble_eq_true rfl, Nat.le_of_ble_eq_true rfl⟩ LE_em hE XT_tm hXT hP hK hD hS hA rfl hl.1 rfl (Nat.le_of_ble_eq_true rfl) dL_alike_163 ⟨Nat.le_of_ble_eq_true rfl, Nat.le_of_ble_eq_true rfl⟩ [0, 1, 2, 3, 4, 5, 6, 7, 8, 9, 10, 11, 12, 13, 14, 15, 16] [17, 18, 19, 20, 21, 22, 23, 24, 25, 26, 27, 28, 29, 30, 31, 32, 33] [17, 18, 19, 20, 21, 22, 23, 24, 25, 26, 27, 28, 29, 30, 31, 32, 33, 0, 1, 2, 3, 4, 5, 6, 7, 8, 9, 10, 11, 12, 13, 14, 15, 16] (by decide) rfl rfl (by decide) (by decide) (by decide) rfl (fun H locs hP hD hS hz => ?_)
            have hG : s.heap.size + 0 ≤ H.size := Nat.le_trans hG hz
            refine W.eq (g2 := F0 m 166 ls [.int (xFileIn n (uA.1 2) (nI k) (nI (X % 4)))]) rfl ?_
            refine lv_aload_n hx hb dL_alike_166 rfl (lv_at hl 1 rfl) ?_
            refine lv_iload hx hb dL_alike_167 (lv_at hl 4 rfl) ?_
            refine lv_iload_n hx hb dL_alike_169 rfl (lv_at hl 2 rfl) ?_
            refine lv_iconst (v := nI 4) hx hb dL_alike_170 (by decide +kernel) ?_
            refine l_irem hx hb dL_alike_171 (by omega) (by decide) (by decide) ?_
            refine g_callSWB (As := [.ref (qb 0), .int (nI k), .int (nI (X % 4))]) (rest := [.int (xFileIn n (uA.1 2) (nI k) (nI (X % 4)))]) (wr := XW cI cZ q uA) (wn := XX cI cZ q qb (uA, vA)) hx hb hml hown hts (lr_file l D cI cZ qb vA n hnv h60 (nI k) (nI (X % 4)) (xR_in (n := n) (by omega) (by omega)) (xR_in (n := 4) (by omega) (by omega))) gL_alike_L_file rfl rfl rfl hdL_file ⟨Nat.le_of_ble_eq_true rfl, Nat.le_of_ble_eq_true rfl⟩ LE_em hE XT_tm hXT hP hK hD hS hA rfl hl.1 rfl (Nat.le_of_ble_eq_true rfl) dL_alike_172 ⟨Nat.le_of_ble_eq_true rfl, Nat.le_of_ble_eq_true rfl⟩ [17, 18, 19, 20, 21, 22, 23, 24, 25, 26, 27, 28, 29, 30, 31, 32, 33] [0, 1, 2, 3, 4, 5, 6, 7, 8, 9, 10, 11, 12, 13, 14, 15, 16] [0, 1, 2, 3, 4, 5, 6, 7, 8, 9, 10, 11, 12, 13, 14, 15, 16, 17, 18, 19, 20, 21, 22, 23, 24, 25, 26, 27, 28, 29, 30, 31, 32, 33] (by decide) rfl rfl (by decide) (by decide) (by decide) rfl (fun H locs hP hD hS hz => ?_)
            have hG : s.heap.size + 0 ≤ H.size := Nat.le_trans hG hz
            refine W.eq (g2 := F0 m 175 ls [.int (xFileIn n (vA.1 2) (nI k) (nI (X % 4))), .int (xFileIn n (uA.1 2) (nI k) (nI (X % 4)))]) rfl ?_
            refine lv_icmp_ne (tgt := 182) hx hb dL_alike_175 (by decide) (fun c_175 => by exact absurd (by rw [hq 2 (by omega) (by omega)]) c_175) (fun c_175 => ?_)
            refine lv_iconst (v := nI 1) hx hb dL_alike_178 (by decide +kernel) ?_
            refine lv_goto (tgt := 183) hx hb dL_alike_179 (by decide) ?_
            refine lv_istore_n (lv' := [(3, .int (nI 1)), (0, .ref (q 0)), (1, .ref (qb 0)), (2, .int (nI X)), (4, .int (nI k))]) hx hb dL_alike_183 rfl hl (by decide) rfl (fun ls hl => ?_)
            refine lv_iinc (v := (nI (k + 1))) (lv' := [(4, .int (nI (k + 1))), (3, .int (nI 1)), (0, .ref (q 0)), (1, .ref (qb 0)), (2, .int (nI X))]) hx hb dL_alike_184 hl (k := 4) rfl (nI_1 _) (by decide) rfl (fun ls hl => ?_)
            refine lv_goto (tgt := 95) hx hb dL_alike_187 (by decide) ?_
            exact W.widen (by omega) (by omega) (ih (k + 1) _ _ _ hP hD hS (lv_sub hl [2, 3, 4, 1, 0] rfl) (Nat.le_trans (Nat.add_le_add_left (by omega) _) hG) (by omega))
        exact W.widen (by omega) (by omega) (loop2 n 0 _ _ _ hP hD hS (lv_sub hl [1, 2, 3, 4, 0] rfl) (Nat.le_trans (Nat.add_le_add_left (by omega) _) hG) (Nat.zero_add _))
      | succ d ih =>
        intro k H locs ls hP hD hS hl hG hk
        refine lv_iload hx hb dL_alike_42 (lv_at hl 4 rfl) ?_
        refine lv_bipush (v := nI 8) hx hb dL_alike_44 (by decide +kernel) ?_
        refine lv_icmp_ge (tgt := 92) hx hb dL_alike_46 (by decide) (fun c_46 => by have n_46 : 8 ≤ k := (g_leI (a := 8) (b := k) rfl rfl (by decide) (by omega)).mp c_46; exfalso; omega) (fun c_46 => ?_)
        have n_46 : ¬ 8 ≤ k := fun h => c_46 ((g_leI (a := 8) (b := k) rfl rfl (by decide) (by omega)).mpr h)
        refine lv_iload_n hx hb dL_alike_49 rfl (lv_at hl 3 rfl) ?_
        refine lv_if_eq (tgt := 92) hx hb dL_alike_50 (by decide) (fun c_50 => by have n_50 : 1 = 0 := (g_eqI (a := 1) (b := 0) rfl rfl (by decide) (by decide)).mp c_50; exfalso; omega) (fun c_50 => ?_)
        have n_50 : ¬ 1 = 0 := fun h => c_50 ((g_eqI (a := 1) (b := 0) rfl rfl (by decide) (by decide)).mpr h)
        refine lv_aload_n hx hb dL_alike_53 rfl (lv_at hl 0 rfl) ?_
        refine lv_iload hx hb dL_alike_54 (lv_at hl 4 rfl) ?_
        refine lv_iconst (v := nI 4) hx hb dL_alike_56 (by decide +kernel) ?_
        refine l_idiv hx hb dL_alike_57 (by omega) (by decide) (by decide) ?_
        refine lv_iload hx hb dL_alike_58 (lv_at hl 4 rfl) ?_
        refine lv_iconst (v := nI 4) hx hb dL_alike_60 (by decide +kernel) ?_
        refine l_irem hx hb dL_alike_61 (by omega) (by decide) (by decide) ?_
        refine g_callSWB (As := [.ref (q 0), .int (nI (k / 4)), .int (nI (k % 4))]) (rest := []) (wr := XW cI cZ qb vA) (wn := XX cI cZ q qb (uA, vA)) hx hb hml hown hts (lr_ref l D cI cZ q uA (k / 4) (by omega) (nI (k % 4)) (xR_in (n := 4) (by omega) (by omega))) gL_alike_L_ref rfl rfl rfl hdL_ref ⟨Nat.le_of_ble_eq_true rfl, Nat.le_of_ble_eq_true rfl⟩ LE_em hE XT_tm hXT hP hK hD hS hA rfl hl.1 rfl (Nat.le_of_ble_eq_true rfl) dL_alike_62 ⟨Nat.le_of_ble_eq_true rfl, Nat.le_of_ble_eq_true rfl⟩ [0, 1, 2, 3, 4, 5, 6, 7, 8, 9, 10, 11, 12, 13, 14, 15, 16] [17, 18, 19, 20, 21, 22, 23, 24, 25, 26, 27, 28, 29, 30, 31, 32, 33] [17, 18, 19, 20, 21, 22, 23, 24, 25, 26, 27, 28, 29, 30, 31, 32, 33, 0, 1, 2, 3, 4, 5, 6, 7, 8, 9, 10, 11, 12, 13, 14, 15, 16] (by decide) rfl rfl (by decide) (by decide) (by decide) rfl (fun H locs hP hD hS hz => ?_)
        have hG : s.heap.size + 0 ≤ H.size := Nat.le_trans hG hz
        refine W.eq (g2 := F0 m 65 ls [.int (xRefOf (uA.1 (6 + 2 * (k / 4))) (nI (k % 4)))]) rfl ?_
        refine lv_aload_n hx hb dL_alike_65 rfl (lv_at hl 1 rfl) ?_
        refine lv_iload hx hb dL_alike_66 (lv_at hl 4 rfl) ?_
        refine lv_iconst (v := nI 4) hx hb dL_alike_68 (by decide +kernel) ?_
        refine l_idiv hx hb dL_alike_69 (by omega) (by decide) (by decide) ?_
        refine lv_iload hx hb dL_alike_70 (lv_at hl 4 rfl) ?_
        refine lv_iconst (v := nI 4) hx hb dL_alike_72 (by decide +kernel) ?_
        refine l_irem hx hb dL_alike_73 (by omega) (by decide) (by decide) ?_
        refine g_callSWB (As := [.ref (qb 0), .int (nI (k / 4)), .int (nI (k % 4))]) (rest := [.int (xRefOf (uA.1 (6 + 2 * (k / 4))) (nI (k % 4)))]) (wr := XW cI cZ q uA) (wn := XX cI cZ q qb (uA, vA)) hx hb hml hown hts (lr_ref l D cI cZ qb vA (k / 4) (by omega) (nI (k % 4)) (xR_in (n := 4) (by omega) (by omega))) gL_alike_L_ref rfl rfl rfl hdL_ref ⟨Nat.le_of_ble_eq_true rfl, Nat.le_of_ble_eq_true rfl⟩ LE_em hE XT_tm hXT hP hK hD hS hA rfl hl.1 rfl (Nat.le_of_ble_eq_true rfl) dL_alike_74 ⟨Nat.le_of_ble_eq_true rfl, Nat.le_of_ble_eq_true rfl⟩ [17, 18, 19, 20, 21, 22, 23, 24, 25, 26, 27, 28, 29, 30, 31, 32, 33] [0, 1, 2, 3, 4, 5, 6, 7, 8, 9, 10, 11, 12, 13, 14, 15, 16] [0, 1, 2, 3, 4, 5, 6, 7, 8, 9, 10, 11, 12, 13, 14, 15, 16, 17, 18, 19, 20, 21, 22, 23, 24, 25, 26, 27, 28, 29, 30, 31, 32, 33] (by decide) rfl rfl (by decide) (by decide) (by decide) rfl (fun H locs hP hD hS hz => ?_)
        have hG : s.heap.size + 0 ≤ H.size := Nat.le_trans hG hz
        refine W.eq (g2 := F0 m 77 ls [.int (xRefOf (vA.1 (6 + 2 * (k / 4))) (nI (k % 4))), .int (xRefOf (uA.1 (6 + 2 * (k / 4))) (nI (k % 4)))]) rfl ?_
        refine lv_icmp_ne (tgt := 84) hx hb dL_alike_77 (by decide) (fun c_77 => by exact absurd (by rw [hq (6 + 2 * (k / 4)) (by omega) (by omega)]) c_77) (fun c_77 => ?_)
        refine lv_iconst (v := nI 1) hx hb dL_alike_80 (by decide +kernel) ?_
        refine lv_goto (tgt := 85) hx hb dL_alike_81 (by decide) ?_
        refine lv_istore_n (lv' := [(3, .int (nI 1)), (0, .ref (q 0)), (1, .ref (qb 0)), (2, .int (nI X)), (4, .int (nI k))]) hx hb dL_alike_85 rfl hl (by decide) rfl (fun ls hl => ?_)
        refine lv_iinc (v := (nI (k + 1))) (lv' := [(4, .int (nI (k + 1))), (3, .int (nI 1)), (0, .ref (q 0)), (1, .ref (qb 0)), (2, .int (nI X))]) hx hb dL_alike_86 hl (k := 4) rfl (nI_1 _) (by decide) rfl (fun ls hl => ?_)
        refine lv_goto (tgt := 42) hx hb dL_alike_89 (by decide) ?_
        exact W.widen (by omega) (by omega) (ih (k + 1) _ _ _ hP hD hS (lv_sub hl [2, 3, 4, 1, 0] rfl) (Nat.le_trans (Nat.add_le_add_left (by omega) _) hG) (by omega))
    exact W.widen (by omega) (by omega) (loop1 8 0 _ _ _ hP hD hS (lv_sub hl [1, 2, 3, 4, 0] rfl) (Nat.le_trans (Nat.add_le_add_left (by omega) _) hG) rfl)
  refine lv_aload_n hx hb dL_alike_0 rfl (lv_at hl 0 rfl) ?_
  refine g_callVF (As := []) (rest := []) (wr := XW cI cZ qb v) (wn := XX cI cZ q qb (u, v)) hx hb hml hown hts (ctX2_commits l D cI cZ q u n hnu h60) gL_alike_X2_commits rfl rfl rfl hdX2_commits ⟨Nat.le_of_ble_eq_true rfl, Nat.le_of_ble_eq_true rfl⟩ XG_em hE.1.1 hP hK hD hS hA 0 rfl rfl rfl hl.1 rfl (Nat.le_of_ble_eq_true rfl) dL_alike_1 ⟨Nat.le_of_ble_eq_true rfl, Nat.le_of_ble_eq_true rfl⟩ [0, 1, 2, 3, 4, 5, 6, 7, 8, 9, 10, 11, 12, 13, 14, 15, 16] [17, 18, 19, 20, 21, 22, 23, 24, 25, 26, 27, 28, 29, 30, 31, 32, 33] [17, 18, 19, 20, 21, 22, 23, 24, 25, 26, 27, 28, 29, 30, 31, 32, 33, 0, 1, 2, 3, 4, 5, 6, 7, 8, 9, 10, 11, 12, 13, 14, 15, 16] (by decide) rfl rfl (by decide) (by decide) (by decide) rfl (fun H locs hP hD hS hz => ?_)
  have hG : s.heap.size + 0 ≤ H.size := Nat.le_trans hG hz
  refine W.eq (g2 := F0 m 4 ls [.int (nI n)]) rfl ?_
  refine lv_aload_n hx hb dL_alike_4 rfl (lv_at hl 1 rfl) ?_
  refine g_callVF (As := []) (rest := [.int (nI n)]) (wr := XW cI cZ q u) (wn := XX cI cZ q qb (u, v)) hx hb hml hown hts (ctX2_commits l D cI cZ qb v n hnv h60) gL_alike_X2_commits rfl rfl rfl hdX2_commits ⟨Nat.le_of_ble_eq_true rfl, Nat.le_of_ble_eq_true rfl⟩ XG_em hE.1.1 hP hK hD hS hA 0 rfl rfl rfl hl.1 rfl (Nat.le_of_ble_eq_true rfl) dL_alike_5 ⟨Nat.le_of_ble_eq_true rfl, Nat.le_of_ble_eq_true rfl⟩ [17, 18, 19, 20, 21, 22, 23, 24, 25, 26, 27, 28, 29, 30, 31, 32, 33] [0, 1, 2, 3, 4, 5, 6, 7, 8, 9, 10, 11, 12, 13, 14, 15, 16] [0, 1, 2, 3, 4, 5, 6, 7, 8, 9, 10, 11, 12, 13, 14, 15, 16, 17, 18, 19, 20, 21, 22, 23, 24, 25, 26, 27, 28, 29, 30, 31, 32, 33] (by decide) rfl rfl (by decide) (by decide) (by decide) rfl (fun H locs hP hD hS hz => ?_)
  have hG : s.heap.size + 0 ≤ H.size := Nat.le_trans hG hz
  refine W.eq (g2 := F0 m 8 ls [.int (nI n), .int (nI n)]) rfl ?_
  refine lv_icmp_ne (tgt := 37) hx hb dL_alike_8 (by decide) (fun c_8 => by have n_8 : ¬ n = n := fun h => c_8 ((g_eqI (a := n) (b := n) rfl rfl (by omega) (by omega)).mpr h); exfalso; omega) (fun c_8 => ?_)
  have n_8 : n = n := (g_eqI (a := n) (b := n) rfl rfl (by omega) (by omega)).mp c_8
  refine lv_aload_n hx hb dL_alike_11 rfl (lv_at hl 0 rfl) ?_
  refine g_callVF (As := []) (rest := []) (wr := XW cI cZ qb v) (wn := XX cI cZ q qb (u, v)) hx hb hml hown hts (ctX2_rounds l D cI cZ q u) gL_alike_X2_rounds rfl rfl rfl hdX2_rounds ⟨Nat.le_of_ble_eq_true rfl, Nat.le_of_ble_eq_true rfl⟩ XG_em hE.1.1 hP hK hD hS hA 0 rfl rfl rfl hl.1 rfl (Nat.le_of_ble_eq_true rfl) dL_alike_12 ⟨Nat.le_of_ble_eq_true rfl, Nat.le_of_ble_eq_true rfl⟩ [0, 1, 2, 3, 4, 5, 6, 7, 8, 9, 10, 11, 12, 13, 14, 15, 16] [17, 18, 19, 20, 21, 22, 23, 24, 25, 26, 27, 28, 29, 30, 31, 32, 33] [17, 18, 19, 20, 21, 22, 23, 24, 25, 26, 27, 28, 29, 30, 31, 32, 33, 0, 1, 2, 3, 4, 5, 6, 7, 8, 9, 10, 11, 12, 13, 14, 15, 16] (by decide) rfl rfl (by decide) (by decide) (by decide) rfl (fun H locs hP hD hS hz => ?_)
  have hG : s.heap.size + 0 ≤ H.size := Nat.le_trans hG hz
  refine W.eq (g2 := F0 m 15 ls [.int (u.1 14 0)]) rfl ?_
  refine lv_aload_n hx hb dL_alike_15 rfl (lv_at hl 1 rfl) ?_
  refine g_callVF (As := []) (rest := [.int (u.1 14 0)]) (wr := XW cI cZ q u) (wn := XX cI cZ q qb (u, v)) hx hb hml hown hts (ctX2_rounds l D cI cZ qb v) gL_alike_X2_rounds rfl rfl rfl hdX2_rounds ⟨Nat.le_of_ble_eq_true rfl, Nat.le_of_ble_eq_true rfl⟩ XG_em hE.1.1 hP hK hD hS hA 0 rfl rfl rfl hl.1 rfl (Nat.le_of_ble_eq_true rfl) dL_alike_16 ⟨Nat.le_of_ble_eq_true rfl, Nat.le_of_ble_eq_true rfl⟩ [17, 18, 19, 20, 21, 22, 23, 24, 25, 26, 27, 28, 29, 30, 31, 32, 33] [0, 1, 2, 3, 4, 5, 6, 7, 8, 9, 10, 11, 12, 13, 14, 15, 16] [0, 1, 2, 3, 4, 5, 6, 7, 8, 9, 10, 11, 12, 13, 14, 15, 16, 17, 18, 19, 20, 21, 22, 23, 24, 25, 26, 27, 28, 29, 30, 31, 32, 33] (by decide) rfl rfl (by decide) (by decide) (by decide) rfl (fun H locs hP hD hS hz => ?_)
  have hG : s.heap.size + 0 ≤ H.size := Nat.le_trans hG hz
  refine W.eq (g2 := F0 m 19 ls [.int (v.1 14 0), .int (u.1 14 0)]) rfl ?_
  refine lv_icmp_ne (tgt := 37) hx hb dL_alike_19 (by decide) (fun c_19 => by exact absurd he c_19) (fun c_19 => ?_)
  refine lv_aload_n hx hb dL_alike_22 rfl (lv_at hl 0 rfl) ?_
  refine g_callVF (As := []) (rest := []) (wr := XW cI cZ qb v) (wn := XX cI cZ q qb ((sF n u), v)) hx hb hml hown hts (ctX2_missing l D cI cZ q u n hnu h60) gL_alike_X2_missing rfl rfl rfl hdX2_missing ⟨Nat.le_of_ble_eq_true rfl, Nat.le_of_ble_eq_true rfl⟩ XG_em hE.1.1 hP hK hD hS hA 0 rfl rfl rfl hl.1 rfl (Nat.le_of_ble_eq_true rfl) dL_alike_23 ⟨Nat.le_of_ble_eq_true rfl, Nat.le_of_ble_eq_true rfl⟩ [0, 1, 2, 3, 4, 5, 6, 7, 8, 9, 10, 11, 12, 13, 14, 15, 16] [17, 18, 19, 20, 21, 22, 23, 24, 25, 26, 27, 28, 29, 30, 31, 32, 33] [17, 18, 19, 20, 21, 22, 23, 24, 25, 26, 27, 28, 29, 30, 31, 32, 33, 0, 1, 2, 3, 4, 5, 6, 7, 8, 9, 10, 11, 12, 13, 14, 15, 16] (by decide) rfl rfl (by decide) (by decide) (by decide) rfl (fun H locs hP hD hS hz => ?_)
  have hG : s.heap.size + 0 ≤ H.size := Nat.le_trans hG hz
  refine W.eq (g2 := F0 m 26 ls [.int (xLack (xFiles n (u.1 2) (u.2 1) (u.1 4)) (u.1 7))]) rfl ?_
  refine lv_aload_n hx hb dL_alike_26 rfl (lv_at hl 1 rfl) ?_
  refine g_callVF (As := []) (rest := [.int (xLack (xFiles n (u.1 2) (u.2 1) (u.1 4)) (u.1 7))]) (wr := XW cI cZ q (sF n u)) (wn := XX cI cZ q qb ((sF n u), (sF n v))) hx hb hml hown hts (ctX2_missing l D cI cZ qb v n hnv h60) gL_alike_X2_missing rfl rfl rfl hdX2_missing ⟨Nat.le_of_ble_eq_true rfl, Nat.le_of_ble_eq_true rfl⟩ XG_em hE.1.1 hP hK hD hS hA 0 rfl rfl rfl hl.1 rfl (Nat.le_of_ble_eq_true rfl) dL_alike_27 ⟨Nat.le_of_ble_eq_true rfl, Nat.le_of_ble_eq_true rfl⟩ [17, 18, 19, 20, 21, 22, 23, 24, 25, 26, 27, 28, 29, 30, 31, 32, 33] [0, 1, 2, 3, 4, 5, 6, 7, 8, 9, 10, 11, 12, 13, 14, 15, 16] [0, 1, 2, 3, 4, 5, 6, 7, 8, 9, 10, 11, 12, 13, 14, 15, 16, 17, 18, 19, 20, 21, 22, 23, 24, 25, 26, 27, 28, 29, 30, 31, 32, 33] (by decide) rfl rfl (by decide) (by decide) (by decide) rfl (fun H locs hP hD hS hz => ?_)
  have hG : s.heap.size + 0 ≤ H.size := Nat.le_trans hG hz
  refine W.eq (g2 := F0 m 30 ls [.int (xLack (xFiles n (v.1 2) (v.2 1) (v.1 4)) (v.1 7)), .int (xLack (xFiles n (u.1 2) (u.2 1) (u.1 4)) (u.1 7))]) rfl ?_
  refine lv_icmp_ne (tgt := 37) hx hb dL_alike_30 (by decide) (fun c_30 => by exact absurd hL c_30) (fun c_30 => ?_)
  refine lv_iconst (v := nI 1) hx hb dL_alike_33 (by decide +kernel) ?_
  refine lv_goto (tgt := 38) hx hb dL_alike_34 (by decide) ?_
  refine lv_istore_n (lv' := [(3, .int (nI 1)), (0, .ref (q 0)), (1, .ref (qb 0)), (2, .int (nI X))]) hx hb dL_alike_38 rfl hl (by decide) rfl (fun ls hl => ?_)
  exact W.widen (by omega) (by omega) (rest (sF n u) (sF n v) _ _ _ hP hD hS (lv_sub hl [1, 2, 3, 0] rfl) (Nat.le_trans (Nat.add_le_add_left (by omega) _) hG) (sF_n hnu) (sF_n hnv) (fun k h3 h4 => (sF_at k h4).trans ((hq k h3 h4).trans (sF_at k h4).symm)) h2 rfl rfl)
