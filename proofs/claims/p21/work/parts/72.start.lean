/-! the start: what the Statement gives, two houses, a row of one -/
theorem st_XB : ∀ w ∈ XBw, w ∈ lw_tbl := by decide +kernel
theorem st_XBt : ∀ w ∈ XBt, w ∈ lw_tbl := by decide +kernel
theorem st_str : ∀ z ∈ XStr, Cond.stringRef RX2 z.1 z.2 ∈ lw_tbl := by decide +kernel
theorem st_strE : ∀ z ∈ XStr, Cond.exactly (.string RX2 z.1) "java/lang/String" ∈ flatC (Jvm.Cond.and given_1 narrow_1) := by decide +kernel
theorem st_LE {s : State} {b : Nat} (hts : ∀ w ∈ lw_tbl, w.before #[Value.ref b] s = true) (hgv : (Jvm.Cond.and given_1 narrow_1).before #[Value.ref b] s = true) : LE s := by
  have hs := flat_of_before _ hgv
  refine ⟨⟨⟨fun w hw => va_Nw.of (XB_ot w hw) (hts w (st_XB w hw)), fun z hz => ?_⟩, fun w hw => va_Nw.of (XBt_ot w hw) (hts w (st_XBt w hw))⟩, va_Nc.of (hs _ (by decide +kernel)), va_Nc.of (hs _ (by decide +kernel)), va_Nc.of (hs _ (by decide +kernel))⟩
  obtain ⟨a, _, _, _, h, -⟩ := Cond.exactly_spec (hs _ (st_strE z hz))
  exact ⟨a, vk_R.of (hts _ (st_str z hz)) h⟩
theorem st_XT {s : State} {b : Nat} (hts : ∀ w ∈ lw_tbl, w.before #[Value.ref b] s = true) (hgv : (Jvm.Cond.and given_1 narrow_1).before #[Value.ref b] s = true) : XT (fun a => s.heap.size ≤ a) s s.heap := by
  have hs := flat_of_before _ hgv
  exact ⟨vx_Zqof (hts _ (by decide +kernel)) (hts _ (by decide +kernel)) (hs _ (by decide +kernel)) (fun a h => Nat.not_le.mpr h), vx_Zqof (hts _ (by decide +kernel)) (hts _ (by decide +kernel)) (hs _ (by decide +kernel)) (fun a h => Nat.not_le.mpr h)⟩
set_option maxHeartbeats 8000000 in
set_option maxRecDepth 100000 in
theorem law_mid {p : Program} {e : Env} {s : State} {m : MethodId} {below : List Frame} {meth : Method} {c : Code} (l : Launch) (hflags : l.flags = flags0) {b L : Nat} {xs : Nat → Int32} (hL : L ≤ 260) (C0 : lw_At p s m meth c b L xs) : W p l e rmBig s m #[Value.ref b] below meth c s.heap [] 0 0 (MQm s below) (entryFrame m ([Value.ref b] : List Value).toArray 10) := by
  obtain ⟨hx, hb, hr, hml, hown, htb, hX, hbl, hlocks, hgv⟩ := id C0
  have hst : l.stackTraces = false := by
    unfold Launch.stackTraces
    rw [hflags]
    decide +kernel
  have hLE := st_LE htb hgv
  have hXT := st_XT htb hgv
  have hts : ∀ w ∈ wsL_law, w.before #[Value.ref b] s = true := fun w h => htb w (wsL_law_in w h)
  have hown : s.vm.findClass RL = some m.cls := hown
  have hA : ∀ a : Nat, s.heap.size ≤ a → (fun a => s.heap.size ≤ a) a := fun _ h => h
  obtain ⟨c0, iS0, hKn0⟩ := u_known (C := RX0) (T := TX0) (N := 6) (n := 6) htb li_X00 (htb (.instantiable RX0 6) (by decide +kernel))
  obtain ⟨c1, iS1, hKn1⟩ := u_known (C := RX1) (T := TX1) (N := 3) (n := 3) htb li_X10 (htb (.instantiable RX1 3) (by decide +kernel))
  obtain ⟨c2, iS2, hKn2⟩ := u_known (C := RX2) (T := TX2) (N := 9) (n := 9) htb li_X20 (htb (.instantiable RX2 9) (by decide +kernel))
  obtain ⟨D, hKc⟩ : ∃ D : va_G, ∀ (k : Nat) (q : vw_C), vwCl[k]? = some q → u_Kn s q.1 q.2.1 q.2.2 (D.1 k) (D.2 k) := by
    refine ⟨(fun k => if k = 0 then c0 else if k = 1 then c1 else c2, fun k => if k = 0 then iS0 else if k = 1 then iS1 else iS2), ?_⟩
    intro k q hq
    match k, hq with
    | 0, hq => cases hq; exact hKn0
    | 1, hq => cases hq; exact hKn1
    | 2, hq => cases hq; exact hKn2
    | k + 3, hq => simp [vwCl] at hq
  have hS : va_S (fun a => s.heap.size ≤ a) s.heap s.heap [] := va_S.rf
  have hK : va_K D vwCl [] s := ⟨hKc, fun k q h => by simp at h⟩
  have hP : va_P D vwCl [] s.heap := fun k q h => by simp at h
  have hD : va_D (fun a => s.heap.size ≤ a) [] := ⟨fun i j p q h => by simp at h, fun k q h => by simp at h⟩
  have hl := lv_entry ([.ref b]) (n := 10) (Nat.le_of_ble_eq_true rfl)
  rw [lg_entry_eq]
  generalize (lg_sl ([.ref b]) ++ List.replicate (10 - (lg_sl ([.ref b])).length) Slot.unset).toArray = ls at hl ⊢
  have hl : lv_has ls 10 [(0, .ref b)] := hl
  refine va_new (ci := 2) (fs := [.null, .null, .null, .null, .null, .null, .null, .int 0, .int 0]) (C := RX2) (T := TX2) (N := 9) hx hb hts inlX2 tyX2 tyX2_ok hown (htb (.classLink RL 8 RX2) (by decide +kernel)) (htb (.instantiable RX2 9) (by decide +kernel)) (htb (.initialized RX2) (by decide +kernel)) hK hP hD hS hA rfl (fun j hj => by rcases (show j = 0 ∨ j = 1 ∨ j = 2 ∨ j = 3 ∨ j = 4 ∨ j = 5 ∨ j = 6 ∨ j = 7 ∨ j = 8 by omega) with rfl | rfl | rfl | rfl | rfl | rfl | rfl | rfl | rfl <;> rfl) (Nat.le_of_ble_eq_true rfl) (Nat.le_of_ble_eq_true rfl) dL_law_0 (fun a0 H hP hD hS => ?_)
  have hP : va_P D vwCl (W0X2 a0) H := hP
  have hD : va_D (fun a => s.heap.size ≤ a) (W0X2 a0) := hD
  refine W.widen (k := 1) (n := 9) (by omega) (by omega) ?_
  refine lv_dup hx hb dL_law_3 rfl ?_
  have hPc := hP.sub (ws' := W0X2 a0) [0] rfl
  have hDc := hD.sub (ws' := W0X2 a0) [0] (by decide) rfl
  have hKc := hK.sub (tys' := []) [] rfl
  have hFc := va_free (wc := W0X2 a0) hD hS hA [0] rfl
  refine va_callv (va_runI (As := []) (rest := [.ref a0]) ⟨hx, hb, hml, hown, hts⟩ (ctX2_init l D a0 H.size) (cwI 0 hts gL_law_X2_init rfl rfl rfl (htb (.initialized RX2) (by decide +kernel)) (htb (.methodLink RL 134 yX2_init) (by decide +kernel)) (htb (.instanceMethod yX2_init) (by decide +kernel)) rfl (by decide +kernel) ⟨Nat.le_of_ble_eq_true rfl, Nat.le_of_ble_eq_true rfl⟩) ⟨gIn_blind XG_em, fun U hU hW => ⟨rfl, by rw [hU], XG_em _ _ hW hLE.1.1, by rw [hU]; exact hPc, va_K.moved hW.alike hKc, hDc.weaken (fun _ _ _ _ => trivial)⟩⟩ rfl rfl hl.1 rfl (lv_room (Nat.le_of_ble_eq_true rfl)) dL_law_4 ⟨Nat.le_of_ble_eq_true rfl, Nat.le_of_ble_eq_true rfl⟩) hS (fun q _ h => hFc q h) hFc (fun u1 t H1 locs ht hvm hw hB hz1 hk1 hS => ?_)
  obtain ⟨b1, cI, cZ⟩ := u1
  obtain ⟨hP1, hK1, hD1⟩ := hB
  rw [ht] at hP1
  have hK1 := va_K.moved hvm.symm hK1
  obtain ⟨q, hq⟩ : ∃ q : Nat → Nat, q = (fun k => match k with | 0 => a0 | k + 1 => b1 k) := ⟨_, rfl⟩
  have hq0 : a0 = q 0 := by rw [hq]
  have hP1 : va_P D vwCl (XW cI cZ q uX0) H1 := by rw [hq]; exact hP1
  have hD1 : va_D (va_A (W0X2 a0) H.size) (XW cI cZ q uX0) := by rw [hq]; exact hD1
  obtain ⟨hP, hD⟩ := va_join (wr := []) (w1 := XW cI cZ q uX0) hP hD [0] [] rfl rfl (by decide) (by decide) hk1 hFc hP1 hD1
  have hK : va_K D vwCl [(cI, .int), (cZ, .boolean)] s := (hK.sub (tys' := []) [] rfl).app hK1
  generalize H1 = H at hP hS ⊢
  have hP : va_P D vwCl (XW cI cZ q uX0) H := hP
  have hD : va_D (fun a => s.heap.size ≤ a) (XW cI cZ q uX0) := hD
  refine W.widen (k := 17) (n := 762) (by omega) (by omega) ?_
  refine W.eq (g2 := F0 m 7 ls [.ref a0]) rfl ?_
  rw [hq0]
  refine lv_astore_n (lv' := [(1, .ref (q 0)), (0, .ref b)]) hx hb dL_law_7 rfl hl (by decide) rfl (fun ls hl => ?_)
  refine va_new (ci := 2) (fs := [.null, .null, .null, .null, .null, .null, .null, .int 0, .int 0]) (C := RX2) (T := TX2) (N := 9) hx hb hts inlX2 tyX2 tyX2_ok hown (htb (.classLink RL 8 RX2) (by decide +kernel)) (htb (.instantiable RX2 9) (by decide +kernel)) (htb (.initialized RX2) (by decide +kernel)) hK hP hD hS hA rfl (fun j hj => by rcases (show j = 0 ∨ j = 1 ∨ j = 2 ∨ j = 3 ∨ j = 4 ∨ j = 5 ∨ j = 6 ∨ j = 7 ∨ j = 8 by omega) with rfl | rfl | rfl | rfl | rfl | rfl | rfl | rfl | rfl <;> rfl) (Nat.le_of_ble_eq_true rfl) (Nat.le_of_ble_eq_true rfl) dL_law_8 (fun a1 H hP hD hS => ?_)
  have hP : va_P D vwCl (XW cI cZ q uX0 ++ W0X2 a1) H := hP
  have hD : va_D (fun a => s.heap.size ≤ a) (XW cI cZ q uX0 ++ W0X2 a1) := hD
  refine W.widen (k := 18) (n := 771) (by omega) (by omega) ?_
  refine lv_dup hx hb dL_law_11 rfl ?_
  have hPc := hP.sub (ws' := W0X2 a1) [17] rfl
  have hDc := hD.sub (ws' := W0X2 a1) [17] (by decide) rfl
  have hKc := hK.sub (tys' := []) [] rfl
  have hFc := va_free (wc := W0X2 a1) hD hS hA [17] rfl
  refine va_callv (va_runI (As := []) (rest := [.ref a1]) ⟨hx, hb, hml, hown, hts⟩ (ctX2_init l D a1 H.size) (cwI 0 hts gL_law_X2_init rfl rfl rfl (htb (.initialized RX2) (by decide +kernel)) (htb (.methodLink RL 134 yX2_init) (by decide +kernel)) (htb (.instanceMethod yX2_init) (by decide +kernel)) rfl (by decide +kernel) ⟨Nat.le_of_ble_eq_true rfl, Nat.le_of_ble_eq_true rfl⟩) ⟨gIn_blind XG_em, fun U hU hW => ⟨rfl, by rw [hU], XG_em _ _ hW hLE.1.1, by rw [hU]; exact hPc, va_K.moved hW.alike hKc, hDc.weaken (fun _ _ _ _ => trivial)⟩⟩ rfl rfl hl.1 rfl (lv_room (Nat.le_of_ble_eq_true rfl)) dL_law_12 ⟨Nat.le_of_ble_eq_true rfl, Nat.le_of_ble_eq_true rfl⟩) hS (fun q _ h => hFc q h) hFc (fun u2 t H1 locs ht hvm hw hB hz1 hk1 hS => ?_)
  obtain ⟨b2, cI2, cZ2⟩ := u2
  obtain ⟨hP1, hK1, hD1⟩ := hB
  rw [ht] at hP1
  have hK1 := va_K.moved hvm.symm hK1
  obtain ⟨qb, hqb⟩ : ∃ q : Nat → Nat, q = (fun k => match k with | 0 => a1 | k + 1 => b2 k) := ⟨_, rfl⟩
  have hqb0 : a1 = qb 0 := by rw [hqb]
  have hK9 : va_K D vwCl [(cI, .int), (cZ, .boolean), (cI2, .int), (cZ2, .boolean)] s := (hK.sub (tys' := [(cI, .int), (cZ, .boolean)]) [0, 1] rfl).app hK1
  have e1 : cI2 = cI := g_raI hK9 0 2 rfl rfl
  have e2 : cZ2 = cZ := g_raZ hK9 1 3 rfl rfl
  have hP1 : va_P D vwCl (XW cI cZ qb uX0) H1 := by rw [hqb, ← e1, ← e2]; exact hP1
  have hD1 : va_D (va_A (W0X2 a1) H.size) (XW cI cZ qb uX0) := by rw [hqb, ← e1, ← e2]; exact hD1
  obtain ⟨hP, hD⟩ := va_join (wr := XW cI cZ q uX0) (w1 := XW cI cZ qb uX0) hP hD [17] [0, 1, 2, 3, 4, 5, 6, 7, 8, 9, 10, 11, 12, 13, 14, 15, 16] rfl rfl (by decide) (by decide) hk1 hFc hP1 hD1
  generalize H1 = H at hP hS ⊢
  refine W.widen (k := 34) (n := 1524) (by omega) (by omega) ?_
  refine W.eq (g2 := F0 m 15 ls [.ref a1]) rfl ?_
  rw [hqb0]
  refine lv_astore_n (lv' := [(2, .ref (qb 0)), (1, .ref (q 0)), (0, .ref b)]) hx hb dL_law_15 rfl hl (by decide) rfl (fun ls hl => ?_)
  refine lv_iconst (v := 1) hx hb dL_law_16 (by decide +kernel) ?_
  refine va_newa (atype := .int) (a0 := (1, .inl (fun _ => 0))) hx hb (htb (.arrayClass .int) (by decide +kernel)) rfl hK hP hD hS hA (fun _ => rfl) (by decide) (N' := 1) (by decide +kernel) (Nat.le_of_ble_eq_true rfl) (Nat.le_of_ble_eq_true rfl) (Nat.le_of_ble_eq_true rfl) dL_law_17 (fun qn cJ H hK9 hP hD hS => ?_)
  have hK9 : va_K D vwCl [(cI, .int), (cZ, .boolean), (cJ, .int)] s := hK9
  have e3 : cJ = cI := g_raI hK9 0 2 rfl rfl
  subst e3
  have hP : va_P D vwCl (LX cJ cZ q qb qn (uX0, uX0, zF)) H := hP.sub [0, 1, 2, 3, 4, 5, 6, 7, 8, 9, 10, 11, 12, 13, 14, 15, 16, 17, 18, 19, 20, 21, 22, 23, 24, 25, 26, 27, 28, 29, 30, 31, 32, 33, 34] rfl
  have hD : va_D (fun a => s.heap.size ≤ a) (LX cJ cZ q qb qn (uX0, uX0, zF)) := hD.sub [0, 1, 2, 3, 4, 5, 6, 7, 8, 9, 10, 11, 12, 13, 14, 15, 16, 17, 18, 19, 20, 21, 22, 23, 24, 25, 26, 27, 28, 29, 30, 31, 32, 33, 34] (by decide) rfl
  refine W.widen (k := 35) (n := 1525) (by omega) (by omega) ?_
  refine lv_astore_n (lv' := [(3, .ref qn), (2, .ref (qb 0)), (1, .ref (q 0)), (0, .ref b)]) hx hb dL_law_19 rfl hl (by decide) rfl (fun ls hl => ?_)
  have hG : s.heap.size + 35 ≤ H.size := w_size hP hD (Nat.le_of_ble_eq_true rfl)
  exact law_run hx hb hml hown hts hst hLE hXT ⟨hX, Nat.not_le.mpr hbl⟩ hK (by omega) hP hD hS (lv_sub hl [3, 2, 1, 0] rfl) hG
