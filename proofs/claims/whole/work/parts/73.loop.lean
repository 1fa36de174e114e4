/-! THE LAW: its loop, its start -/
theorem law_lim {a L : Nat} (ha : a < 2 ^ 30) (hL : L < 2 ^ 30) : Int32.ofNat L - 6 < nI a ↔ ¬ a + 6 ≤ L := by
  rw [Int32.lt_iff_toInt_lt, show Int32.ofNat L - 6 = nI L - nI 6 from rfl, pk_sub_toInt hL (by omega), nI_toInt (by omega)]
  omega
set_option maxHeartbeats 4000000 in
set_option maxRecDepth 100000 in
theorem law_loop {p : Program} {l : Launch} {e : Env} {s : State} {mm : MethodId} {below : List Frame} {meth : Method} {c : Code} {b L : Nat} {xs : Nat → Int32} {D : va_G} {cI cZ cL : ClassId} {q qm : Nat → Nat} {qo : Nat} (C : LawC p s mm c b L xs D cI cZ cL) (hL : L ≤ 3072) (hst : l.stackTraces = false) (hr : meth.sig.returnType = ret) (hlk : meth.locks = false) :
    ∀ (d k n w : Nat) (x : SX) (m : SM) (g : Nat → Int64) (H : Heap) (locs : List Loc) (ls : Array Slot), L < 6 * k + 6 * d + 6 → k ≤ 512 → Sim n w x m → va_P D vwCl (LWd cI cZ cL q qm qo x m g) H → va_D (fun a => s.heap.size ≤ a) (LWd cI cZ cL q qm qo x m g) → va_S (fun a => s.heap.size ≤ a) s.heap H locs → lv_has ls 7 [(0, .ref b), (1, .ref (q 0)), (2, .ref (qm 0)), (3, .ref qo), (4, .int (nI (6 * k)))] →
      W p l e room_1 s mm #[Value.ref b] below meth c H locs (33 + k) (1722 + 6 * k) (lw_Z below #[Value.ref b] s) (F0 mm 23 ls []) := by
  obtain ⟨hx, hb, hml, hown, hts, hX, hbl, hLE, hXT, hK⟩ := id C
  have hbA : ¬ (fun a : Nat => s.heap.size ≤ a) b := Nat.not_le.mpr hbl
  intro d
  induction d with
  | zero =>
    intro k n w x m g H locs ls hd hk hSim hP hD hS hl
    refine lv_iload hx hb dL_law_23 (lv_at hl 4 rfl) ?_
    refine lv_aload_n hx hb dL_law_25 rfl (lv_at hl 0 rfl) ?_
    refine va_slen hx hb hX hbl hbA hS dL_law_26 ?_
    refine lv_bipush (v := 6) hx hb dL_law_27 (by decide +kernel) ?_
    refine lv_isub hx hb dL_law_29 ?_
    refine lv_icmp_gt (tgt := 1260) hx hb dL_law_30 (by decide) (fun c1 => ?_) (fun c1 => absurd ((law_lim (a := 6 * k) (by omega) (by omega)).mpr (by omega)) c1)
    refine lv_iconst (v := 1) hx hb dL_law_1260 (by decide +kernel) ?_
    refine va_forget (fun z hz => hS.2.2 z hz) ?_
    refine W.widen (k := 1069) (n := 9986) (by omega) (by omega) ?_
    exact lw_ret hx hb hr hlk dL_law_1261
  | succ d ih =>
    intro k n w x m g H locs ls hd hk hSim hP hD hS hl
    refine lv_iload hx hb dL_law_23 (lv_at hl 4 rfl) ?_
    refine lv_aload_n hx hb dL_law_25 rfl (lv_at hl 0 rfl) ?_
    refine va_slen hx hb hX hbl hbA hS dL_law_26 ?_
    refine lv_bipush (v := 6) hx hb dL_law_27 (by decide +kernel) ?_
    refine lv_isub hx hb dL_law_29 ?_
    refine lv_icmp_gt (tgt := 1260) hx hb dL_law_30 (by decide) (fun c1 => ?_) (fun c1 => ?_)
    · refine lv_iconst (v := 1) hx hb dL_law_1260 (by decide +kernel) ?_
      refine va_forget (fun z hz => hS.2.2 z hz) ?_
      refine W.widen (k := 1069) (n := 9986) (by omega) (by omega) ?_
      exact lw_ret hx hb hr hlk dL_law_1261
    · have hk6 : 6 * k + 6 ≤ L := Classical.byContradiction (fun h => c1 ((law_lim (a := 6 * k) (by omega) (by omega)).mpr h))
      have hN : LawN p l e s mm below meth c b D cI cZ cL q qm qo (lw_Z below #[Value.ref b] s) k := by
        intro n w x m g H locs ls hSim hP hD hS hl
        refine lv_iinc (v := nI (6 * (k + 1))) (lv' := [(4, .int (nI (6 * (k + 1)))), (0, .ref b), (1, .ref (q 0)), (2, .ref (qm 0)), (3, .ref qo)]) hx hb dL_law_1254 hl (k := 4) rfl (g_addE rfl rfl) (by decide) rfl (fun ls hl => ?_)
        refine lv_goto (tgt := 23) hx hb dL_law_1257 (by decide) ?_
        exact W.widen (by omega) (by omega) (ih (k + 1) n w x m g _ _ _ (by omega) (by omega) hSim hP hD hS (lv_sub hl [1, 2, 3, 4, 0] rfl))
      refine lv_aload_n hx hb dL_law_33 rfl (lv_at hl 0 rfl) ?_
      refine lv_iload hx hb dL_law_34 (lv_at hl 4 rfl) ?_
      refine g_sld hx hb hX hbl hbA hS (6 * k) (by omega) (by omega) rfl dL_law_36 ?_
      refine lv_bipush (v := 31) hx hb dL_law_37 (by decide +kernel) ?_
      refine lv_iand hx hb dL_law_39 ?_
      obtain ⟨j, hj, ej⟩ := pk_andE (xs (6 * k)) (m := 31) 5 (by decide +kernel)
      rw [ej]
      by_cases hj18 : j < 18
      · rcases (show j = 0 ∨ j = 1 ∨ j = 2 ∨ j = 3 ∨ j = 4 ∨ j = 5 ∨ j = 6 ∨ j = 7 ∨ j = 8 ∨ j = 9 ∨ j = 10 ∨ j = 11 ∨ j = 12 ∨ j = 13 ∨ j = 14 ∨ j = 15 ∨ j = 16 ∨ j = 17 by omega) with rfl | rfl | rfl | rfl | rfl | rfl | rfl | rfl | rfl | rfl | rfl | rfl | rfl | rfl | rfl | rfl | rfl | rfl
        · refine lv_tableIn (off := 88) (tgt := 128) hx hb dL_law_40 (by decide +kernel) (by decide +kernel) (by decide +kernel) (by decide) ?_
          exact law_make C hk6 hL (dbl_make hst hSim (xs (6 * k + 1)) (xs (6 * k + 2)) (xs (6 * k + 3)) (xs (6 * k + 4)) (xs (6 * k + 5))) hP hD hS hl hN
        · refine lv_tableIn (off := 192) (tgt := 232) hx hb dL_law_40 (by decide +kernel) (by decide +kernel) (by decide +kernel) (by decide) ?_
          exact law_setRef C hk6 hL (dbl_setRef hst hSim (xs (6 * k + 1)) (xs (6 * k + 2)) (xs (6 * k + 3))) hP hD hS hl hN
        · refine lv_tableIn (off := 272) (tgt := 312) hx hb dL_law_40 (by decide +kernel) (by decide +kernel) (by decide +kernel) (by decide) ?_
          exact law_ref C hk6 hL (dbl_ref hst hSim (xs (6 * k + 1)) (xs (6 * k + 2))) hP hD hS hl hN
        · refine lv_tableIn (off := 340) (tgt := 380) hx hb dL_law_40 (by decide +kernel) (by decide +kernel) (by decide +kernel) (by decide) ?_
          exact law_fileAt C hk6 hL (dbl_fileAt hst hSim (xs (6 * k + 1)) (xs (6 * k + 2))) hP hD hS hl hN
        · refine lv_tableIn (off := 408) (tgt := 448) hx hb dL_law_40 (by decide +kernel) (by decide +kernel) (by decide +kernel) (by decide) ?_
          exact law_fetch C hk6 hL (dbl_fetch hst hSim (xs (6 * k + 1)) (xs (6 * k + 2)) (zB (xs (6 * k + 3)))) hP hD hS hl hN
        · refine lv_tableIn (off := 504) (tgt := 544) hx hb dL_law_40 (by decide +kernel) (by decide +kernel) (by decide +kernel) (by decide) ?_
          exact law_wouldFetch C hk6 hL (dbl_wouldFetch hst hSim (xs (6 * k + 1)) (xs (6 * k + 2))) hP hD hS hl hN
        · refine lv_tableIn (off := 572) (tgt := 612) hx hb dL_law_40 (by decide +kernel) (by decide +kernel) (by decide +kernel) (by decide) ?_
          exact law_rounds C hk6 hL (dbl_rounds hSim) hP hD hS hl hN
        · refine lv_tableIn (off := 585) (tgt := 625) hx hb dL_law_40 (by decide +kernel) (by decide +kernel) (by decide +kernel) (by decide) ?_
          exact law_load C hk6 hL (dbl_load hst hSim (xs (6 * k + 1))) hP hD hS hl hN
        · refine lv_tableIn (off := 648) (tgt := 688) hx hb dL_law_40 (by decide +kernel) (by decide +kernel) (by decide +kernel) (by decide) ?_
          exact law_missing C hk6 hL (dbl_missing hSim) hP hD hS hl hN
        · refine lv_tableIn (off := 661) (tgt := 701) hx hb dL_law_40 (by decide +kernel) (by decide +kernel) (by decide +kernel) (by decide) ?_
          exact law_protect C hk6 hL (dbl_protect hst hSim (xs (6 * k + 1)) (xs (6 * k + 2))) hP hD hS hl hN
        · refine lv_tableIn (off := 752) (tgt := 792) hx hb dL_law_40 (by decide +kernel) (by decide +kernel) (by decide +kernel) (by decide) ?_
          exact law_move C hk6 hL (dbl_move hst hSim (xs (6 * k + 1)) (xs (6 * k + 2)) (xs (6 * k + 3))) hP hD hS hl hN
        · refine lv_tableIn (off := 832) (tgt := 872) hx hb dL_law_40 (by decide +kernel) (by decide +kernel) (by decide +kernel) (by decide) ?_
          exact law_push C hk6 hL (dbl_push hSim) hP hD hS hl hN
        · refine lv_tableIn (off := 845) (tgt := 885) hx hb dL_law_40 (by decide +kernel) (by decide +kernel) (by decide +kernel) (by decide) ?_
          exact law_collect C hk6 hL (dbl_collect hst hSim (xs (6 * k + 1))) hP hD hS hl hN
        · refine lv_tableIn (off := 901) (tgt := 941) hx hb dL_law_40 (by decide +kernel) (by decide +kernel) (by decide +kernel) (by decide) ?_
          exact law_commits C hk6 hL (dbl_commits hSim) hP hD hS hl hN
        · refine lv_tableIn (off := 914) (tgt := 954) hx hb dL_law_40 (by decide +kernel) (by decide +kernel) (by decide +kernel) (by decide) ?_
          exact law_has C hk6 hL (dbl_has hst hSim (xs (6 * k + 1)) (xs (6 * k + 2))) hP hD hS hl hN
        · refine lv_tableIn (off := 989) (tgt := 1029) hx hb dL_law_40 (by decide +kernel) (by decide +kernel) (by decide +kernel) (by decide) ?_
          exact law_hasFile C hk6 hL (dbl_hasFile hst hSim (xs (6 * k + 1)) (xs (6 * k + 2))) hP hD hS hl hN
        · refine lv_tableIn (off := 1064) (tgt := 1104) hx hb dL_law_40 (by decide +kernel) (by decide +kernel) (by decide +kernel) (by decide) ?_
          exact law_isShallow C hk6 hL (dbl_isShallow hst hSim (xs (6 * k + 1))) hP hD hS hl hN
        · refine lv_tableIn (off := 1127) (tgt := 1167) hx hb dL_law_40 (by decide +kernel) (by decide +kernel) (by decide +kernel) (by decide) ?_
          exact law_isAncestor C hk6 hL (dbl_isAncestor hst hSim (xs (6 * k + 1)) (xs (6 * k + 2)) (xs (6 * k + 3))) hP hD hS hl hN
      · refine lv_tableOut (tgt := 1254) hx hb dL_law_40 (Or.inr (by rw [nI_toInt (by omega)]; omega)) (by decide) ?_
        exact W.widen (by omega) (by omega) (hN n w x m g _ _ _ hSim hP hD hS hl)
