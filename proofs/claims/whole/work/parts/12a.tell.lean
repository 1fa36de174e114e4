theorem g_vn01 (v : Int32) (h : v = 0 ∨ v = 1) : vp_nar .boolean v = v := by rcases h with h | h <;> subst h <;> rfl
theorem nI_m1 {j : Nat} (h : j < 2 ^ 31) : ¬ nI j = -1 := by
  intro e
  have h1 := nI_toInt h
  rw [e] at h1
  have h2 : (-1 : Int32).toInt = -1 := by decide +kernel
  omega
def gCnt (p : Nat → Bool) : Nat → Nat
  | 0 => 0
  | n + 1 => gCnt p n + (if p n = true then 1 else 0)
theorem gCnt_le (p : Nat → Bool) : ∀ n, gCnt p n ≤ n
  | 0 => Nat.le_refl _
  | n + 1 => by
    have := gCnt_le p n
    unfold gCnt
    split <;> omega
theorem gCnt_congr {p p' : Nat → Bool} : ∀ n, (∀ i, i < n → p i = p' i) → gCnt p n = gCnt p' n
  | 0, _ => rfl
  | n + 1, h => by
    unfold gCnt
    rw [gCnt_congr n (fun i hi => h i (by omega)), h n (by omega)]
theorem gCnt_off {p p' : Nat → Bool} {k : Nat} (hk : p k = true) (hk' : p' k = false) (ho : ∀ i, i ≠ k → p' i = p i) : ∀ n, k < n → gCnt p' n + 1 = gCnt p n
  | 0, h => absurd h (Nat.not_lt_zero _)
  | n + 1, h => by
    unfold gCnt
    by_cases hkn : k = n
    · subst hkn
      rw [hk, hk', gCnt_congr k (fun i hi => ho i (by omega))]
      simp
    · have ih := gCnt_off hk hk' ho n (by omega)
      rw [ho n (fun e => hkn e.symm)]
      omega
/-- how many of 60 are not told yet -/
def mUnt (wt : Nat → Int32) : Nat := gCnt (fun k => decide (wt k = 0)) 60
theorem mUnt_le (wt : Nat → Int32) : mUnt wt ≤ 60 := gCnt_le _ 60
def mTellL (n : Nat) (hc cm : Nat → Int32) : Nat → Nat → (Nat → Int32) → (Nat → Int32) → Nat × ((Nat → Int32) × (Nat → Int32))
  | 0, c, ma, wt => (c, ma, wt)
  | d + 1, c, ma, wt => if 4 ≤ c then (c, ma, wt) else if mHas n hc 1 (nI d) = 0 then mTellL n hc cm d c ma wt
    else if cm d = 0 then (if wt d = 0 then mTellL n hc cm d (c + 1) (upd ma d (mHas n hc 0 (nI d))) (upd wt d 1) else mTellL n hc cm d c ma wt) else mTellL n hc cm d c ma wt
theorem mTell_unt (n : Nat) (hc cm : Nat → Int32) : ∀ (d c : Nat) (mk wt : Nat → Int32), d ≤ 60 → (mTellL n hc cm d c mk wt).1 + mUnt (mTellL n hc cm d c mk wt).2.2 = c + mUnt wt
  | 0, c, ma, wt, _ => rfl
  | d + 1, c, ma, wt, h => by
    unfold mTellL
    split
    · rfl
    · split
      · exact mTell_unt n hc cm d c ma wt (by omega)
      · split
        · split
          · rename_i h4
            rw [mTell_unt n hc cm d (c + 1) _ _ (by omega)]
            have := gCnt_off (p := fun k => decide (wt k = 0)) (p' := fun k => decide (upd wt d 1 k = 0)) (k := d) (by simp [h4]) (by simp [upd]) (fun i hi => by simp [upd, hi]) 60 (by omega)
            unfold mUnt
            omega
          · exact mTell_unt n hc cm d c ma wt (by omega)
        · exact mTell_unt n hc cm d c ma wt (by omega)
theorem tk0 {a b c : Nat} (h : a + b = 0 + c) (hc : c ≤ 0) : a ≤ 0 := by omega
theorem tk1 {a b c d : Nat} (h : a + b = 0 + c) (hc : c ≤ d + 1) (ha : ¬ a ≤ 0) : b ≤ d := by omega
theorem tk2 {r d : Nat} (h : r + (d + 1) ≤ 60) : r + 1 + d ≤ 60 := by omega
theorem tk3 {a b c : Nat} (h : a + b = 0 + c) (hc : c ≤ 60) : a < 2 ^ 31 := by omega
def mCmStep (mk : Nat → Int32) (k : Nat) (cm : Nat → Int32) : Nat → Int32 := if cm k = 0 then (if mk k = 0 then upd cm k 0 else upd cm k 1) else upd cm k 1
noncomputable def mCm (mk cm : Nat → Int32) : Nat → Int32 := opq (itU (mCmStep mk) 60 0 cm)
def mClr2Step (k : Nat) (z : (Nat → Int32) × (Nat → Int32)) : (Nat → Int32) × (Nat → Int32) := (upd z.1 k 0, upd z.2 k 0)
noncomputable def mClr2 (cm wt : Nat → Int32) : (Nat → Int32) × (Nat → Int32) := opq (itU mClr2Step 60 0 (cm, wt))
noncomputable def mTalkL (n : Nat) (hc fi se : Nat → Int32) : Nat → Nat → (Nat → Int32) → (Nat → Int32) → (Nat → Int32) → Nat × ((Nat → Int32) × ((Nat → Int32) × (Nat → Int32)))
  | 0, r, ma, cm, wt => (r, mOn1 n hc fi se (mTellL n hc cm n 0 (mClr ma) wt).2.1, mCm (mOn1 n hc fi se (mTellL n hc cm n 0 (mClr ma) wt).2.1) cm, (mTellL n hc cm n 0 (mClr ma) wt).2.2)
  | d + 1, r, ma, cm, wt => if (mTellL n hc cm n 0 (mClr ma) wt).1 = 0 then (r, mOn1 n hc fi se (mTellL n hc cm n 0 (mClr ma) wt).2.1, mCm (mOn1 n hc fi se (mTellL n hc cm n 0 (mClr ma) wt).2.1) cm, (mTellL n hc cm n 0 (mClr ma) wt).2.2)
    else mTalkL n hc fi se d (r + 1) (mOn1 n hc fi se (mTellL n hc cm n 0 (mClr ma) wt).2.1) (mCm (mOn1 n hc fi se (mTellL n hc cm n 0 (mClr ma) wt).2.1) cm) (mTellL n hc cm n 0 (mClr ma) wt).2.2
noncomputable def mTalk (n : Nat) (hc fi se mk cm wt : Nat → Int32) : Nat × ((Nat → Int32) × ((Nat → Int32) × (Nat → Int32))) := opq (mTalkL n hc fi se 60 0 mk (mClr2 cm wt).1 (mClr2 cm wt).2)
theorem mTalk_eq (n : Nat) (hc fi se ma cm wt : Nat → Int32) : mTalk n hc fi se ma cm wt = mTalkL n hc fi se 60 0 ma (mClr2 cm wt).1 (mClr2 cm wt).2 := opq_eq _
def mBringStep (sl : Nat → Int32) (fr to : Nat) (p3 : Int32) (k : Nat) (hf : Nat → Int32) : Nat → Int32 := if p3 = 0 then hf else if sl k = -1 then hf else if hf (100 * fr + (sl k).toNatClampNeg) = 0 then hf else upd hf (100 * to + (sl k).toNatClampNeg) 1
def mBring (sl : Nat → Int32) (fr to j : Nat) (p3 : Int32) (hf : Nat → Int32) : Nat → Int32 := itU (mBringStep sl fr to p3) 4 (4 * j) hf
def mNoF (p0 p1 : Int32) (rf : Nat → Int32) : Int32 := if xRange p0 4 = 0 then 1 else if mIn p1 0 60 = 0 then 2 else if rf p0.toNatClampNeg = -1 then 3 else 0
def mFetchStep (n : Nat) (mk cm sl : Nat → Int32) (p2 : Int32) (k : Nat) (z : Int32 × ((Nat → Int32) × (Nat → Int32))) : Int32 × ((Nat → Int32) × (Nat → Int32)) :=
  if mk k = 0 then z else if cm k = 0 then (if mHas n z.2.1 1 (nI k) = 0 then (z.1 + 1, upd z.2.1 (60 + k) 1, mBring sl 0 1 k p2 z.2.2) else (z.1 + 0, upd z.2.1 (60 + k) 1, mBring sl 0 1 k p2 z.2.2)) else z
def mFetch (n : Nat) (mk cm sl : Nat → Int32) (p2 : Int32) (hc hf : Nat → Int32) : Int32 × ((Nat → Int32) × (Nat → Int32)) := itU (mFetchStep n mk cm sl p2) n 0 (0, hc, hf)
def mWouldStep (n : Nat) (mk hc : Nat → Int32) (k : Nat) (c : Int32) : Int32 := if mk k = 0 then c + 0 else if mHas n hc 1 (nI k) = 0 then c + 1 else c + 0
def mWould (n : Nat) (mk hc : Nat → Int32) : Int32 := itU (mWouldStep n mk hc) n 0 0
theorem ctX3_in_4 (l : Launch) (D : va_G) (cI cZ : ClassId) (q : Nat → Nat) (p0 : Int32) : gM l yX3_in wsX3_in rmX3_in D [(cI, .int), (cZ, .boolean)] w0 (fun _ => True) [.int p0, .int 0, .int 3] () (some (.int (xRange p0 4))) () := by
  have h := ctX3_in l D cI cZ q p0 0 3
  rw [mIn_x p0 3 4 rfl (by omega)] at h
  exact h
theorem ctX3_in_100 (l : Launch) (D : va_G) (cI cZ : ClassId) (q : Nat → Nat) (p0 : Int32) : gM l yX3_in wsX3_in rmX3_in D [(cI, .int), (cZ, .boolean)] w0 (fun _ => True) [.int p0, .int 0, .int 99] () (some (.int (xRange p0 100))) () := by
  have h := ctX3_in l D cI cZ q p0 0 99
  rw [mIn_x p0 99 100 rfl (by omega)] at h
  exact h
theorem lkX3_tell_41 : Cond.fieldLink RX3 41 "FetchHouseModel" "marks" "[Z" ∈ wsX3_tell := List.mem_of_getElem? (i := 4) (by decide +kernel)
theorem lkX3_tell_44 : Cond.fieldLink RX3 44 "FetchHouseModel" "isCommon" "[Z" ∈ wsX3_tell := List.mem_of_getElem? (i := 2) (by decide +kernel)
theorem lkX3_tell_47 : Cond.fieldLink RX3 47 "FetchHouseModel" "wasTold" "[Z" ∈ wsX3_tell := List.mem_of_getElem? (i := 3) (by decide +kernel)
theorem lkX3_tell_61 : Cond.fieldLink RX3 61 "FetchHouseModel" "made" "I" ∈ wsX3_tell := List.mem_of_getElem? (i := 1) (by decide +kernel)
theorem inX3_tell_RX3 : ∀ w ∈ u_ws RX3 TX3 18, w ∈ wsX3_tell := fun w h => List.mem_cons_of_mem _ (List.mem_append_right _ h)
abbrev rmX3_tell : Room := { frames := 6, cells := 0, slots := 0, locals := 130 }
set_option maxHeartbeats 4000000 in
set_option maxRecDepth 100000 in
theorem ctX3_tell (l : Launch) (D : va_G) (cI cZ : ClassId) (q : Nat → Nat) (u : SM) (n : Nat) (hn : u 15 0 = nI n) (h60 : n ≤ 60) : gM l yX3_tell wsX3_tell rmX3_tell D [(cI, .int), (cZ, .boolean)] (MW cI cZ q) (fun _ => True) [.ref (q 0)] u (some (.int (nI (mTellL n (u 3) (u 11) n 0 (mClr (u 10)) (u 12)).1))) (mS (mS (mS u 10 (mOn1 n (u 3) (u 0) (u 1) (mTellL n (u 3) (u 11) n 0 (mClr (u 10)) (u 12)).2.1)) 11 (mCm (mOn1 n (u 3) (u 0) (u 1) (mTellL n (u 3) (u 11) n 0 (mClr (u 10)) (u 12)).2.1) (u 11))) 12 (mTellL n (u 3) (u 11) n 0 (mClr (u 10)) (u 12)).2.2) := by
  refine g_start (cc := cX3_tell) (maxL := 3) (ret := (some .int)) (by decide) rfl (Nat.le_of_ble_eq_true rfl) ?_
  intro p e s m below meth c A ls Q hx hb hml hret hts hown hlk hE hP hK hD hA hl hQ hS
  have hown : s.vm.findClass RX3 = some m.cls := hown
  have hl : lv_has ls 3 [(0, .ref (q 0))] := hl
  refine lv_iconst (v := (nI 0)) hx hb dX3_tell_0 (by decide +kernel) ?_
  refine lv_istore_n (lv' := [(1, .int (nI 0)), (0, .ref (q 0))]) hx hb dX3_tell_1 rfl hl (by decide) rfl (fun ls hl => ?_)
  refine lv_aload_n hx hb dX3_tell_2 rfl (lv_at hl 1 rfl) ?_
  refine g_callV (As := []) (rest := []) hx hb hml hown hts (ctX3_clear l D cI cZ q u) gX3_tell_X3_clear rfl rfl rfl hdX3_clear ⟨Nat.le_of_ble_eq_true rfl, Nat.le_of_ble_eq_true rfl⟩ gEM_true trivial hP hK hD hS hA 0 rfl rfl rfl hl.1 rfl (Nat.le_of_ble_eq_true rfl) dX3_tell_3 ⟨Nat.zero_le _, Nat.zero_le _⟩ (fun H locs hP hD hS => ?_)
  obtain ⟨hP, hD⟩ := g_toPD hP hD (MW_ext (Y := (mS u 10 (mClr (u 10)))) (by refine ⟨?_, ?_, ?_, ?_, ?_, ?_, ?_, ?_, ?_, ?_, ?_, ?_, ?_, ?_, ?_, ?_, ?_, ?_⟩ <;> simp only [mS_at, ↓reduceIte, Nat.reduceEqDiff] <;> rfl))
  refine W.eq (g2 := F0 m 6 ls []) rfl ?_
  refine lv_aload_n hx hb dX3_tell_6 rfl (lv_at hl 1 rfl) ?_
  refine va_get (ci := 3) (v := .int (nI n)) (C := RX3) (T := TX3) (N := 18) hx hb hts inX3_tell_RX3 hown hK hP 0 rfl rfl 1 (by decide) (hts _ lkX3_tell_61) (fun _ h9 => h9) (congrArg (fun z => some (Value.int z)) hn) dX3_tell_7 ?_
  refine lv_iconst (v := 1) hx hb dX3_tell_10 (by decide +kernel) ?_
  refine lv_isub hx hb dX3_tell_11 ?_
  refine lv_istore_n (lv' := [(2, .int ((nI n) - 1)), (1, .int (nI 0)), (0, .ref (q 0))]) hx hb dX3_tell_12 rfl hl (by decide) rfl (fun ls hl => ?_)
  have loop : ∀ (d cn : Nat) (mk wt : Nat → Int32) (H : Heap) (locs : List Loc) (ls : Array Slot) (hP : va_P D vwCl (MW cI cZ q (mS (mS u 10 mk) 12 wt)) H) (hD : va_D A (MW cI cZ q (mS (mS u 10 mk) 12 wt))) (hS : va_S A s.heap H locs) (hl : lv_has ls 3 [(0, .ref (q 0)), (1, .int (nI cn)), (2, .int (nI d - 1))]) (hd : d ≤ n) (hcb : cn + d ≤ 60) (hr : mTellL n (u 3) (u 11) d cn mk wt = (mTellL n (u 3) (u 11) n 0 (mClr (u 10)) (u 12))), W p l e rmX3_tell s m ([.ref (q 0)] : List Value).toArray below meth c H locs 0 0 Q (F0 m 13 ls []) := by
    intro d
    induction d with
    | zero =>
      intro cn mk wt H locs ls hP hD hS hl hd hcb hr
      refine lv_iload_n hx hb dX3_tell_13 rfl (lv_at hl 2 rfl) ?_
      refine lv_if_lt (tgt := 77) hx hb dX3_tell_14 (by decide) (fun c_14 => ?_) (fun c_14 => ?_)
      · have hE : (cn, mk, wt) = (mTellL n (u 3) (u 11) n 0 (mClr (u 10)) (u 12)) := hr
        refine lv_aload_n hx hb dX3_tell_77 rfl (lv_at hl 0 rfl) ?_
        refine lv_iconst (v := 1) hx hb dX3_tell_78 (by decide +kernel) ?_
        refine g_callV (As := [.int 1]) (rest := []) hx hb hml hown hts (ctX3_markOn_1 l D cI cZ q (mS (mS u 10 mk) 12 wt) n hn h60) gX3_tell_X3_markOn rfl rfl rfl hdX3_markOn ⟨Nat.le_of_ble_eq_true rfl, Nat.le_of_ble_eq_true rfl⟩ gEM_true trivial hP hK hD hS hA 0 rfl rfl rfl hl.1 rfl (Nat.le_of_ble_eq_true rfl) dX3_tell_79 ⟨Nat.zero_le _, Nat.zero_le _⟩ (fun H locs hP hD hS => ?_)
        obtain ⟨hP, hD⟩ := g_toPD hP hD (MW_ext (Y := (mS (mS (mS u 10 mk) 12 wt) 10 (mOn1 n (u 3) (u 0) (u 1) mk))) (by refine ⟨?_, ?_, ?_, ?_, ?_, ?_, ?_, ?_, ?_, ?_, ?_, ?_, ?_, ?_, ?_, ?_, ?_, ?_⟩ <;> simp only [mS_at, ↓reduceIte, Nat.reduceEqDiff] <;> rfl))
        refine W.eq (g2 := F0 m 82 ls []) rfl ?_
        refine lv_iconst (v := (nI 0)) hx hb dX3_tell_82 (by decide +kernel) ?_
        refine lv_istore_n (lv' := [(2, .int (nI 0)), (0, .ref (q 0)), (1, .int (nI cn))]) hx hb dX3_tell_83 rfl hl (by decide) rfl (fun ls hl => ?_)
        have loop2 : ∀ (d2 k2 : Nat) (cm : Nat → Int32) (H : Heap) (locs : List Loc) (ls : Array Slot) (hP : va_P D vwCl (MW cI cZ q (mS (mS (mS u 10 (mOn1 n (u 3) (u 0) (u 1) mk)) 11 cm) 12 wt)) H) (hD : va_D A (MW cI cZ q (mS (mS (mS u 10 (mOn1 n (u 3) (u 0) (u 1) mk)) 11 cm) 12 wt))) (hS : va_S A s.heap H locs) (hl : lv_has ls 3 [(0, .ref (q 0)), (1, .int (nI cn)), (2, .int (nI k2))]) (hk2 : k2 + d2 = 60) (hr2 : itU (mCmStep (mOn1 n (u 3) (u 0) (u 1) mk)) d2 k2 cm = mCm (mOn1 n (u 3) (u 0) (u 1) mk) (u 11)), W p l e rmX3_tell s m ([.ref (q 0)] : List Value).toArray below meth c H locs 0 0 Q (F0 m 84 ls []) := by
          intro d2
          induction d2 with
          | zero =>
            intro k2 cm H locs ls hP hD hS hl hk2 hr2
            refine lv_iload_n hx hb dX3_tell_84 rfl (lv_at hl 2 rfl) ?_
            refine lv_bipush (v := 60) hx hb dX3_tell_85 (by decide +kernel) ?_
            refine lv_icmp_ge (tgt := 125) hx hb dX3_tell_87 (by decide) (fun c_87 => ?_) (fun c_87 => ?_)
            · have n_87 : 60 ≤ k2 := (g_leI (a := 60) (b := k2) rfl rfl (by decide) (by omega)).mp c_87
              refine lv_iload_n hx hb dX3_tell_125 rfl (lv_at hl 1 rfl) ?_
              refine g_iret (u1 := (mS (mS (mS u 10 (mOn1 n (u 3) (u 0) (u 1) mk)) 11 cm) 12 wt)) hx hb hret hlk hQ hP hD hS dX3_tell_126 ?_ ?_
              · exact (by rw [← hE])
              · exact (by rw [← hE, show mCm (mOn1 n (u 3) (u 0) (u 1) mk) (u 11) = cm from hr2.symm])
            · have n_87 : ¬ 60 ≤ k2 := fun h => c_87 ((g_leI (a := 60) (b := k2) rfl rfl (by decide) (by omega)).mpr h)
              exfalso; omega
          | succ d2 ih =>
            intro k2 cm H locs ls hP hD hS hl hk2 hr2
            refine lv_iload_n hx hb dX3_tell_84 rfl (lv_at hl 2 rfl) ?_
            refine lv_bipush (v := 60) hx hb dX3_tell_85 (by decide +kernel) ?_
            refine lv_icmp_ge (tgt := 125) hx hb dX3_tell_87 (by decide) (fun c_87 => ?_) (fun c_87 => ?_)
            · have n_87 : 60 ≤ k2 := (g_leI (a := 60) (b := k2) rfl rfl (by decide) (by omega)).mp c_87
              exfalso; omega
            · have n_87 : ¬ 60 ≤ k2 := fun h => c_87 ((g_leI (a := 60) (b := k2) rfl rfl (by decide) (by omega)).mpr h)
              refine lv_aload_n hx hb dX3_tell_90 rfl (lv_at hl 0 rfl) ?_
              refine va_get (ci := 3) (v := .ref (q 12)) (C := RX3) (T := TX3) (N := 18) hx hb hts inX3_tell_RX3 hown hK hP 0 rfl rfl 15 (by decide) (hts _ lkX3_tell_44) (fun _ h9 => h9) rfl dX3_tell_91 ?_
              refine lv_iload_n hx hb dX3_tell_94 rfl (lv_at hl 2 rfl) ?_
              refine lv_aload_n hx hb dX3_tell_95 rfl (lv_at hl 0 rfl) ?_
              refine va_get (ci := 3) (v := .ref (q 12)) (C := RX3) (T := TX3) (N := 18) hx hb hts inX3_tell_RX3 hown hK hP 0 rfl rfl 15 (by decide) (hts _ lkX3_tell_44) (fun _ h9 => h9) rfl dX3_tell_96 ?_
              refine lv_iload_n hx hb dX3_tell_99 rfl (lv_at hl 2 rfl) ?_
              refine g_zald (n := 60) (f := cm) hx hb hK hP 12 1 (by rw [MW_get_11, show (mS (mS (mS u 10 (mOn1 n (u 3) (u 0) (u 1) mk)) 11 cm) 12 wt) 11 = cm from by simp only [mS_at, ↓reduceIte, Nat.reduceEqDiff]]) rfl k2 (by omega) (by omega) rfl dX3_tell_100 ?_
              refine lv_if_ne (tgt := 113) hx hb dX3_tell_101 (by decide) (fun c_101 => ?_) (fun c_101 => ?_)
              · refine lv_iconst (v := 1) hx hb dX3_tell_113 (by decide +kernel) ?_
                refine lv_goto (tgt := 118) hx hb dX3_tell_114 (by decide) ?_
                refine g_zast (n := 60) (f := cm) (u' := (mS (mS (mS (mS u 10 (mOn1 n (u 3) (u 0) (u 1) mk)) 11 cm) 12 wt) 11 (upd cm k2 1))) hx hb hK hP hD hS 12 1 (by rw [MW_get_11, show (mS (mS (mS u 10 (mOn1 n (u 3) (u 0) (u 1) mk)) 11 cm) 12 wt) 11 = cm from by simp only [mS_at, ↓reduceIte, Nat.reduceEqDiff]]) rfl k2 (by omega) (by omega) rfl rfl (MW_set_11 _ _) dX3_tell_118 (fun H locs hP hD hS => ?_)
                refine lv_iinc (v := (nI (k2 + 1))) (lv' := [(2, .int (nI (k2 + 1))), (0, .ref (q 0)), (1, .int (nI cn))]) hx hb dX3_tell_119 hl (k := 2) rfl (nI_1 _) (by decide) rfl (fun ls hl => ?_)
                refine lv_goto (tgt := 84) hx hb dX3_tell_122 (by decide) ?_
                rw [show MW cI cZ q (mS (mS (mS (mS u 10 (mOn1 n (u 3) (u 0) (u 1) mk)) 11 cm) 12 wt) 11 (upd cm k2 1)) = MW cI cZ q (mS (mS (mS u 10 (mOn1 n (u 3) (u 0) (u 1) mk)) 11 (upd cm k2 1)) 12 wt) from (MW_ext (by refine ⟨?_, ?_, ?_, ?_, ?_, ?_, ?_, ?_, ?_, ?_, ?_, ?_, ?_, ?_, ?_, ?_, ?_, ?_⟩ <;> simp only [mS_at, ↓reduceIte, Nat.reduceEqDiff] <;> rfl))] at hP hD
                exact ih (k2 + 1) (upd cm k2 1) _ _ _ hP hD hS (lv_sub hl [1, 2, 0] rfl) (by omega) (by rw [← hr2]; show _ = itU _ d2 (k2 + 1) (mCmStep _ k2 cm); rw [show mCmStep (mOn1 n (u 3) (u 0) (u 1) mk) k2 cm = (upd cm k2 1) from by unfold mCmStep; rw [if_neg c_101]])
              · refine lv_aload_n hx hb dX3_tell_104 rfl (lv_at hl 0 rfl) ?_
                refine va_get (ci := 3) (v := .ref (q 11)) (C := RX3) (T := TX3) (N := 18) hx hb hts inX3_tell_RX3 hown hK hP 0 rfl rfl 14 (by decide) (hts _ lkX3_tell_41) (fun _ h9 => h9) rfl dX3_tell_105 ?_
                refine lv_iload_n hx hb dX3_tell_108 rfl (lv_at hl 2 rfl) ?_
                refine g_zald (n := 60) (f := (mOn1 n (u 3) (u 0) (u 1) mk)) hx hb hK hP 11 1 (by rw [MW_get_10, show (mS (mS (mS u 10 (mOn1 n (u 3) (u 0) (u 1) mk)) 11 cm) 12 wt) 10 = (mOn1 n (u 3) (u 0) (u 1) mk) from by simp only [mS_at, ↓reduceIte, Nat.reduceEqDiff]]) rfl k2 (by omega) (by omega) rfl dX3_tell_109 ?_
                refine lv_if_eq (tgt := 117) hx hb dX3_tell_110 (by decide) (fun c_110 => ?_) (fun c_110 => ?_)
                · refine lv_iconst (v := 0) hx hb dX3_tell_117 (by decide +kernel) ?_
                  refine g_zast (n := 60) (f := cm) (u' := (mS (mS (mS (mS u 10 (mOn1 n (u 3) (u 0) (u 1) mk)) 11 cm) 12 wt) 11 (upd cm k2 0))) hx hb hK hP hD hS 12 1 (by rw [MW_get_11, show (mS (mS (mS u 10 (mOn1 n (u 3) (u 0) (u 1) mk)) 11 cm) 12 wt) 11 = cm from by simp only [mS_at, ↓reduceIte, Nat.reduceEqDiff]]) rfl k2 (by omega) (by omega) rfl rfl (MW_set_11 _ _) dX3_tell_118 (fun H locs hP hD hS => ?_)
                  refine lv_iinc (v := (nI (k2 + 1))) (lv' := [(2, .int (nI (k2 + 1))), (0, .ref (q 0)), (1, .int (nI cn))]) hx hb dX3_tell_119 hl (k := 2) rfl (nI_1 _) (by decide) rfl (fun ls hl => ?_)
                  refine lv_goto (tgt := 84) hx hb dX3_tell_122 (by decide) ?_
                  rw [show MW cI cZ q (mS (mS (mS (mS u 10 (mOn1 n (u 3) (u 0) (u 1) mk)) 11 cm) 12 wt) 11 (upd cm k2 0)) = MW cI cZ q (mS (mS (mS u 10 (mOn1 n (u 3) (u 0) (u 1) mk)) 11 (upd cm k2 0)) 12 wt) from (MW_ext (by refine ⟨?_, ?_, ?_, ?_, ?_, ?_, ?_, ?_, ?_, ?_, ?_, ?_, ?_, ?_, ?_, ?_, ?_, ?_⟩ <;> simp only [mS_at, ↓reduceIte, Nat.reduceEqDiff] <;> rfl))] at hP hD
                  exact ih (k2 + 1) (upd cm k2 0) _ _ _ hP hD hS (lv_sub hl [1, 2, 0] rfl) (by omega) (by rw [← hr2]; show _ = itU _ d2 (k2 + 1) (mCmStep _ k2 cm); rw [show mCmStep (mOn1 n (u 3) (u 0) (u 1) mk) k2 cm = (upd cm k2 0) from by unfold mCmStep; rw [if_pos c_101, if_pos c_110]])
                · refine lv_iconst (v := 1) hx hb dX3_tell_113 (by decide +kernel) ?_
                  refine lv_goto (tgt := 118) hx hb dX3_tell_114 (by decide) ?_
                  refine g_zast (n := 60) (f := cm) (u' := (mS (mS (mS (mS u 10 (mOn1 n (u 3) (u 0) (u 1) mk)) 11 cm) 12 wt) 11 (upd cm k2 1))) hx hb hK hP hD hS 12 1 (by rw [MW_get_11, show (mS (mS (mS u 10 (mOn1 n (u 3) (u 0) (u 1) mk)) 11 cm) 12 wt) 11 = cm from by simp only [mS_at, ↓reduceIte, Nat.reduceEqDiff]]) rfl k2 (by omega) (by omega) rfl rfl (MW_set_11 _ _) dX3_tell_118 (fun H locs hP hD hS => ?_)
                  refine lv_iinc (v := (nI (k2 + 1))) (lv' := [(2, .int (nI (k2 + 1))), (0, .ref (q 0)), (1, .int (nI cn))]) hx hb dX3_tell_119 hl (k := 2) rfl (nI_1 _) (by decide) rfl (fun ls hl => ?_)
                  refine lv_goto (tgt := 84) hx hb dX3_tell_122 (by decide) ?_
                  rw [show MW cI cZ q (mS (mS (mS (mS u 10 (mOn1 n (u 3) (u 0) (u 1) mk)) 11 cm) 12 wt) 11 (upd cm k2 1)) = MW cI cZ q (mS (mS (mS u 10 (mOn1 n (u 3) (u 0) (u 1) mk)) 11 (upd cm k2 1)) 12 wt) from (MW_ext (by refine ⟨?_, ?_, ?_, ?_, ?_, ?_, ?_, ?_, ?_, ?_, ?_, ?_, ?_, ?_, ?_, ?_, ?_, ?_⟩ <;> simp only [mS_at, ↓reduceIte, Nat.reduceEqDiff] <;> rfl))] at hP hD
                  exact ih (k2 + 1) (upd cm k2 1) _ _ _ hP hD hS (lv_sub hl [1, 2, 0] rfl) (by omega) (by rw [← hr2]; show _ = itU _ d2 (k2 + 1) (mCmStep _ k2 cm); rw [show mCmStep (mOn1 n (u 3) (u 0) (u 1) mk) k2 cm = (upd cm k2 1) from by unfold mCmStep; rw [if_pos c_101, if_neg c_110]])
        rw [show MW cI cZ q (mS (mS (mS u 10 mk) 12 wt) 10 (mOn1 n (u 3) (u 0) (u 1) mk)) = MW cI cZ q (mS (mS (mS u 10 (mOn1 n (u 3) (u 0) (u 1) mk)) 11 (u 11)) 12 wt) from (MW_ext (by refine ⟨?_, ?_, ?_, ?_, ?_, ?_, ?_, ?_, ?_, ?_, ?_, ?_, ?_, ?_, ?_, ?_, ?_, ?_⟩ <;> simp only [mS_at, ↓reduceIte, Nat.reduceEqDiff] <;> rfl))] at hP hD
        exact loop2 60 0 (u 11) _ _ _ hP hD hS (lv_sub hl [1, 2, 0] rfl) (by omega) (opq_eq _).symm
      · exact absurd (by decide +kernel) c_14
    | succ d ih =>
      intro cn mk wt H locs ls hP hD hS hl hd hcb hr
      rw [nI_pred] at hl
      refine lv_iload_n hx hb dX3_tell_13 rfl (lv_at hl 2 rfl) ?_
      refine lv_if_lt (tgt := 77) hx hb dX3_tell_14 (by decide) (fun c_14 => ?_) (fun c_14 => ?_)
      · exact absurd c_14 (nI_pos (by omega))
      · refine lv_iload_n hx hb dX3_tell_17 rfl (lv_at hl 1 rfl) ?_
        refine lv_iconst (v := 4) hx hb dX3_tell_18 (by decide +kernel) ?_
        refine lv_icmp_ge (tgt := 77) hx hb dX3_tell_19 (by decide) (fun c_19 => ?_) (fun c_19 => ?_)
        · have n_19 : 4 ≤ cn := (g_leI (a := 4) (b := cn) rfl rfl (by decide) (by omega)).mp c_19
          have hE : (cn, mk, wt) = (mTellL n (u 3) (u 11) n 0 (mClr (u 10)) (u 12)) := by rw [← hr, mTellL, if_pos n_19]
          refine lv_aload_n hx hb dX3_tell_77 rfl (lv_at hl 0 rfl) ?_
          refine lv_iconst (v := 1) hx hb dX3_tell_78 (by decide +kernel) ?_
          refine g_callV (As := [.int 1]) (rest := []) hx hb hml hown hts (ctX3_markOn_1 l D cI cZ q (mS (mS u 10 mk) 12 wt) n hn h60) gX3_tell_X3_markOn rfl rfl rfl hdX3_markOn ⟨Nat.le_of_ble_eq_true rfl, Nat.le_of_ble_eq_true rfl⟩ gEM_true trivial hP hK hD hS hA 0 rfl rfl rfl hl.1 rfl (Nat.le_of_ble_eq_true rfl) dX3_tell_79 ⟨Nat.zero_le _, Nat.zero_le _⟩ (fun H locs hP hD hS => ?_)
          obtain ⟨hP, hD⟩ := g_toPD hP hD (MW_ext (Y := (mS (mS (mS u 10 mk) 12 wt) 10 (mOn1 n (u 3) (u 0) (u 1) mk))) (by refine ⟨?_, ?_, ?_, ?_, ?_, ?_, ?_, ?_, ?_, ?_, ?_, ?_, ?_, ?_, ?_, ?_, ?_, ?_⟩ <;> simp only [mS_at, ↓reduceIte, Nat.reduceEqDiff] <;> rfl))
          refine W.eq (g2 := F0 m 82 ls []) rfl ?_
          refine lv_iconst (v := (nI 0)) hx hb dX3_tell_82 (by decide +kernel) ?_
          refine lv_istore_n (lv' := [(2, .int (nI 0)), (0, .ref (q 0)), (1, .int (nI cn))]) hx hb dX3_tell_83 rfl hl (by decide) rfl (fun ls hl => ?_)
          have loop2 : ∀ (d2 k2 : Nat) (cm : Nat → Int32) (H : Heap) (locs : List Loc) (ls : Array Slot) (hP : va_P D vwCl (MW cI cZ q (mS (mS (mS u 10 (mOn1 n (u 3) (u 0) (u 1) mk)) 11 cm) 12 wt)) H) (hD : va_D A (MW cI cZ q (mS (mS (mS u 10 (mOn1 n (u 3) (u 0) (u 1) mk)) 11 cm) 12 wt))) (hS : va_S A s.heap H locs) (hl : lv_has ls 3 [(0, .ref (q 0)), (1, .int (nI cn)), (2, .int (nI k2))]) (hk2 : k2 + d2 = 60) (hr2 : itU (mCmStep (mOn1 n (u 3) (u 0) (u 1) mk)) d2 k2 cm = mCm (mOn1 n (u 3) (u 0) (u 1) mk) (u 11)), W p l e rmX3_tell s m ([.ref (q 0)] : List Value).toArray below meth c H locs 0 0 Q (F0 m 84 ls []) := by
            intro d2
            induction d2 with
            | zero =>
              intro k2 cm H locs ls hP hD hS hl hk2 hr2
              refine lv_iload_n hx hb dX3_tell_84 rfl (lv_at hl 2 rfl) ?_
              refine lv_bipush (v := 60) hx hb dX3_tell_85 (by decide +kernel) ?_
              refine lv_icmp_ge (tgt := 125) hx hb dX3_tell_87 (by decide) (fun c_87 => ?_) (fun c_87 => ?_)
              · have n_87 : 60 ≤ k2 := (g_leI (a := 60) (b := k2) rfl rfl (by decide) (by omega)).mp c_87
                refine lv_iload_n hx hb dX3_tell_125 rfl (lv_at hl 1 rfl) ?_
                refine g_iret (u1 := (mS (mS (mS u 10 (mOn1 n (u 3) (u 0) (u 1) mk)) 11 cm) 12 wt)) hx hb hret hlk hQ hP hD hS dX3_tell_126 ?_ ?_
                · exact (by rw [← hE])
                · exact (by rw [← hE, show mCm (mOn1 n (u 3) (u 0) (u 1) mk) (u 11) = cm from hr2.symm])
              · have n_87 : ¬ 60 ≤ k2 := fun h => c_87 ((g_leI (a := 60) (b := k2) rfl rfl (by decide) (by omega)).mpr h)
                exfalso; omega
            | succ d2 ih =>
              intro k2 cm H locs ls hP hD hS hl hk2 hr2
              refine lv_iload_n hx hb dX3_tell_84 rfl (lv_at hl 2 rfl) ?_
              refine lv_bipush (v := 60) hx hb dX3_tell_85 (by decide +kernel) ?_
              refine lv_icmp_ge (tgt := 125) hx hb dX3_tell_87 (by decide) (fun c_87 => ?_) (fun c_87 => ?_)
              · have n_87 : 60 ≤ k2 := (g_leI (a := 60) (b := k2) rfl rfl (by decide) (by omega)).mp c_87
                exfalso; omega
              · have n_87 : ¬ 60 ≤ k2 := fun h => c_87 ((g_leI (a := 60) (b := k2) rfl rfl (by decide) (by omega)).mpr h)
                refine lv_aload_n hx hb dX3_tell_90 rfl (lv_at hl 0 rfl) ?_
                refine va_get (ci := 3) (v := .ref (q 12)) (C := RX3) (T := TX3) (N := 18) hx hb hts inX3_tell_RX3 hown hK hP 0 rfl rfl 15 (by decide) (hts _ lkX3_tell_44) (fun _ h9 => h9) rfl dX3_tell_91 ?_
                refine lv_iload_n hx hb dX3_tell_94 rfl (lv_at hl 2 rfl) ?_
                refine lv_aload_n hx hb dX3_tell_95 rfl (lv_at hl 0 rfl) ?_
                refine va_get (ci := 3) (v := .ref (q 12)) (C := RX3) (T := TX3) (N := 18) hx hb hts inX3_tell_RX3 hown hK hP 0 rfl rfl 15 (by decide) (hts _ lkX3_tell_44) (fun _ h9 => h9) rfl dX3_tell_96 ?_
                refine lv_iload_n hx hb dX3_tell_99 rfl (lv_at hl 2 rfl) ?_
                refine g_zald (n := 60) (f := cm) hx hb hK hP 12 1 (by rw [MW_get_11, show (mS (mS (mS u 10 (mOn1 n (u 3) (u 0) (u 1) mk)) 11 cm) 12 wt) 11 = cm from by simp only [mS_at, ↓reduceIte, Nat.reduceEqDiff]]) rfl k2 (by omega) (by omega) rfl dX3_tell_100 ?_
                refine lv_if_ne (tgt := 113) hx hb dX3_tell_101 (by decide) (fun c_101 => ?_) (fun c_101 => ?_)
                · refine lv_iconst (v := 1) hx hb dX3_tell_113 (by decide +kernel) ?_
                  refine lv_goto (tgt := 118) hx hb dX3_tell_114 (by decide) ?_
                  refine g_zast (n := 60) (f := cm) (u' := (mS (mS (mS (mS u 10 (mOn1 n (u 3) (u 0) (u 1) mk)) 11 cm) 12 wt) 11 (upd cm k2 1))) hx hb hK hP hD hS 12 1 (by rw [MW_get_11, show (mS (mS (mS u 10 (mOn1 n (u 3) (u 0) (u 1) mk)) 11 cm) 12 wt) 11 = cm from by simp only [mS_at, ↓reduceIte, Nat.reduceEqDiff]]) rfl k2 (by omega) (by omega) rfl rfl (MW_set_11 _ _) dX3_tell_118 (fun H locs hP hD hS => ?_)
                  refine lv_iinc (v := (nI (k2 + 1))) (lv' := [(2, .int (nI (k2 + 1))), (0, .ref (q 0)), (1, .int (nI cn))]) hx hb dX3_tell_119 hl (k := 2) rfl (nI_1 _) (by decide) rfl (fun ls hl => ?_)
                  refine lv_goto (tgt := 84) hx hb dX3_tell_122 (by decide) ?_
                  rw [show MW cI cZ q (mS (mS (mS (mS u 10 (mOn1 n (u 3) (u 0) (u 1) mk)) 11 cm) 12 wt) 11 (upd cm k2 1)) = MW cI cZ q (mS (mS (mS u 10 (mOn1 n (u 3) (u 0) (u 1) mk)) 11 (upd cm k2 1)) 12 wt) from (MW_ext (by refine ⟨?_, ?_, ?_, ?_, ?_, ?_, ?_, ?_, ?_, ?_, ?_, ?_, ?_, ?_, ?_, ?_, ?_, ?_⟩ <;> simp only [mS_at, ↓reduceIte, Nat.reduceEqDiff] <;> rfl))] at hP hD
                  exact ih (k2 + 1) (upd cm k2 1) _ _ _ hP hD hS (lv_sub hl [1, 2, 0] rfl) (by omega) (by rw [← hr2]; show _ = itU _ d2 (k2 + 1) (mCmStep _ k2 cm); rw [show mCmStep (mOn1 n (u 3) (u 0) (u 1) mk) k2 cm = (upd cm k2 1) from by unfold mCmStep; rw [if_neg c_101]])
                · refine lv_aload_n hx hb dX3_tell_104 rfl (lv_at hl 0 rfl) ?_
                  refine va_get (ci := 3) (v := .ref (q 11)) (C := RX3) (T := TX3) (N := 18) hx hb hts inX3_tell_RX3 hown hK hP 0 rfl rfl 14 (by decide) (hts _ lkX3_tell_41) (fun _ h9 => h9) rfl dX3_tell_105 ?_
                  refine lv_iload_n hx hb dX3_tell_108 rfl (lv_at hl 2 rfl) ?_
                  refine g_zald (n := 60) (f := (mOn1 n (u 3) (u 0) (u 1) mk)) hx hb hK hP 11 1 (by rw [MW_get_10, show (mS (mS (mS u 10 (mOn1 n (u 3) (u 0) (u 1) mk)) 11 cm) 12 wt) 10 = (mOn1 n (u 3) (u 0) (u 1) mk) from by simp only [mS_at, ↓reduceIte, Nat.reduceEqDiff]]) rfl k2 (by omega) (by omega) rfl dX3_tell_109 ?_
                  refine lv_if_eq (tgt := 117) hx hb dX3_tell_110 (by decide) (fun c_110 => ?_) (fun c_110 => ?_)
                  · refine lv_iconst (v := 0) hx hb dX3_tell_117 (by decide +kernel) ?_
                    refine g_zast (n := 60) (f := cm) (u' := (mS (mS (mS (mS u 10 (mOn1 n (u 3) (u 0) (u 1) mk)) 11 cm) 12 wt) 11 (upd cm k2 0))) hx hb hK hP hD hS 12 1 (by rw [MW_get_11, show (mS (mS (mS u 10 (mOn1 n (u 3) (u 0) (u 1) mk)) 11 cm) 12 wt) 11 = cm from by simp only [mS_at, ↓reduceIte, Nat.reduceEqDiff]]) rfl k2 (by omega) (by omega) rfl rfl (MW_set_11 _ _) dX3_tell_118 (fun H locs hP hD hS => ?_)
                    refine lv_iinc (v := (nI (k2 + 1))) (lv' := [(2, .int (nI (k2 + 1))), (0, .ref (q 0)), (1, .int (nI cn))]) hx hb dX3_tell_119 hl (k := 2) rfl (nI_1 _) (by decide) rfl (fun ls hl => ?_)
                    refine lv_goto (tgt := 84) hx hb dX3_tell_122 (by decide) ?_
                    rw [show MW cI cZ q (mS (mS (mS (mS u 10 (mOn1 n (u 3) (u 0) (u 1) mk)) 11 cm) 12 wt) 11 (upd cm k2 0)) = MW cI cZ q (mS (mS (mS u 10 (mOn1 n (u 3) (u 0) (u 1) mk)) 11 (upd cm k2 0)) 12 wt) from (MW_ext (by refine ⟨?_, ?_, ?_, ?_, ?_, ?_, ?_, ?_, ?_, ?_, ?_, ?_, ?_, ?_, ?_, ?_, ?_, ?_⟩ <;> simp only [mS_at, ↓reduceIte, Nat.reduceEqDiff] <;> rfl))] at hP hD
                    exact ih (k2 + 1) (upd cm k2 0) _ _ _ hP hD hS (lv_sub hl [1, 2, 0] rfl) (by omega) (by rw [← hr2]; show _ = itU _ d2 (k2 + 1) (mCmStep _ k2 cm); rw [show mCmStep (mOn1 n (u 3) (u 0) (u 1) mk) k2 cm = (upd cm k2 0) from by unfold mCmStep; rw [if_pos c_101, if_pos c_110]])
                  · refine lv_iconst (v := 1) hx hb dX3_tell_113 (by decide +kernel) ?_
                    refine lv_goto (tgt := 118) hx hb dX3_tell_114 (by decide) ?_
                    refine g_zast (n := 60) (f := cm) (u' := (mS (mS (mS (mS u 10 (mOn1 n (u 3) (u 0) (u 1) mk)) 11 cm) 12 wt) 11 (upd cm k2 1))) hx hb hK hP hD hS 12 1 (by rw [MW_get_11, show (mS (mS (mS u 10 (mOn1 n (u 3) (u 0) (u 1) mk)) 11 cm) 12 wt) 11 = cm from by simp only [mS_at, ↓reduceIte, Nat.reduceEqDiff]]) rfl k2 (by omega) (by omega) rfl rfl (MW_set_11 _ _) dX3_tell_118 (fun H locs hP hD hS => ?_)
                    refine lv_iinc (v := (nI (k2 + 1))) (lv' := [(2, .int (nI (k2 + 1))), (0, .ref (q 0)), (1, .int (nI cn))]) hx hb dX3_tell_119 hl (k := 2) rfl (nI_1 _) (by decide) rfl (fun ls hl => ?_)
                    refine lv_goto (tgt := 84) hx hb dX3_tell_122 (by decide) ?_
                    rw [show MW cI cZ q (mS (mS (mS (mS u 10 (mOn1 n (u 3) (u 0) (u 1) mk)) 11 cm) 12 wt) 11 (upd cm k2 1)) = MW cI cZ q (mS (mS (mS u 10 (mOn1 n (u 3) (u 0) (u 1) mk)) 11 (upd cm k2 1)) 12 wt) from (MW_ext (by refine ⟨?_, ?_, ?_, ?_, ?_, ?_, ?_, ?_, ?_, ?_, ?_, ?_, ?_, ?_, ?_, ?_, ?_, ?_⟩ <;> simp only [mS_at, ↓reduceIte, Nat.reduceEqDiff] <;> rfl))] at hP hD
                    exact ih (k2 + 1) (upd cm k2 1) _ _ _ hP hD hS (lv_sub hl [1, 2, 0] rfl) (by omega) (by rw [← hr2]; show _ = itU _ d2 (k2 + 1) (mCmStep _ k2 cm); rw [show mCmStep (mOn1 n (u 3) (u 0) (u 1) mk) k2 cm = (upd cm k2 1) from by unfold mCmStep; rw [if_pos c_101, if_neg c_110]])
          rw [show MW cI cZ q (mS (mS (mS u 10 mk) 12 wt) 10 (mOn1 n (u 3) (u 0) (u 1) mk)) = MW cI cZ q (mS (mS (mS u 10 (mOn1 n (u 3) (u 0) (u 1) mk)) 11 (u 11)) 12 wt) from (MW_ext (by refine ⟨?_, ?_, ?_, ?_, ?_, ?_, ?_, ?_, ?_, ?_, ?_, ?_, ?_, ?_, ?_, ?_, ?_, ?_⟩ <;> simp only [mS_at, ↓reduceIte, Nat.reduceEqDiff] <;> rfl))] at hP hD
          exact loop2 60 0 (u 11) _ _ _ hP hD hS (lv_sub hl [1, 2, 0] rfl) (by omega) (opq_eq _).symm
        · have n_19 : ¬ 4 ≤ cn := fun h => c_19 ((g_leI (a := 4) (b := cn) rfl rfl (by decide) (by omega)).mpr h)
          refine lv_aload_n hx hb dX3_tell_22 rfl (lv_at hl 0 rfl) ?_
          refine lv_iconst (v := 1) hx hb dX3_tell_23 (by decide +kernel) ?_
          refine lv_iload_n hx hb dX3_tell_24 rfl (lv_at hl 2 rfl) ?_
          refine g_callV (As := [.int 1, .int (nI d)]) (rest := []) hx hb hml hown hts (ctX3_isIn_1 l D cI cZ q (mS (mS u 10 mk) 12 wt) n hn h60 (nI d)) gX3_tell_X3_isIn rfl rfl rfl hdX3_isIn ⟨Nat.le_of_ble_eq_true rfl, Nat.le_of_ble_eq_true rfl⟩ gEM_true trivial hP hK hD hS hA 0 rfl rfl rfl hl.1 rfl (Nat.le_of_ble_eq_true rfl) dX3_tell_25 ⟨Nat.zero_le _, Nat.zero_le _⟩ (fun H locs hP hD hS => ?_)
          refine W.eq (g2 := F0 m 28 ls [.int (mHas n (u 3) 1 (nI d))]) rfl ?_
          refine lv_if_eq (tgt := 71) hx hb dX3_tell_28 (by decide) (fun c_28 => ?_) (fun c_28 => ?_)
          · refine lv_iinc (v := ((nI d) - 1)) (lv' := [(2, .int ((nI d) - 1)), (0, .ref (q 0)), (1, .int (nI cn))]) hx hb dX3_tell_71 hl (k := 2) rfl (g_dec1 _) (by decide) rfl (fun ls hl => ?_)
            refine lv_goto (tgt := 13) hx hb dX3_tell_74 (by decide) ?_
            exact ih cn mk wt _ _ _ hP hD hS (lv_sub hl [1, 2, 0] rfl) (by omega) (by omega) (by rw [← hr, mTellL, if_neg n_19, if_pos c_28])
          · refine lv_aload_n hx hb dX3_tell_31 rfl (lv_at hl 0 rfl) ?_
            refine va_get (ci := 3) (v := .ref (q 12)) (C := RX3) (T := TX3) (N := 18) hx hb hts inX3_tell_RX3 hown hK hP 0 rfl rfl 15 (by decide) (hts _ lkX3_tell_44) (fun _ h9 => h9) rfl dX3_tell_32 ?_
            refine lv_iload_n hx hb dX3_tell_35 rfl (lv_at hl 2 rfl) ?_
            refine g_zald (n := 60) (f := (u 11)) hx hb hK hP 12 1 (by rw [MW_get_11, show (mS (mS u 10 mk) 12 wt) 11 = (u 11) from by simp only [mS_at, ↓reduceIte, Nat.reduceEqDiff]]) rfl d (by omega) (by omega) rfl dX3_tell_36 ?_
            refine lv_if_ne (tgt := 71) hx hb dX3_tell_37 (by decide) (fun c_37 => ?_) (fun c_37 => ?_)
            · refine lv_iinc (v := ((nI d) - 1)) (lv' := [(2, .int ((nI d) - 1)), (0, .ref (q 0)), (1, .int (nI cn))]) hx hb dX3_tell_71 hl (k := 2) rfl (g_dec1 _) (by decide) rfl (fun ls hl => ?_)
              refine lv_goto (tgt := 13) hx hb dX3_tell_74 (by decide) ?_
              exact ih cn mk wt _ _ _ hP hD hS (lv_sub hl [1, 2, 0] rfl) (by omega) (by omega) (by rw [← hr, mTellL, if_neg n_19, if_neg c_28, if_neg c_37])
            · refine lv_aload_n hx hb dX3_tell_40 rfl (lv_at hl 0 rfl) ?_
              refine va_get (ci := 3) (v := .ref (q 13)) (C := RX3) (T := TX3) (N := 18) hx hb hts inX3_tell_RX3 hown hK hP 0 rfl rfl 16 (by decide) (hts _ lkX3_tell_47) (fun _ h9 => h9) rfl dX3_tell_41 ?_
              refine lv_iload_n hx hb dX3_tell_44 rfl (lv_at hl 2 rfl) ?_
              refine g_zald (n := 60) (f := wt) hx hb hK hP 13 1 (by rw [MW_get_12, show (mS (mS u 10 mk) 12 wt) 12 = wt from by simp only [mS_at, ↓reduceIte, Nat.reduceEqDiff]]) rfl d (by omega) (by omega) rfl dX3_tell_45 ?_
              refine lv_if_ne (tgt := 71) hx hb dX3_tell_46 (by decide) (fun c_46 => ?_) (fun c_46 => ?_)
              · refine lv_iinc (v := ((nI d) - 1)) (lv' := [(2, .int ((nI d) - 1)), (0, .ref (q 0)), (1, .int (nI cn))]) hx hb dX3_tell_71 hl (k := 2) rfl (g_dec1 _) (by decide) rfl (fun ls hl => ?_)
                refine lv_goto (tgt := 13) hx hb dX3_tell_74 (by decide) ?_
                exact ih cn mk wt _ _ _ hP hD hS (lv_sub hl [1, 2, 0] rfl) (by omega) (by omega) (by rw [← hr, mTellL, if_neg n_19, if_neg c_28, if_pos c_37, if_neg c_46])
              · refine lv_aload_n hx hb dX3_tell_49 rfl (lv_at hl 0 rfl) ?_
                refine va_get (ci := 3) (v := .ref (q 13)) (C := RX3) (T := TX3) (N := 18) hx hb hts inX3_tell_RX3 hown hK hP 0 rfl rfl 16 (by decide) (hts _ lkX3_tell_47) (fun _ h9 => h9) rfl dX3_tell_50 ?_
                refine lv_iload_n hx hb dX3_tell_53 rfl (lv_at hl 2 rfl) ?_
                refine lv_iconst (v := 1) hx hb dX3_tell_54 (by decide +kernel) ?_
                refine g_zast (n := 60) (f := wt) (u' := (mS (mS (mS u 10 mk) 12 wt) 12 (upd wt d 1))) hx hb hK hP hD hS 13 1 (by rw [MW_get_12, show (mS (mS u 10 mk) 12 wt) 12 = wt from by simp only [mS_at, ↓reduceIte, Nat.reduceEqDiff]]) rfl d (by omega) (by omega) rfl rfl (MW_set_12 _ _) dX3_tell_55 (fun H locs hP hD hS => ?_)
                refine lv_aload_n hx hb dX3_tell_56 rfl (lv_at hl 0 rfl) ?_
                refine va_get (ci := 3) (v := .ref (q 11)) (C := RX3) (T := TX3) (N := 18) hx hb hts inX3_tell_RX3 hown hK hP 0 rfl rfl 14 (by decide) (hts _ lkX3_tell_41) (fun _ h9 => h9) rfl dX3_tell_57 ?_
                refine lv_iload_n hx hb dX3_tell_60 rfl (lv_at hl 2 rfl) ?_
                refine lv_aload_n hx hb dX3_tell_61 rfl (lv_at hl 0 rfl) ?_
                refine lv_iconst (v := 0) hx hb dX3_tell_62 (by decide +kernel) ?_
                refine lv_iload_n hx hb dX3_tell_63 rfl (lv_at hl 2 rfl) ?_
                refine g_callV (As := [.int 0, .int (nI d)]) (rest := [.int (nI d), .ref (q 11)]) hx hb hml hown hts (ctX3_isIn_0 l D cI cZ q (mS (mS (mS u 10 mk) 12 wt) 12 (upd wt d 1)) n hn h60 (nI d)) gX3_tell_X3_isIn rfl rfl rfl hdX3_isIn ⟨Nat.le_of_ble_eq_true rfl, Nat.le_of_ble_eq_true rfl⟩ gEM_true trivial hP hK hD hS hA 0 rfl rfl rfl hl.1 rfl (Nat.le_of_ble_eq_true rfl) dX3_tell_64 ⟨Nat.zero_le _, Nat.zero_le _⟩ (fun H locs hP hD hS => ?_)
                refine W.eq (g2 := F0 m 67 ls [.int (mHas n (u 3) 0 (nI d)), .int (nI d), .ref (q 11)]) rfl ?_
                refine g_zast (n := 60) (f := mk) (u' := (mS (mS (mS (mS u 10 mk) 12 wt) 12 (upd wt d 1)) 10 (upd mk d (mHas n (u 3) 0 (nI d))))) hx hb hK hP hD hS 11 1 (by rw [MW_get_10, show (mS (mS (mS u 10 mk) 12 wt) 12 (upd wt d 1)) 10 = mk from by simp only [mS_at, ↓reduceIte, Nat.reduceEqDiff]]) rfl d (by omega) (by omega) rfl (g_vn01 _ (mHas_01 _ _ _ _)) (MW_set_10 _ _) dX3_tell_67 (fun H locs hP hD hS => ?_)
                refine lv_iinc (v := (nI (cn + 1))) (lv' := [(1, .int (nI (cn + 1))), (0, .ref (q 0)), (2, .int (nI d))]) hx hb dX3_tell_68 hl (k := 1) rfl (nI_1 _) (by decide) rfl (fun ls hl => ?_)
                refine lv_iinc (v := ((nI d) - 1)) (lv' := [(2, .int ((nI d) - 1)), (1, .int (nI (cn + 1))), (0, .ref (q 0))]) hx hb dX3_tell_71 hl (k := 2) rfl (g_dec1 _) (by decide) rfl (fun ls hl => ?_)
                refine lv_goto (tgt := 13) hx hb dX3_tell_74 (by decide) ?_
                rw [show MW cI cZ q (mS (mS (mS (mS u 10 mk) 12 wt) 12 (upd wt d 1)) 10 (upd mk d (mHas n (u 3) 0 (nI d)))) = MW cI cZ q (mS (mS u 10 (upd mk d (mHas n (u 3) 0 (nI d)))) 12 (upd wt d 1)) from (MW_ext (by refine ⟨?_, ?_, ?_, ?_, ?_, ?_, ?_, ?_, ?_, ?_, ?_, ?_, ?_, ?_, ?_, ?_, ?_, ?_⟩ <;> simp only [mS_at, ↓reduceIte, Nat.reduceEqDiff] <;> rfl))] at hP hD
                exact ih (cn + 1) (upd mk d (mHas n (u 3) 0 (nI d))) (upd wt d 1) _ _ _ hP hD hS (lv_sub hl [2, 1, 0] rfl) (by omega) (by omega) (by rw [← hr, mTellL, if_neg n_19, if_neg c_28, if_pos c_37, if_pos c_46])
  rw [show MW cI cZ q (mS u 10 (mClr (u 10))) = MW cI cZ q (mS (mS u 10 (mClr (u 10))) 12 (u 12)) from (MW_ext (by refine ⟨?_, ?_, ?_, ?_, ?_, ?_, ?_, ?_, ?_, ?_, ?_, ?_, ?_, ?_, ?_, ?_, ?_, ?_⟩ <;> simp only [mS_at, ↓reduceIte, Nat.reduceEqDiff] <;> rfl))] at hP hD
  exact loop n 0 (mClr (u 10)) (u 12) _ _ _ hP hD hS (lv_sub hl [2, 1, 0] rfl) (by omega) (by omega) rfl
