def mBar0 (n : Nat) (hc : Nat → Int32) (nw : Int32) : Int32 := if nw = -1 then 0 else if mHas n hc 1 nw = 0 then 1 else 0
def mBarStep (n : Nat) (hc fi se ma : Nat → Int32) (k : Nat) (t : Int32) : Int32 := if t = 0 then (if ma k = 0 then 0 else if mShal n hc fi se k = 0 then 0 else if mHas n hc 0 (nI k) = 0 then 1 else 0) else 1
def mBarT (n : Nat) (hc fi se ma : Nat → Int32) (nw : Int32) : Int32 := itU (mBarStep n hc fi se ma) n 0 (mBar0 n hc nw)
def mBarB (n : Nat) (hc fi se ma : Nat → Int32) (nw : Int32) : Int32 := if mBarT n hc fi se ma nw = 0 then 0 else -4
def mBarP (n : Nat) (hc fi se pr mr mo mw ma : Nat → Int32) (i : Nat) : Int32 := if pr (mr i).toNatClampNeg = 0 then mBarB n hc fi se ma (mw i) else if mo i = -1 then mBarB n hc fi se ma (mw i) else if ma (mo i).toNatClampNeg = 0 then -3 else mBarB n hc fi se ma (mw i)
noncomputable def mBar (n : Nat) (hc fi se rf pr mr mo mw ma : Nat → Int32) (i : Nat) : Int32 × (Nat → Int32) := if rf (mr i).toNatClampNeg = mo i then (mBarP n hc fi se pr mr mo mw (mFrom1 n hc fi se ma (mw i)) i, mFrom1 n hc fi se ma (mw i)) else (-2, ma)
noncomputable def mBars (n : Nat) (hc fi se rf pr mr mo mw : Nat → Int32) : Nat → Nat → (Nat → Int32) → Int32 × (Nat → Int32)
  | 0, _, ma => (0, ma)
  | d + 1, i, ma => if (mBar n hc fi se rf pr mr mo mw ma i).1 = 0 then mBars n hc fi se rf pr mr mo mw d (i + 1) (mBar n hc fi se rf pr mr mo mw ma i).2 else mBar n hc fi se rf pr mr mo mw ma i
def mPushI (n : Nat) (ma sl : Nat → Int32) (k : Nat) (z : Int32 × ((Nat → Int32) × (Nat → Int32))) : Int32 × ((Nat → Int32) × (Nat → Int32)) :=
  if ma k = 0 then z else if mHas n z.2.1 0 (nI k) = 0 then (z.1 + 1, upd z.2.1 k 1, mBring sl 1 0 k 1 z.2.2) else (z.1 + 0, upd z.2.1 k 1, mBring sl 1 0 k 1 z.2.2)
noncomputable def mPushO (n : Nat) (fi se sl mr mw : Nat → Int32) (i : Nat) (z : Int32 × ((Nat → Int32) × ((Nat → Int32) × ((Nat → Int32) × (Nat → Int32))))) : Int32 × ((Nat → Int32) × ((Nat → Int32) × ((Nat → Int32) × (Nat → Int32)))) :=
  ((itU (mPushI n (mFrom1 n z.2.2.1 fi se z.2.1 (mw i)) sl) n 0 (z.1, z.2.2.1, z.2.2.2.1)).1, mFrom1 n z.2.2.1 fi se z.2.1 (mw i), (itU (mPushI n (mFrom1 n z.2.2.1 fi se z.2.1 (mw i)) sl) n 0 (z.1, z.2.2.1, z.2.2.2.1)).2.1, (itU (mPushI n (mFrom1 n z.2.2.1 fi se z.2.1 (mw i)) sl) n 0 (z.1, z.2.2.1, z.2.2.2.1)).2.2, upd z.2.2.2.2 (mr i).toNatClampNeg (mw i))
def mColStep (n : Nat) (hc : Nat → Int32) (b : Nat) (rf : Nat → Int32) (k : Nat) (ma : Nat → Int32) : Nat → Int32 := mMark n hc b ma (rf (4 * b + k))
noncomputable def mColM (n : Nat) (hc : Nat → Int32) (b : Nat) (rf ma : Nat → Int32) : Nat → Int32 := opq (itU (mColStep n hc b rf) 4 0 (mClr ma))
theorem m01_itm {n : Nat} {hc : Nat → Int32} {b : Nat} {rf : Nat → Int32} : ∀ (d i : Nat) (ma : Nat → Int32), m01 ma → m01 (itU (mColStep n hc b rf) d i ma)
  | 0, _, _, h => h
  | d + 1, i, ma, h => m01_itm d (i + 1) _ (m01_mark _ h)
theorem m01_col (n : Nat) (hc : Nat → Int32) (b : Nat) (rf ma : Nat → Int32) : m01 (mColM n hc b rf ma) := by
  unfold mColM
  rw [opq_eq]
  exact m01_itm 4 0 _ (m01_clr ma)
def mColC (n : Nat) (b : Nat) (ma : Nat → Int32) (k : Nat) (z : Int32 × (Nat → Int32)) : Int32 × (Nat → Int32) :=
  if mHas n z.2 b (nI k) = 0 then (z.1 + 0, upd z.2 (60 * b + k) (ma k)) else if ma k = 0 then (z.1 + 1, upd z.2 (60 * b + k) (ma k)) else (z.1 + 0, upd z.2 (60 * b + k) (ma k))
def mColF (n : Nat) (hc : Nat → Int32) (b : Nat) (sl : Nat → Int32) (k : Nat) (hf : Nat → Int32) : Nat → Int32 := if hf (100 * b + k) = 0 then upd hf (100 * b + k) 0 else if mNeed n hc b sl (nI k) = 0 then upd hf (100 * b + k) 0 else upd hf (100 * b + k) 1
noncomputable def mColFs (n : Nat) (hc : Nat → Int32) (b : Nat) (sl hf : Nat → Int32) : Nat → Int32 := opq (itU (mColF n hc b sl) 100 0 hf)
def mMkA (n : Nat) (hc : Nat → Int32) (b : Nat) (p1 p2 p3 : Int32) : Int32 := if xRange p3 4 = 0 then 0 else if mHasN n hc b p1 = 0 then 0 else if mHasN n hc b p2 = 0 then 0 else 1
def mMkF (p1 p2 p4 : Int32) : Int32 := if mIn p4 (-1) 99 = 0 then 0 else if p2 = -1 then 1 else if p1 = -1 then 0 else if p1 = p2 then 0 else 1
def mMakeC (n : Nat) (hc : Nat → Int32) (b : Nat) (p1 p2 p3 p4 : Int32) : Int32 := if mMkA n hc b p1 p2 p3 = 0 then 1 else if mMkF p1 p2 p4 = 0 then 2 else if n = 60 then 3 else 0
def mMakeStep (n : Nat) (p1 p3 p4 : Int32) (k : Nat) (sl : Nat → Int32) : Nat → Int32 := if nI k = p3 then upd sl (4 * n + k) p4 else if p1 = -1 then upd sl (4 * n + k) (-1) else upd sl (4 * n + k) (sl (4 * p1.toNatClampNeg + k))
noncomputable def mMakeS (n : Nat) (p1 p3 p4 : Int32) (sl : Nat → Int32) : Nat → Int32 := opq (itU (mMakeStep n p1 p3 p4) 4 0 sl)
def mMakeF (b : Nat) (p4 : Int32) (hf : Nat → Int32) : Nat → Int32 := if p4 = -1 then hf else upd hf (100 * b + p4.toNatClampNeg) 1
theorem mMkA_ne {n : Nat} {hc : Nat → Int32} {b : Nat} {p1 p2 p3 : Int32} (h : ¬ mMkA n hc b p1 p2 p3 = 0) : ¬ mHasN n hc b p1 = 0 ∧ ¬ mHasN n hc b p2 = 0 := by
  unfold mMkA at h
  split at h
  · exact absurd rfl h
  · split at h
    · exact absurd rfl h
    · split at h
      · exact absurd rfl h
      · exact ⟨by assumption, by assumption⟩
theorem mMkF_ne {p1 p2 p4 : Int32} (h : ¬ mMkF p1 p2 p4 = 0) : ¬ mIn p4 (-1) 99 = 0 := by
  unfold mMkF at h
  split at h
  · exact absurd rfl h
  · assumption
theorem mHasN_ne {n : Nat} {hc : Nat → Int32} {b : Nat} {c : Int32} (hn : n < 2 ^ 31) (h : ¬ mHasN n hc b c = 0) (hc1 : ¬ c = -1) : ∃ j : Nat, j < n ∧ c = nI j := by
  unfold mHasN at h
  rw [if_neg hc1] at h
  split at h
  · exact absurd rfl h
  · exact mHas_ne hn (by assumption)
theorem mIn_m1 {c : Int32} (h : ¬ mIn c (-1) 99 = 0) (h1 : ¬ c = -1) : ∃ f : Nat, f < 100 ∧ c = nI f := by
  unfold mIn at h
  split at h
  · exact absurd rfl h
  · split at h
    · exact absurd rfl h
    · rename_i ha hb
      have h3 : (-1 : Int32).toInt = -1 := by decide +kernel
      have h4 : (99 : Int32).toInt = 99 := by decide +kernel
      have h0 : ¬ c < 0 := by
        intro h2
        have ha' : ¬ c.toInt < (-1 : Int32).toInt := fun e => ha (Int32.lt_iff_toInt_lt.mpr e)
        have h2' : c.toInt < (0 : Int32).toInt := Int32.lt_iff_toInt_lt.mp h2
        have h5 : (0 : Int32).toInt = 0 := by decide +kernel
        exact h1 (Int32.toInt_inj.mp (by omega))
      obtain ⟨j, hj, rfl⟩ := nI_of h0
      have hb' : ¬ (99 : Int32).toInt < (nI j).toInt := fun e => hb (Int32.lt_iff_toInt_lt.mpr e)
      rw [nI_toInt hj] at hb'
      exact ⟨j, by omega, rfl⟩
theorem lkX3_barred_26 : Cond.fieldLink RX3 26 "FetchHouseModel" "refs" "[I" ∈ wsX3_barred := List.mem_of_getElem? (i := 3) (by decide +kernel)
theorem lkX3_barred_29 : Cond.fieldLink RX3 29 "FetchHouseModel" "isProtected" "[Z" ∈ wsX3_barred := List.mem_of_getElem? (i := 5) (by decide +kernel)
theorem lkX3_barred_32 : Cond.fieldLink RX3 32 "FetchHouseModel" "moveRefs" "[I" ∈ wsX3_barred := List.mem_of_getElem? (i := 4) (by decide +kernel)
theorem lkX3_barred_35 : Cond.fieldLink RX3 35 "FetchHouseModel" "moveOlds" "[I" ∈ wsX3_barred := List.mem_of_getElem? (i := 1) (by decide +kernel)
theorem lkX3_barred_38 : Cond.fieldLink RX3 38 "FetchHouseModel" "moveNews" "[I" ∈ wsX3_barred := List.mem_of_getElem? (i := 2) (by decide +kernel)
theorem lkX3_barred_41 : Cond.fieldLink RX3 41 "FetchHouseModel" "marks" "[Z" ∈ wsX3_barred := List.mem_of_getElem? (i := 6) (by decide +kernel)
theorem lkX3_barred_61 : Cond.fieldLink RX3 61 "FetchHouseModel" "made" "I" ∈ wsX3_barred := List.mem_of_getElem? (i := 7) (by decide +kernel)
theorem inX3_barred_RX3 : ∀ w ∈ u_ws RX3 TX3 18, w ∈ wsX3_barred := fun w h => List.mem_cons_of_mem _ (List.mem_append_right _ h)
abbrev rmX3_barred : Room := { frames := 7, cells := 0, slots := 0, locals := 152 }
set_option maxHeartbeats 4000000 in
set_option maxRecDepth 100000 in
theorem ctX3_barred (l : Launch) (D : va_G) (cI cZ : ClassId) (q : Nat → Nat) (u : SM) (n : Nat) (hn : u 15 0 = nI n) (h60 : n ≤ 60) (w : Nat) (hw3 : w ≤ 3) (hmr : ∀ i, i < w → ∃ r, r < 4 ∧ u 7 i = nI r) (hmo : ∀ i, i < w → (u 8 i = -1 ∨ ∃ j, j < 60 ∧ u 8 i = nI j)) (i : Nat) (hi : i < w) : gM l yX3_barred wsX3_barred rmX3_barred D [(cI, .int), (cZ, .boolean)] (MW cI cZ q) (fun _ => True) [.ref (q 0), .int (nI i)] u (some (.int (mBar n (u 3) (u 0) (u 1) (u 5) (u 6) (u 7) (u 8) (u 9) (u 10) i).1)) (mS u 10 (mBar n (u 3) (u 0) (u 1) (u 5) (u 6) (u 7) (u 8) (u 9) (u 10) i).2) := by
  refine g_start (cc := cX3_barred) (maxL := 6) (ret := (some .int)) (by decide) rfl (Nat.le_of_ble_eq_true rfl) ?_
  intro p e s m below meth c A ls Q hx hb hml hret hts hown hlk hE hP hK hD hA hl hQ hS
  have hown : s.vm.findClass RX3 = some m.cls := hown
  have hl : lv_has ls 6 [(0, .ref (q 0)), (1, .int (nI i))] := hl
  obtain ⟨r, hrb, hrr⟩ := hmr i (by omega)
  have hrc : (u 7 i).toNatClampNeg = r := by rw [hrr, nI_clamp (by omega)]
  have hrl : (u 7 i).toNatClampNeg < 4 := by rw [hrc]; exact hrb
  have hre : u 7 i = nI (u 7 i).toNatClampNeg := by rw [hrc]; exact hrr
  refine lv_aload_n hx hb dX3_barred_0 rfl (lv_at hl 0 rfl) ?_
  refine va_get (ci := 3) (v := .ref (q 9)) (C := RX3) (T := TX3) (N := 18) hx hb hts inX3_barred_RX3 hown hK hP 0 rfl rfl 11 (by decide) (hts _ lkX3_barred_35) (fun _ h9 => h9) rfl dX3_barred_1 ?_
  refine lv_iload_n hx hb dX3_barred_4 rfl (lv_at hl 1 rfl) ?_
  refine g_iald (n := 3) (f := (u 8)) hx hb hK hP 9 0 (MW_get_8 _) rfl i (by omega) (by omega) rfl dX3_barred_5 ?_
  refine lv_istore_n (lv' := [(2, .int ((u 8) i)), (0, .ref (q 0)), (1, .int (nI i))]) hx hb dX3_barred_6 rfl hl (by decide) rfl (fun ls hl => ?_)
  refine lv_aload_n hx hb dX3_barred_7 rfl (lv_at hl 1 rfl) ?_
  refine va_get (ci := 3) (v := .ref (q 10)) (C := RX3) (T := TX3) (N := 18) hx hb hts inX3_barred_RX3 hown hK hP 0 rfl rfl 12 (by decide) (hts _ lkX3_barred_38) (fun _ h9 => h9) rfl dX3_barred_8 ?_
  refine lv_iload_n hx hb dX3_barred_11 rfl (lv_at hl 2 rfl) ?_
  refine g_iald (n := 3) (f := (u 9)) hx hb hK hP 10 0 (MW_get_9 _) rfl i (by omega) (by omega) rfl dX3_barred_12 ?_
  refine lv_istore_n (lv' := [(3, .int ((u 9) i)), (2, .int ((u 8) i)), (0, .ref (q 0)), (1, .int (nI i))]) hx hb dX3_barred_13 rfl hl (by decide) rfl (fun ls hl => ?_)
  refine lv_aload_n hx hb dX3_barred_14 rfl (lv_at hl 2 rfl) ?_
  refine va_get (ci := 3) (v := .ref (q 6)) (C := RX3) (T := TX3) (N := 18) hx hb hts inX3_barred_RX3 hown hK hP 0 rfl rfl 7 (by decide) (hts _ lkX3_barred_26) (fun _ h9 => h9) rfl dX3_barred_15 ?_
  refine lv_aload_n hx hb dX3_barred_18 rfl (lv_at hl 2 rfl) ?_
  refine va_get (ci := 3) (v := .ref (q 8)) (C := RX3) (T := TX3) (N := 18) hx hb hts inX3_barred_RX3 hown hK hP 0 rfl rfl 10 (by decide) (hts _ lkX3_barred_32) (fun _ h9 => h9) rfl dX3_barred_19 ?_
  refine lv_iload_n hx hb dX3_barred_22 rfl (lv_at hl 3 rfl) ?_
  refine g_iald (n := 3) (f := (u 7)) hx hb hK hP 8 0 (MW_get_7 _) rfl i (by omega) (by omega) rfl dX3_barred_23 ?_
  refine g_iald (n := 8) (f := (u 5)) hx hb hK hP 6 0 (MW_get_5 _) rfl (u 7 i).toNatClampNeg (by omega) (by omega) hre dX3_barred_24 ?_
  refine lv_iload_n hx hb dX3_barred_25 rfl (lv_at hl 1 rfl) ?_
  refine lv_icmp_eq (tgt := 32) hx hb dX3_barred_26 (by decide) (fun c_26 => ?_) (fun c_26 => ?_)
  · refine lv_aload_n hx hb dX3_barred_32 rfl (lv_at hl 2 rfl) ?_
    refine lv_iconst (v := 1) hx hb dX3_barred_33 (by decide +kernel) ?_
    refine lv_iload_n hx hb dX3_barred_34 rfl (lv_at hl 0 rfl) ?_
    refine g_callV (As := [.int 1, .int ((u 9) i)]) (rest := []) hx hb hml hown hts (ctX3_markFrom_1 l D cI cZ q u n hn h60 ((u 9) i)) gX3_barred_X3_markFrom rfl rfl rfl hdX3_markFrom ⟨Nat.le_of_ble_eq_true rfl, Nat.le_of_ble_eq_true rfl⟩ gEM_true trivial hP hK hD hS hA 0 rfl rfl rfl hl.1 rfl (Nat.le_of_ble_eq_true rfl) dX3_barred_35 ⟨Nat.zero_le _, Nat.zero_le _⟩ (fun H locs hP hD hS => ?_)
    obtain ⟨hP, hD⟩ := g_toPD hP hD (MW_ext (Y := (mS u 10 (mFrom1 n (u 3) (u 0) (u 1) (u 10) ((u 9) i)))) (by refine ⟨?_, ?_, ?_, ?_, ?_, ?_, ?_, ?_, ?_, ?_, ?_, ?_, ?_, ?_, ?_, ?_, ?_, ?_⟩ <;> simp only [mS_at, ↓reduceIte, Nat.reduceEqDiff] <;> rfl))
    refine W.eq (g2 := F0 m 38 ls []) rfl ?_
    have c69 : ∀  (H : Heap) (locs : List Loc) (ls : Array Slot) (hP : va_P D vwCl (MW cI cZ q (mS u 10 (mFrom1 n (u 3) (u 0) (u 1) (u 10) ((u 9) i)))) H) (hD : va_D A (MW cI cZ q (mS u 10 (mFrom1 n (u 3) (u 0) (u 1) (u 10) ((u 9) i))))) (hS : va_S A s.heap H locs) (hl : lv_has ls 6 [(0, .ref (q 0)), (1, .int (nI i)), (2, .int ((u 8) i)), (3, .int ((u 9) i))]) (hB : mBarP n (u 3) (u 0) (u 1) (u 6) (u 7) (u 8) (u 9) (mFrom1 n (u 3) (u 0) (u 1) (u 10) (u 9 i)) i = (mBarB n (u 3) (u 0) (u 1) (mFrom1 n (u 3) (u 0) (u 1) (u 10) (u 9 i)) (u 9 i))), W p l e rmX3_barred s m ([.ref (q 0), .int (nI i)] : List Value).toArray below meth c H locs 0 0 Q (F0 m 69 ls []) := by
      intro  H locs ls hP hD hS hl hB
      have c88 : ∀ (t0 : Int32) (H : Heap) (locs : List Loc) (ls : Array Slot) (hP : va_P D vwCl (MW cI cZ q (mS u 10 (mFrom1 n (u 3) (u 0) (u 1) (u 10) ((u 9) i)))) H) (hD : va_D A (MW cI cZ q (mS u 10 (mFrom1 n (u 3) (u 0) (u 1) (u 10) ((u 9) i))))) (hS : va_S A s.heap H locs) (hl : lv_has ls 6 [(0, .ref (q 0)), (1, .int (nI i)), (2, .int ((u 8) i)), (3, .int ((u 9) i))]) (ht : t0 = 0 ∨ t0 = 1) (h0 : (mBar0 n (u 3) (u 9 i)) = t0), W p l e rmX3_barred s m ([.ref (q 0), .int (nI i)] : List Value).toArray below meth c H locs 0 0 Q (F0 m 88 ls [.int t0]) := by
        intro t0 H locs ls hP hD hS hl ht h0
        refine lv_istore (lv' := [(4, .int t0), (0, .ref (q 0)), (1, .int (nI i)), (2, .int ((u 8) i)), (3, .int ((u 9) i))]) hx hb dX3_barred_88 hl (by decide) rfl (fun ls hl => ?_)
        refine lv_iconst (v := (nI 0)) hx hb dX3_barred_90 (by decide +kernel) ?_
        refine lv_istore (lv' := [(5, .int (nI 0)), (4, .int t0), (0, .ref (q 0)), (1, .int (nI i)), (2, .int ((u 8) i)), (3, .int ((u 9) i))]) hx hb dX3_barred_91 hl (by decide) rfl (fun ls hl => ?_)
        have loop : ∀ (d k : Nat) (t : Int32) (H : Heap) (locs : List Loc) (ls : Array Slot) (hP : va_P D vwCl (MW cI cZ q (mS u 10 (mFrom1 n (u 3) (u 0) (u 1) (u 10) ((u 9) i)))) H) (hD : va_D A (MW cI cZ q (mS u 10 (mFrom1 n (u 3) (u 0) (u 1) (u 10) ((u 9) i))))) (hS : va_S A s.heap H locs) (hl : lv_has ls 6 [(0, .ref (q 0)), (1, .int (nI i)), (2, .int ((u 8) i)), (3, .int ((u 9) i)), (4, .int t), (5, .int (nI k))]) (hk : k + d = n) (htt : t = 0 ∨ t = 1) (hr : itU (mBarStep n (u 3) (u 0) (u 1) (mFrom1 n (u 3) (u 0) (u 1) (u 10) (u 9 i))) d k t = (mBarT n (u 3) (u 0) (u 1) (mFrom1 n (u 3) (u 0) (u 1) (u 10) (u 9 i)) (u 9 i))), W p l e rmX3_barred s m ([.ref (q 0), .int (nI i)] : List Value).toArray below meth c H locs 0 0 Q (F0 m 93 ls []) := by
          intro d
          induction d with
          | zero =>
            intro k t H locs ls hP hD hS hl hk htt hr
            refine lv_iload hx hb dX3_barred_93 (lv_at hl 5 rfl) ?_
            refine lv_aload_n hx hb dX3_barred_95 rfl (lv_at hl 0 rfl) ?_
            refine va_get (ci := 3) (v := .int (nI n)) (C := RX3) (T := TX3) (N := 18) hx hb hts inX3_barred_RX3 hown hK hP 0 rfl rfl 1 (by decide) (hts _ lkX3_barred_61) (fun _ h9 => h9) (congrArg (fun z => some (Value.int z)) hn) dX3_barred_96 ?_
            refine lv_icmp_ge (tgt := 149) hx hb dX3_barred_99 (by decide) (fun c_99 => ?_) (fun c_99 => ?_)
            · have n_99 : n ≤ k := (g_leI (a := n) (b := k) rfl rfl (by omega) (by omega)).mp c_99
              refine lv_iload hx hb dX3_barred_149 (lv_at hl 4 rfl) ?_
              refine lv_if_eq (tgt := 159) hx hb dX3_barred_151 (by decide) (fun c_151 => ?_) (fun c_151 => ?_)
              · refine lv_iconst (v := 0) hx hb dX3_barred_159 (by decide +kernel) ?_
                refine g_iret (u1 := (mS u 10 (mFrom1 n (u 3) (u 0) (u 1) (u 10) ((u 9) i)))) hx hb hret hlk hQ hP hD hS dX3_barred_160 ?_ ?_
                · exact (by unfold mBar; rw [if_pos c_26]; show _ = some (Value.int (mBarP n (u 3) (u 0) (u 1) (u 6) (u 7) (u 8) (u 9) (mFrom1 n (u 3) (u 0) (u 1) (u 10) (u 9 i)) i)); rw [hB]; unfold mBarB; rw [← hr]; show _ = some (Value.int (if t = 0 then 0 else -4)); rw [if_pos c_151])
                · exact (by unfold mBar; rw [if_pos c_26])
              · refine lv_bipush (v := (-4)) hx hb dX3_barred_154 (by decide +kernel) ?_
                refine lv_goto (tgt := 160) hx hb dX3_barred_156 (by decide) ?_
                refine g_iret (u1 := (mS u 10 (mFrom1 n (u 3) (u 0) (u 1) (u 10) ((u 9) i)))) hx hb hret hlk hQ hP hD hS dX3_barred_160 ?_ ?_
                · exact (by unfold mBar; rw [if_pos c_26]; show _ = some (Value.int (mBarP n (u 3) (u 0) (u 1) (u 6) (u 7) (u 8) (u 9) (mFrom1 n (u 3) (u 0) (u 1) (u 10) (u 9 i)) i)); rw [hB]; unfold mBarB; rw [← hr]; show _ = some (Value.int (if t = 0 then 0 else -4)); rw [if_neg c_151])
                · exact (by unfold mBar; rw [if_pos c_26])
            · have n_99 : ¬ n ≤ k := fun h => c_99 ((g_leI (a := n) (b := k) rfl rfl (by omega) (by omega)).mpr h)
              exfalso; omega
          | succ d ih =>
            intro k t H locs ls hP hD hS hl hk htt hr
            refine lv_iload hx hb dX3_barred_93 (lv_at hl 5 rfl) ?_
            refine lv_aload_n hx hb dX3_barred_95 rfl (lv_at hl 0 rfl) ?_
            refine va_get (ci := 3) (v := .int (nI n)) (C := RX3) (T := TX3) (N := 18) hx hb hts inX3_barred_RX3 hown hK hP 0 rfl rfl 1 (by decide) (hts _ lkX3_barred_61) (fun _ h9 => h9) (congrArg (fun z => some (Value.int z)) hn) dX3_barred_96 ?_
            refine lv_icmp_ge (tgt := 149) hx hb dX3_barred_99 (by decide) (fun c_99 => ?_) (fun c_99 => ?_)
            · have n_99 : n ≤ k := (g_leI (a := n) (b := k) rfl rfl (by omega) (by omega)).mp c_99
              exfalso; omega
            · have n_99 : ¬ n ≤ k := fun h => c_99 ((g_leI (a := n) (b := k) rfl rfl (by omega) (by omega)).mpr h)
              refine lv_iload hx hb dX3_barred_102 (lv_at hl 4 rfl) ?_
              refine lv_if_ne (tgt := 136) hx hb dX3_barred_104 (by decide) (fun c_104 => ?_) (fun c_104 => ?_)
              · refine lv_iconst (v := 1) hx hb dX3_barred_136 (by decide +kernel) ?_
                refine lv_goto (tgt := 141) hx hb dX3_barred_137 (by decide) ?_
                refine lv_istore (lv' := [(4, .int 1), (0, .ref (q 0)), (1, .int (nI i)), (2, .int ((u 8) i)), (3, .int ((u 9) i)), (5, .int (nI k))]) hx hb dX3_barred_141 hl (by decide) rfl (fun ls hl => ?_)
                refine lv_iinc (v := (nI (k + 1))) (lv' := [(5, .int (nI (k + 1))), (4, .int 1), (0, .ref (q 0)), (1, .int (nI i)), (2, .int ((u 8) i)), (3, .int ((u 9) i))]) hx hb dX3_barred_143 hl (k := 5) rfl (nI_1 _) (by decide) rfl (fun ls hl => ?_)
                refine lv_goto (tgt := 93) hx hb dX3_barred_146 (by decide) ?_
                exact ih (k + 1) 1 _ _ _ hP hD hS (lv_sub hl [2, 3, 4, 5, 1, 0] rfl) (by omega) (Or.inr rfl) (by rw [← hr]; show _ = itU _ d (k + 1) (mBarStep _ _ _ _ _ k t); rw [show mBarStep n (u 3) (u 0) (u 1) (mFrom1 n (u 3) (u 0) (u 1) (u 10) (u 9 i)) k t = 1 from by unfold mBarStep; rw [if_neg c_104]])
              · refine lv_aload_n hx hb dX3_barred_107 rfl (lv_at hl 0 rfl) ?_
                refine va_get (ci := 3) (v := .ref (q 11)) (C := RX3) (T := TX3) (N := 18) hx hb hts inX3_barred_RX3 hown hK hP 0 rfl rfl 14 (by decide) (hts _ lkX3_barred_41) (fun _ h9 => h9) rfl dX3_barred_108 ?_
                refine lv_iload hx hb dX3_barred_111 (lv_at hl 5 rfl) ?_
                refine g_zald (n := 60) (f := (mFrom1 n (u 3) (u 0) (u 1) (u 10) ((u 9) i))) hx hb hK hP 11 1 (by rw [MW_get_10, show (mS u 10 (mFrom1 n (u 3) (u 0) (u 1) (u 10) ((u 9) i))) 10 = (mFrom1 n (u 3) (u 0) (u 1) (u 10) ((u 9) i)) from by simp only [mS_at, ↓reduceIte, Nat.reduceEqDiff]]) rfl k (by omega) (by omega) rfl dX3_barred_113 ?_
                refine lv_if_eq (tgt := 140) hx hb dX3_barred_114 (by decide) (fun c_114 => ?_) (fun c_114 => ?_)
                · refine lv_iconst (v := 0) hx hb dX3_barred_140 (by decide +kernel) ?_
                  refine lv_istore (lv' := [(4, .int 0), (0, .ref (q 0)), (1, .int (nI i)), (2, .int ((u 8) i)), (3, .int ((u 9) i)), (5, .int (nI k))]) hx hb dX3_barred_141 hl (by decide) rfl (fun ls hl => ?_)
                  refine lv_iinc (v := (nI (k + 1))) (lv' := [(5, .int (nI (k + 1))), (4, .int 0), (0, .ref (q 0)), (1, .int (nI i)), (2, .int ((u 8) i)), (3, .int ((u 9) i))]) hx hb dX3_barred_143 hl (k := 5) rfl (nI_1 _) (by decide) rfl (fun ls hl => ?_)
                  refine lv_goto (tgt := 93) hx hb dX3_barred_146 (by decide) ?_
                  exact ih (k + 1) 0 _ _ _ hP hD hS (lv_sub hl [2, 3, 4, 5, 1, 0] rfl) (by omega) (Or.inl rfl) (by rw [← hr]; show _ = itU _ d (k + 1) (mBarStep _ _ _ _ _ k t); rw [show mBarStep n (u 3) (u 0) (u 1) (mFrom1 n (u 3) (u 0) (u 1) (u 10) (u 9 i)) k t = 0 from by unfold mBarStep; rw [if_pos c_104, if_pos c_114]])
                · refine lv_aload_n hx hb dX3_barred_117 rfl (lv_at hl 0 rfl) ?_
                  refine lv_iload hx hb dX3_barred_118 (lv_at hl 5 rfl) ?_
                  refine g_callV (As := [.int (nI k)]) (rest := []) hx hb hml hown hts (ctX3_shallow l D cI cZ q (mS u 10 (mFrom1 n (u 3) (u 0) (u 1) (u 10) ((u 9) i))) n hn h60 k (by omega)) gX3_barred_X3_shallow rfl rfl rfl hdX3_shallow ⟨Nat.le_of_ble_eq_true rfl, Nat.le_of_ble_eq_true rfl⟩ gEM_true trivial hP hK hD hS hA 0 rfl rfl rfl hl.1 rfl (Nat.le_of_ble_eq_true rfl) dX3_barred_120 ⟨Nat.zero_le _, Nat.zero_le _⟩ (fun H locs hP hD hS => ?_)
                  refine W.eq (g2 := F0 m 123 ls [.int (mShal n (u 3) (u 0) (u 1) k)]) rfl ?_
                  refine lv_if_eq (tgt := 140) hx hb dX3_barred_123 (by decide) (fun c_123 => ?_) (fun c_123 => ?_)
                  · refine lv_iconst (v := 0) hx hb dX3_barred_140 (by decide +kernel) ?_
                    refine lv_istore (lv' := [(4, .int 0), (0, .ref (q 0)), (1, .int (nI i)), (2, .int ((u 8) i)), (3, .int ((u 9) i)), (5, .int (nI k))]) hx hb dX3_barred_141 hl (by decide) rfl (fun ls hl => ?_)
                    refine lv_iinc (v := (nI (k + 1))) (lv' := [(5, .int (nI (k + 1))), (4, .int 0), (0, .ref (q 0)), (1, .int (nI i)), (2, .int ((u 8) i)), (3, .int ((u 9) i))]) hx hb dX3_barred_143 hl (k := 5) rfl (nI_1 _) (by decide) rfl (fun ls hl => ?_)
                    refine lv_goto (tgt := 93) hx hb dX3_barred_146 (by decide) ?_
                    exact ih (k + 1) 0 _ _ _ hP hD hS (lv_sub hl [2, 3, 4, 5, 1, 0] rfl) (by omega) (Or.inl rfl) (by rw [← hr]; show _ = itU _ d (k + 1) (mBarStep _ _ _ _ _ k t); rw [show mBarStep n (u 3) (u 0) (u 1) (mFrom1 n (u 3) (u 0) (u 1) (u 10) (u 9 i)) k t = 0 from by unfold mBarStep; rw [if_pos c_104, if_neg c_114, if_pos c_123]])
                  · refine lv_aload_n hx hb dX3_barred_126 rfl (lv_at hl 0 rfl) ?_
                    refine lv_iconst (v := 0) hx hb dX3_barred_127 (by decide +kernel) ?_
                    refine lv_iload hx hb dX3_barred_128 (lv_at hl 5 rfl) ?_
                    refine g_callV (As := [.int 0, .int (nI k)]) (rest := []) hx hb hml hown hts (ctX3_isIn_0 l D cI cZ q (mS u 10 (mFrom1 n (u 3) (u 0) (u 1) (u 10) ((u 9) i))) n hn h60 (nI k)) gX3_barred_X3_isIn rfl rfl rfl hdX3_isIn ⟨Nat.le_of_ble_eq_true rfl, Nat.le_of_ble_eq_true rfl⟩ gEM_true trivial hP hK hD hS hA 0 rfl rfl rfl hl.1 rfl (Nat.le_of_ble_eq_true rfl) dX3_barred_130 ⟨Nat.zero_le _, Nat.zero_le _⟩ (fun H locs hP hD hS => ?_)
                    refine W.eq (g2 := F0 m 133 ls [.int (mHas n (u 3) 0 (nI k))]) rfl ?_
                    refine lv_if_ne (tgt := 140) hx hb dX3_barred_133 (by decide) (fun c_133 => ?_) (fun c_133 => ?_)
                    · refine lv_iconst (v := 0) hx hb dX3_barred_140 (by decide +kernel) ?_
                      refine lv_istore (lv' := [(4, .int 0), (0, .ref (q 0)), (1, .int (nI i)), (2, .int ((u 8) i)), (3, .int ((u 9) i)), (5, .int (nI k))]) hx hb dX3_barred_141 hl (by decide) rfl (fun ls hl => ?_)
                      refine lv_iinc (v := (nI (k + 1))) (lv' := [(5, .int (nI (k + 1))), (4, .int 0), (0, .ref (q 0)), (1, .int (nI i)), (2, .int ((u 8) i)), (3, .int ((u 9) i))]) hx hb dX3_barred_143 hl (k := 5) rfl (nI_1 _) (by decide) rfl (fun ls hl => ?_)
                      refine lv_goto (tgt := 93) hx hb dX3_barred_146 (by decide) ?_
                      exact ih (k + 1) 0 _ _ _ hP hD hS (lv_sub hl [2, 3, 4, 5, 1, 0] rfl) (by omega) (Or.inl rfl) (by rw [← hr]; show _ = itU _ d (k + 1) (mBarStep _ _ _ _ _ k t); rw [show mBarStep n (u 3) (u 0) (u 1) (mFrom1 n (u 3) (u 0) (u 1) (u 10) (u 9 i)) k t = 0 from by unfold mBarStep; rw [if_pos c_104, if_neg c_114, if_neg c_123, if_neg c_133]])
                    · refine lv_iconst (v := 1) hx hb dX3_barred_136 (by decide +kernel) ?_
                      refine lv_goto (tgt := 141) hx hb dX3_barred_137 (by decide) ?_
                      refine lv_istore (lv' := [(4, .int 1), (0, .ref (q 0)), (1, .int (nI i)), (2, .int ((u 8) i)), (3, .int ((u 9) i)), (5, .int (nI k))]) hx hb dX3_barred_141 hl (by decide) rfl (fun ls hl => ?_)
                      refine lv_iinc (v := (nI (k + 1))) (lv' := [(5, .int (nI (k + 1))), (4, .int 1), (0, .ref (q 0)), (1, .int (nI i)), (2, .int ((u 8) i)), (3, .int ((u 9) i))]) hx hb dX3_barred_143 hl (k := 5) rfl (nI_1 _) (by decide) rfl (fun ls hl => ?_)
                      refine lv_goto (tgt := 93) hx hb dX3_barred_146 (by decide) ?_
                      exact ih (k + 1) 1 _ _ _ hP hD hS (lv_sub hl [2, 3, 4, 5, 1, 0] rfl) (by omega) (Or.inr rfl) (by rw [← hr]; show _ = itU _ d (k + 1) (mBarStep _ _ _ _ _ k t); rw [show mBarStep n (u 3) (u 0) (u 1) (mFrom1 n (u 3) (u 0) (u 1) (u 10) (u 9 i)) k t = 1 from by unfold mBarStep; rw [if_pos c_104, if_neg c_114, if_neg c_123, if_pos c_133]])
        exact loop n 0 t0 _ _ _ hP hD hS (lv_sub hl [2, 3, 4, 5, 1, 0] rfl) (by omega) ht (by unfold mBarT; rw [h0])
      refine lv_iload_n hx hb dX3_barred_69 rfl (lv_at hl 3 rfl) ?_
      refine lv_iconst (v := (-1)) hx hb dX3_barred_70 (by decide +kernel) ?_
      refine lv_icmp_eq (tgt := 87) hx hb dX3_barred_71 (by decide) (fun c_71 => ?_) (fun c_71 => ?_)
      · refine lv_iconst (v := 0) hx hb dX3_barred_87 (by decide +kernel) ?_
        exact c88 0 _ _ _ hP hD hS (lv_sub hl [0, 1, 2, 3] rfl) (Or.inl rfl) (by unfold mBar0; rw [if_pos c_71])
      · refine lv_aload_n hx hb dX3_barred_74 rfl (lv_at hl 0 rfl) ?_
        refine lv_iconst (v := 1) hx hb dX3_barred_75 (by decide +kernel) ?_
        refine lv_iload_n hx hb dX3_barred_76 rfl (lv_at hl 3 rfl) ?_
        refine g_callV (As := [.int 1, .int ((u 9) i)]) (rest := []) hx hb hml hown hts (ctX3_isIn_1 l D cI cZ q (mS u 10 (mFrom1 n (u 3) (u 0) (u 1) (u 10) ((u 9) i))) n hn h60 ((u 9) i)) gX3_barred_X3_isIn rfl rfl rfl hdX3_isIn ⟨Nat.le_of_ble_eq_true rfl, Nat.le_of_ble_eq_true rfl⟩ gEM_true trivial hP hK hD hS hA 0 rfl rfl rfl hl.1 rfl (Nat.le_of_ble_eq_true rfl) dX3_barred_77 ⟨Nat.zero_le _, Nat.zero_le _⟩ (fun H locs hP hD hS => ?_)
        refine W.eq (g2 := F0 m 80 ls [.int (mHas n (u 3) 1 ((u 9) i))]) rfl ?_
        refine lv_if_ne (tgt := 87) hx hb dX3_barred_80 (by decide) (fun c_80 => ?_) (fun c_80 => ?_)
        · refine lv_iconst (v := 0) hx hb dX3_barred_87 (by decide +kernel) ?_
          exact c88 0 _ _ _ hP hD hS (lv_sub hl [0, 1, 2, 3] rfl) (Or.inl rfl) (by unfold mBar0; rw [if_neg c_71, if_neg c_80])
        · refine lv_iconst (v := 1) hx hb dX3_barred_83 (by decide +kernel) ?_
          refine lv_goto (tgt := 88) hx hb dX3_barred_84 (by decide) ?_
          exact c88 1 _ _ _ hP hD hS (lv_sub hl [0, 1, 2, 3] rfl) (Or.inr rfl) (by unfold mBar0; rw [if_neg c_71, if_pos c_80])
    refine lv_aload_n hx hb dX3_barred_38 rfl (lv_at hl 2 rfl) ?_
    refine va_get (ci := 3) (v := .ref (q 7)) (C := RX3) (T := TX3) (N := 18) hx hb hts inX3_barred_RX3 hown hK hP 0 rfl rfl 8 (by decide) (hts _ lkX3_barred_29) (fun _ h9 => h9) rfl dX3_barred_39 ?_
    refine lv_aload_n hx hb dX3_barred_42 rfl (lv_at hl 2 rfl) ?_
    refine va_get (ci := 3) (v := .ref (q 8)) (C := RX3) (T := TX3) (N := 18) hx hb hts inX3_barred_RX3 hown hK hP 0 rfl rfl 10 (by decide) (hts _ lkX3_barred_32) (fun _ h9 => h9) rfl dX3_barred_43 ?_
    refine lv_iload_n hx hb dX3_barred_46 rfl (lv_at hl 3 rfl) ?_
    refine g_iald (n := 3) (f := (u 7)) hx hb hK hP 8 0 (by rw [MW_get_7, show (mS u 10 (mFrom1 n (u 3) (u 0) (u 1) (u 10) ((u 9) i))) 7 = (u 7) from by simp only [mS_at, ↓reduceIte, Nat.reduceEqDiff]]) rfl i (by omega) (by omega) rfl dX3_barred_47 ?_
    refine g_zald (n := 4) (f := (u 6)) hx hb hK hP 7 1 (by rw [MW_get_6, show (mS u 10 (mFrom1 n (u 3) (u 0) (u 1) (u 10) ((u 9) i))) 6 = (u 6) from by simp only [mS_at, ↓reduceIte, Nat.reduceEqDiff]]) rfl (u 7 i).toNatClampNeg (by omega) (by omega) hre dX3_barred_48 ?_
    refine lv_if_eq (tgt := 69) hx hb dX3_barred_49 (by decide) (fun c_49 => ?_) (fun c_49 => ?_)
    · exact c69  _ _ _ hP hD hS (lv_sub hl [2, 3, 1, 0] rfl) (by unfold mBarP; rw [if_pos c_49])
    · refine lv_iload_n hx hb dX3_barred_52 rfl (lv_at hl 1 rfl) ?_
      refine lv_iconst (v := (-1)) hx hb dX3_barred_53 (by decide +kernel) ?_
      refine lv_icmp_eq (tgt := 69) hx hb dX3_barred_54 (by decide) (fun c_54 => ?_) (fun c_54 => ?_)
      · exact c69  _ _ _ hP hD hS (lv_sub hl [2, 3, 1, 0] rfl) (by unfold mBarP; rw [if_neg c_49, if_pos c_54])
      · obtain ⟨o, ho1, ho2⟩ := (hmo i hi).resolve_left c_54
        have hoc : (u 8 i).toNatClampNeg = o := by rw [ho2, nI_clamp (by omega)]
        have hol : (u 8 i).toNatClampNeg < 60 := by rw [hoc]; exact ho1
        have hoe : u 8 i = nI (u 8 i).toNatClampNeg := by rw [hoc]; exact ho2
        refine lv_aload_n hx hb dX3_barred_57 rfl (lv_at hl 2 rfl) ?_
        refine va_get (ci := 3) (v := .ref (q 11)) (C := RX3) (T := TX3) (N := 18) hx hb hts inX3_barred_RX3 hown hK hP 0 rfl rfl 14 (by decide) (hts _ lkX3_barred_41) (fun _ h9 => h9) rfl dX3_barred_58 ?_
        refine lv_iload_n hx hb dX3_barred_61 rfl (lv_at hl 1 rfl) ?_
        refine g_zald (n := 60) (f := (mFrom1 n (u 3) (u 0) (u 1) (u 10) ((u 9) i))) hx hb hK hP 11 1 (by rw [MW_get_10, show (mS u 10 (mFrom1 n (u 3) (u 0) (u 1) (u 10) ((u 9) i))) 10 = (mFrom1 n (u 3) (u 0) (u 1) (u 10) ((u 9) i)) from by simp only [mS_at, ↓reduceIte, Nat.reduceEqDiff]]) rfl (u 8 i).toNatClampNeg (by omega) (by omega) hoe dX3_barred_62 ?_
        refine lv_if_ne (tgt := 69) hx hb dX3_barred_63 (by decide) (fun c_63 => ?_) (fun c_63 => ?_)
        · exact c69  _ _ _ hP hD hS (lv_sub hl [2, 3, 1, 0] rfl) (by unfold mBarP; rw [if_neg c_49, if_neg c_54, if_neg c_63])
        · refine lv_bipush (v := (-3)) hx hb dX3_barred_66 (by decide +kernel) ?_
          refine g_iret (u1 := (mS u 10 (mFrom1 n (u 3) (u 0) (u 1) (u 10) ((u 9) i)))) hx hb hret hlk hQ hP hD hS dX3_barred_68 ?_ ?_
          · exact (by unfold mBar mBarP; rw [if_pos c_26, if_neg c_49, if_neg c_54, if_pos c_63])
          · exact (by unfold mBar; rw [if_pos c_26])
  · refine lv_bipush (v := (-2)) hx hb dX3_barred_29 (by decide +kernel) ?_
    refine g_iret (u1 := u) hx hb hret hlk hQ hP hD hS dX3_barred_31 ?_ ?_
    · exact (by unfold mBar; rw [if_neg c_26])
    · exact (by unfold mBar; rw [if_neg c_26]; exact (MW_ext (by refine ⟨?_, ?_, ?_, ?_, ?_, ?_, ?_, ?_, ?_, ?_, ?_, ?_, ?_, ?_, ?_, ?_, ?_, ?_⟩ <;> simp only [mS_at, ↓reduceIte, Nat.reduceEqDiff] <;> rfl)))
