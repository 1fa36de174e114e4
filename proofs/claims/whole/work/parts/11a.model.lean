def mIn (v lo hi : Int32) : Int32 := if v < lo then 0 else if hi < v then 0 else 1
theorem mIn_01 (v lo hi : Int32) : mIn v lo hi = 0 ∨ mIn v lo hi = 1 := by unfold mIn; split; exact Or.inl rfl; split; exact Or.inl rfl; exact Or.inr rfl
theorem mIn_x (c hi : Int32) (k : Nat) (h : hi = nI k - 1) (hk : k < 2 ^ 31) : mIn c 0 hi = xRange c (nI k) := by
  unfold mIn xRange
  by_cases h0 : c < 0
  · rw [if_pos h0, if_pos h0]
  · rw [if_neg h0, if_neg h0]
    obtain ⟨j, hj, rfl⟩ := nI_of h0
    subst h
    cases k with
    | zero =>
      rw [if_pos (show nI 0 - 1 < nI j from Int32.lt_of_lt_of_le (b := 0) (by decide +kernel) (nI_pos' hj)), if_pos (nI_le (Nat.zero_le j) hj)]
    | succ k =>
      rw [nI_pred]
      by_cases h1 : k < j
      · rw [if_pos (nI_lt h1 hj), if_pos (nI_le h1 hj)]
      · rw [if_neg (nI_nlt (by omega) (by omega)), if_neg (nI_ge (by omega) hk)]
def mHas (n : Nat) (hc : Nat → Int32) (b : Nat) (c : Int32) : Int32 := if xRange c (nI n) = 0 then 0 else if hc (60 * b + c.toNatClampNeg) = 0 then 0 else 1
theorem mHas_01 (n : Nat) (hc : Nat → Int32) (b : Nat) (c : Int32) : mHas n hc b c = 0 ∨ mHas n hc b c = 1 := by unfold mHas; split; exact Or.inl rfl; split; exact Or.inl rfl; exact Or.inr rfl
theorem mHas_ne {n : Nat} {hc : Nat → Int32} {b : Nat} {c : Int32} (hn : n < 2 ^ 31) (h : ¬ mHas n hc b c = 0) : ∃ j : Nat, j < n ∧ c = nI j := by
  unfold mHas at h
  by_cases h1 : xRange c (nI n) = 0
  · rw [if_pos h1] at h; exact absurd rfl h
  · exact xRange_ne rfl hn h1
def mHasN (n : Nat) (hc : Nat → Int32) (b : Nat) (c : Int32) : Int32 := if c = -1 then 1 else if mHas n hc b c = 0 then 0 else 1
def mComN (n : Nat) (c : Int32) : Int32 := if c = -1 then 1 else if xRange c (nI n) = 0 then 0 else 1
def mLack2 (n : Nat) (hc : Nat → Int32) (b : Nat) (se : Nat → Int32) (j : Nat) : Int32 := if se j = -1 then 0 else if mHas n hc b (se j) = 0 then 1 else 0
def mLack (n : Nat) (hc : Nat → Int32) (b : Nat) (fi se : Nat → Int32) (j : Nat) : Int32 := if fi j = -1 then mLack2 n hc b se j else if mHas n hc b (fi j) = 0 then 1 else mLack2 n hc b se j
def mShal (n : Nat) (hc fi se : Nat → Int32) (j : Nat) : Int32 := if mHas n hc 1 (nI j) = 0 then 0 else if mLack n hc 1 fi se j = 0 then 0 else 1
def mMark (n : Nat) (hc : Nat → Int32) (b : Nat) (mk : Nat → Int32) (c : Int32) : Nat → Int32 := if mHas n hc b c = 0 then mk else upd mk c.toNatClampNeg 1
noncomputable def opq {α : Type} (a : α) : α := Classical.choose (⟨a, rfl⟩ : ∃ b, b = a)
theorem opq_eq {α : Type} (a : α) : opq a = a := Classical.choose_spec (⟨a, rfl⟩ : ∃ b, b = a)
noncomputable def mClr (mk : Nat → Int32) : Nat → Int32 := opq (itU xClrStep 60 0 mk)
def mOnStep0 (n : Nat) (hc fi se : Nat → Int32) (k : Nat) (mk : Nat → Int32) : Nat → Int32 := if mk k = 0 then mk else mMark n hc 0 (mMark n hc 0 mk (fi k)) (se k)
def mOnStep1 (n : Nat) (hc fi se : Nat → Int32) (k : Nat) (mk : Nat → Int32) : Nat → Int32 := if mk k = 0 then mk else if mShal n hc fi se k = 0 then mMark n hc 1 (mMark n hc 1 mk (fi k)) (se k) else mk
def mOn0 (n : Nat) (hc fi se mk : Nat → Int32) : Nat → Int32 := itD (mOnStep0 n hc fi se) n mk
def mOn1 (n : Nat) (hc fi se mk : Nat → Int32) : Nat → Int32 := itD (mOnStep1 n hc fi se) n mk
noncomputable def mFrom0 (n : Nat) (hc fi se mk : Nat → Int32) (c : Int32) : Nat → Int32 := mOn0 n hc fi se (mMark n hc 0 (mClr mk) c)
noncomputable def mFrom1 (n : Nat) (hc fi se mk : Nat → Int32) (c : Int32) : Nat → Int32 := mOn1 n hc fi se (mMark n hc 1 (mClr mk) c)
def mNear (st : Nat → Int32) (c s : Int32) : Nat → Int32 := if c = -1 then st else if st c.toNatClampNeg ≤ s then st else upd st c.toNatClampNeg s
def mS60Step (k : Nat) (st : Nat → Int32) : Nat → Int32 := upd st k 60
noncomputable def mS60 (st : Nat → Int32) : Nat → Int32 := opq (itU mS60Step 60 0 st)
def mReachStep (fi se : Nat → Int32) (depth : Int32) (k : Nat) (z : (Nat → Int32) × (Nat → Int32)) : (Nat → Int32) × (Nat → Int32) :=
  if z.1 k = 0 then (upd z.1 k 0, mNear (mNear z.2 (fi k) (z.2 k + 1)) (se k) (mNear z.2 (fi k) (z.2 k + 1) k + 1))
  else if depth = 0 then (upd z.1 k 1, mNear (mNear z.2 (fi k) (z.2 k + 1)) (se k) (mNear z.2 (fi k) (z.2 k + 1) k + 1))
  else if depth ≤ mNear (mNear z.2 (fi k) (z.2 k + 1)) (se k) (mNear z.2 (fi k) (z.2 k + 1) k + 1) k then (upd z.1 k 0, mNear (mNear z.2 (fi k) (z.2 k + 1)) (se k) (mNear z.2 (fi k) (z.2 k + 1) k + 1))
  else (upd z.1 k 1, mNear (mNear z.2 (fi k) (z.2 k + 1)) (se k) (mNear z.2 (fi k) (z.2 k + 1) k + 1))
noncomputable def mReach (n : Nat) (hc fi se mk ss : Nat → Int32) (j0 : Nat) (depth : Int32) : (Nat → Int32) × (Nat → Int32) := itD (mReachStep fi se depth) (j0 + 1) (mFrom0 n hc fi se mk (nI j0), upd (mS60 ss) j0 0)
theorem lkX3_thrown_53 : Cond.fieldLink RX3 53 "FetchHouseModel" "refusal" "I" ∈ wsX3_thrown := List.mem_of_getElem? (i := 1) (by decide +kernel)
theorem inX3_thrown_RX3 : ∀ w ∈ u_ws RX3 TX3 18, w ∈ wsX3_thrown := fun w h => List.mem_cons_of_mem _ (List.mem_append_right _ h)
abbrev rmX3_thrown : Room := { frames := 0, cells := 0, slots := 0, locals := 0 }
set_option maxHeartbeats 4000000 in
set_option maxRecDepth 100000 in
theorem ctX3_thrown (l : Launch) (D : va_G) (cI cZ : ClassId) (q : Nat → Nat) (u : SM)  : gM l yX3_thrown wsX3_thrown rmX3_thrown D [(cI, .int), (cZ, .boolean)] (MW cI cZ q) (fun _ => True) [.ref (q 0)] u (some (.int (u 14 0))) u := by
  refine g_start (cc := cX3_thrown) (maxL := 1) (ret := (some .int)) (by decide) rfl (Nat.le_of_ble_eq_true rfl) ?_
  intro p e s m below meth c A ls Q hx hb hml hret hts hown hlk hE hP hK hD hA hl hQ hS
  have hown : s.vm.findClass RX3 = some m.cls := hown
  have hl : lv_has ls 1 [(0, .ref (q 0))] := hl
  refine lv_aload_n hx hb dX3_thrown_0 rfl (lv_at hl 0 rfl) ?_
  refine va_get (ci := 3) (v := .int (u 14 0)) (C := RX3) (T := TX3) (N := 18) hx hb hts inX3_thrown_RX3 hown hK hP 0 rfl rfl 0 (by decide) (hts _ lkX3_thrown_53) (fun _ h9 => h9) rfl dX3_thrown_1 ?_
  refine g_iret (u1 := u) hx hb hret hlk hQ hP hD hS dX3_thrown_4 ?_ ?_
  · exact rfl
  · exact rfl
theorem lkX3_refused_53 : Cond.fieldLink RX3 53 "FetchHouseModel" "refusal" "I" ∈ wsX3_refused := List.mem_of_getElem? (i := 1) (by decide +kernel)
theorem inX3_refused_RX3 : ∀ w ∈ u_ws RX3 TX3 18, w ∈ wsX3_refused := fun w h => List.mem_cons_of_mem _ (List.mem_append_right _ h)
abbrev rmX3_refused : Room := { frames := 0, cells := 0, slots := 0, locals := 0 }
set_option maxHeartbeats 4000000 in
set_option maxRecDepth 100000 in
theorem ctX3_refused (l : Launch) (D : va_G) (cI cZ : ClassId) (q : Nat → Nat) (u : SM) (p0 : Int32) : gM l yX3_refused wsX3_refused rmX3_refused D [(cI, .int), (cZ, .boolean)] (MW cI cZ q) (fun _ => True) [.ref (q 0), .int p0] u (some (.int (if p0 = 0 then 0 else 1))) (mS u 14 (fun _ => p0)) := by
  refine g_start (cc := cX3_refused) (maxL := 2) (ret := (some .boolean)) (by decide) rfl (Nat.le_of_ble_eq_true rfl) ?_
  intro p e s m below meth c A ls Q hx hb hml hret hts hown hlk hE hP hK hD hA hl hQ hS
  have hown : s.vm.findClass RX3 = some m.cls := hown
  have hl : lv_has ls 2 [(0, .ref (q 0)), (1, .int p0)] := hl
  refine lv_aload_n hx hb dX3_refused_0 rfl (lv_at hl 0 rfl) ?_
  refine lv_iload_n hx hb dX3_refused_1 rfl (lv_at hl 1 rfl) ?_
  refine va_put (ci := 3) (v := .int p0) (ty := .int) (C := RX3) (T := TX3) (N := 18) hx hb hts inX3_refused_RX3 tyX3 tyX3_ok nmX3 hown hK hP hD hS 0 rfl rfl 0 (by decide) (hts _ lkX3_refused_53) (fun _ h9 => h9) rfl (by decide +kernel) rfl rfl (Nat.le_of_ble_eq_true rfl) dX3_refused_2 (fun H locs hP hD hS => ?_)
  obtain ⟨hP, hD⟩ := g_toPD hP hD (MW_put_14 (u := u) p0)
  refine lv_iload_n hx hb dX3_refused_5 rfl (lv_at hl 1 rfl) ?_
  refine lv_if_eq (tgt := 13) hx hb dX3_refused_6 (by decide) (fun c_6 => ?_) (fun c_6 => ?_)
  · refine lv_iconst (v := 0) hx hb dX3_refused_13 (by decide +kernel) ?_
    refine g_zret (u1 := (mS u 14 (fun _ => p0))) hx hb hret hlk hQ hP hD hS dX3_refused_14 ?_ ?_ ?_
    · exact rfl
    · exact (by rw [if_pos c_6])
    · exact rfl
  · refine lv_iconst (v := 1) hx hb dX3_refused_9 (by decide +kernel) ?_
    refine lv_goto (tgt := 14) hx hb dX3_refused_10 (by decide) ?_
    refine g_zret (u1 := (mS u 14 (fun _ => p0))) hx hb hret hlk hQ hP hD hS dX3_refused_14 ?_ ?_ ?_
    · exact rfl
    · exact (by rw [if_neg c_6])
    · exact rfl
theorem lkX3_fine_53 : Cond.fieldLink RX3 53 "FetchHouseModel" "refusal" "I" ∈ wsX3_fine := List.mem_of_getElem? (i := 1) (by decide +kernel)
theorem inX3_fine_RX3 : ∀ w ∈ u_ws RX3 TX3 18, w ∈ wsX3_fine := fun w h => List.mem_cons_of_mem _ (List.mem_append_right _ h)
abbrev rmX3_fine : Room := { frames := 0, cells := 0, slots := 0, locals := 0 }
set_option maxHeartbeats 4000000 in
set_option maxRecDepth 100000 in
theorem ctX3_fine (l : Launch) (D : va_G) (cI cZ : ClassId) (q : Nat → Nat) (u : SM) (p0 : Int32) : gM l yX3_fine wsX3_fine rmX3_fine D [(cI, .int), (cZ, .boolean)] (MW cI cZ q) (fun _ => True) [.ref (q 0), .int p0] u (some (.int p0)) (mS u 14 (fun _ => 0)) := by
  refine g_start (cc := cX3_fine) (maxL := 2) (ret := (some .int)) (by decide) rfl (Nat.le_of_ble_eq_true rfl) ?_
  intro p e s m below meth c A ls Q hx hb hml hret hts hown hlk hE hP hK hD hA hl hQ hS
  have hown : s.vm.findClass RX3 = some m.cls := hown
  have hl : lv_has ls 2 [(0, .ref (q 0)), (1, .int p0)] := hl
  refine lv_aload_n hx hb dX3_fine_0 rfl (lv_at hl 0 rfl) ?_
  refine lv_iconst (v := 0) hx hb dX3_fine_1 (by decide +kernel) ?_
  refine va_put (ci := 3) (v := .int 0) (ty := .int) (C := RX3) (T := TX3) (N := 18) hx hb hts inX3_fine_RX3 tyX3 tyX3_ok nmX3 hown hK hP hD hS 0 rfl rfl 0 (by decide) (hts _ lkX3_fine_53) (fun _ h9 => h9) rfl (by decide +kernel) rfl rfl (Nat.le_of_ble_eq_true rfl) dX3_fine_2 (fun H locs hP hD hS => ?_)
  obtain ⟨hP, hD⟩ := g_toPD hP hD (MW_put_14 (u := u) 0)
  refine lv_iload_n hx hb dX3_fine_5 rfl (lv_at hl 1 rfl) ?_
  refine g_iret (u1 := (mS u 14 (fun _ => 0))) hx hb hret hlk hQ hP hD hS dX3_fine_6 ?_ ?_
  · exact rfl
  · exact rfl
abbrev rmX3_in : Room := { frames := 0, cells := 0, slots := 0, locals := 0 }
set_option maxHeartbeats 4000000 in
set_option maxRecDepth 100000 in
theorem ctX3_in (l : Launch) (D : va_G) (cI cZ : ClassId) (q : Nat → Nat) (p0 p1 p2 : Int32) : gM l yX3_in wsX3_in rmX3_in D [(cI, .int), (cZ, .boolean)] w0 (fun _ => True) [.int p0, .int p1, .int p2] () (some (.int (mIn p0 p1 p2))) () := by
  refine g_start (cc := cX3_in) (maxL := 3) (ret := (some .boolean)) (by decide) rfl (Nat.le_of_ble_eq_true rfl) ?_
  intro p e s m below meth c A ls Q hx hb hml hret hts hown hlk hE hP hK hD hA hl hQ hS
  have hown : s.vm.findClass RX3 = some m.cls := hown
  have hl : lv_has ls 3 [(0, .int p0), (1, .int p1), (2, .int p2)] := hl
  refine lv_iload_n hx hb dX3_in_0 rfl (lv_at hl 0 rfl) ?_
  refine lv_iload_n hx hb dX3_in_1 rfl (lv_at hl 1 rfl) ?_
  refine lv_icmp_lt (tgt := 14) hx hb dX3_in_2 (by decide) (fun c_2 => ?_) (fun c_2 => ?_)
  · refine lv_iconst (v := 0) hx hb dX3_in_14 (by decide +kernel) ?_
    refine g_zret hx hb hret hlk hQ hP hD hS dX3_in_15 ?_ ?_ ?_
    · exact rfl
    · exact by simp only [mIn, c_2, ↓reduceIte, not_true_eq_false, not_false_eq_true]
    · exact rfl
  · refine lv_iload_n hx hb dX3_in_5 rfl (lv_at hl 0 rfl) ?_
    refine lv_iload_n hx hb dX3_in_6 rfl (lv_at hl 2 rfl) ?_
    refine lv_icmp_gt (tgt := 14) hx hb dX3_in_7 (by decide) (fun c_7 => ?_) (fun c_7 => ?_)
    · refine lv_iconst (v := 0) hx hb dX3_in_14 (by decide +kernel) ?_
      refine g_zret hx hb hret hlk hQ hP hD hS dX3_in_15 ?_ ?_ ?_
      · exact rfl
      · exact by simp only [mIn, c_2, c_7, ↓reduceIte, not_true_eq_false, not_false_eq_true]
      · exact rfl
    · refine lv_iconst (v := 1) hx hb dX3_in_10 (by decide +kernel) ?_
      refine lv_goto (tgt := 15) hx hb dX3_in_11 (by decide) ?_
      refine g_zret hx hb hret hlk hQ hP hD hS dX3_in_15 ?_ ?_ ?_
      · exact rfl
      · exact by simp only [mIn, c_2, c_7, ↓reduceIte, not_true_eq_false, not_false_eq_true]
      · exact rfl
abbrev rmX3_isStore : Room := { frames := 1, cells := 0, slots := 0, locals := 22 }
set_option maxHeartbeats 4000000 in
set_option maxRecDepth 100000 in
theorem ctX3_isStore (l : Launch) (D : va_G) (cI cZ : ClassId) (q : Nat → Nat) (p0 : Int32) : gM l yX3_isStore wsX3_isStore rmX3_isStore D [(cI, .int), (cZ, .boolean)] w0 (fun _ => True) [.int p0] () (some (.int (xRange p0 2))) () := by
  refine g_start (cc := cX3_isStore) (maxL := 1) (ret := (some .boolean)) (by decide) rfl (Nat.le_of_ble_eq_true rfl) ?_
  intro p e s m below meth c A ls Q hx hb hml hret hts hown hlk hE hP hK hD hA hl hQ hS
  have hown : s.vm.findClass RX3 = some m.cls := hown
  have hl : lv_has ls 1 [(0, .int p0)] := hl
  refine lv_iload_n hx hb dX3_isStore_0 rfl (lv_at hl 0 rfl) ?_
  refine lv_iconst (v := 0) hx hb dX3_isStore_1 (by decide +kernel) ?_
  refine lv_iconst (v := 1) hx hb dX3_isStore_2 (by decide +kernel) ?_
  refine g_callS0 (As := [.int p0, .int 0, .int 1]) (rest := []) hx hb hml hown hts (ctX3_in l D cI cZ q p0 0 1) gX3_isStore_X3_in rfl rfl rfl hdX3_in ⟨Nat.le_of_ble_eq_true rfl, Nat.le_of_ble_eq_true rfl⟩ gEM_true trivial hP hK hS hA rfl hl.1 rfl (Nat.le_of_ble_eq_true rfl) dX3_isStore_3 ⟨Nat.zero_le _, Nat.zero_le _⟩ (fun H locs hP hS => ?_)
  refine W.eq (g2 := F0 m 6 ls [.int (mIn p0 0 1)]) rfl ?_
  refine g_zret hx hb hret hlk hQ hP hD hS dX3_isStore_6 ?_ ?_ ?_
  · exact g_nar01 _ (mIn_01 _ _ _)
  · exact (by rw [show xRange p0 2 = mIn p0 0 1 from (mIn_x p0 1 2 rfl (by omega)).symm])
  · exact rfl
abbrev rmX3_isRef : Room := { frames := 1, cells := 0, slots := 0, locals := 22 }
set_option maxHeartbeats 4000000 in
set_option maxRecDepth 100000 in
theorem ctX3_isRef (l : Launch) (D : va_G) (cI cZ : ClassId) (q : Nat → Nat) (p0 : Int32) : gM l yX3_isRef wsX3_isRef rmX3_isRef D [(cI, .int), (cZ, .boolean)] w0 (fun _ => True) [.int p0] () (some (.int (xRange p0 4))) () := by
  refine g_start (cc := cX3_isRef) (maxL := 1) (ret := (some .boolean)) (by decide) rfl (Nat.le_of_ble_eq_true rfl) ?_
  intro p e s m below meth c A ls Q hx hb hml hret hts hown hlk hE hP hK hD hA hl hQ hS
  have hown : s.vm.findClass RX3 = some m.cls := hown
  have hl : lv_has ls 1 [(0, .int p0)] := hl
  refine lv_iload_n hx hb dX3_isRef_0 rfl (lv_at hl 0 rfl) ?_
  refine lv_iconst (v := 0) hx hb dX3_isRef_1 (by decide +kernel) ?_
  refine lv_iconst (v := 3) hx hb dX3_isRef_2 (by decide +kernel) ?_
  refine g_callS0 (As := [.int p0, .int 0, .int 3]) (rest := []) hx hb hml hown hts (ctX3_in l D cI cZ q p0 0 3) gX3_isRef_X3_in rfl rfl rfl hdX3_in ⟨Nat.le_of_ble_eq_true rfl, Nat.le_of_ble_eq_true rfl⟩ gEM_true trivial hP hK hS hA rfl hl.1 rfl (Nat.le_of_ble_eq_true rfl) dX3_isRef_3 ⟨Nat.zero_le _, Nat.zero_le _⟩ (fun H locs hP hS => ?_)
  refine W.eq (g2 := F0 m 6 ls [.int (mIn p0 0 3)]) rfl ?_
  refine g_zret hx hb hret hlk hQ hP hD hS dX3_isRef_6 ?_ ?_ ?_
  · exact g_nar01 _ (mIn_01 _ _ _)
  · exact (by rw [show xRange p0 4 = mIn p0 0 3 from (mIn_x p0 3 4 rfl (by omega)).symm])
  · exact rfl
theorem lkX3_isCommit_61 : Cond.fieldLink RX3 61 "FetchHouseModel" "made" "I" ∈ wsX3_isCommit := List.mem_of_getElem? (i := 1) (by decide +kernel)
theorem inX3_isCommit_RX3 : ∀ w ∈ u_ws RX3 TX3 18, w ∈ wsX3_isCommit := fun w h => List.mem_cons_of_mem _ (List.mem_append_right _ h)
abbrev rmX3_isCommit : Room := { frames := 1, cells := 0, slots := 0, locals := 22 }
set_option maxHeartbeats 4000000 in
set_option maxRecDepth 100000 in
theorem ctX3_isCommit (l : Launch) (D : va_G) (cI cZ : ClassId) (q : Nat → Nat) (u : SM) (n : Nat) (hn : u 15 0 = nI n) (h60 : n ≤ 60) (p0 : Int32) : gM l yX3_isCommit wsX3_isCommit rmX3_isCommit D [(cI, .int), (cZ, .boolean)] (MW cI cZ q) (fun _ => True) [.ref (q 0), .int p0] u (some (.int (xRange p0 (nI n)))) u := by
  refine g_start (cc := cX3_isCommit) (maxL := 2) (ret := (some .boolean)) (by decide) rfl (Nat.le_of_ble_eq_true rfl) ?_
  intro p e s m below meth c A ls Q hx hb hml hret hts hown hlk hE hP hK hD hA hl hQ hS
  have hown : s.vm.findClass RX3 = some m.cls := hown
  have hl : lv_has ls 2 [(0, .ref (q 0)), (1, .int p0)] := hl
  refine lv_iload_n hx hb dX3_isCommit_0 rfl (lv_at hl 1 rfl) ?_
  refine lv_iconst (v := 0) hx hb dX3_isCommit_1 (by decide +kernel) ?_
  refine lv_aload_n hx hb dX3_isCommit_2 rfl (lv_at hl 0 rfl) ?_
  refine va_get (ci := 3) (v := .int (nI n)) (C := RX3) (T := TX3) (N := 18) hx hb hts inX3_isCommit_RX3 hown hK hP 0 rfl rfl 1 (by decide) (hts _ lkX3_isCommit_61) (fun _ h9 => h9) (congrArg (fun z => some (Value.int z)) hn) dX3_isCommit_3 ?_
  refine lv_iconst (v := 1) hx hb dX3_isCommit_6 (by decide +kernel) ?_
  refine lv_isub hx hb dX3_isCommit_7 ?_
  refine g_callS0 (As := [.int p0, .int 0, .int ((nI n) - 1)]) (rest := []) hx hb hml hown hts (ctX3_in l D cI cZ q p0 0 ((nI n) - 1)) gX3_isCommit_X3_in rfl rfl rfl hdX3_in ⟨Nat.le_of_ble_eq_true rfl, Nat.le_of_ble_eq_true rfl⟩ gEM_true trivial hP hK hS hA rfl hl.1 rfl (Nat.le_of_ble_eq_true rfl) dX3_isCommit_8 ⟨Nat.zero_le _, Nat.zero_le _⟩ (fun H locs hP hS => ?_)
  refine W.eq (g2 := F0 m 11 ls [.int (mIn p0 0 ((nI n) - 1))]) rfl ?_
  refine g_zret (u1 := u) hx hb hret hlk hQ hP hD hS dX3_isCommit_11 ?_ ?_ ?_
  · exact g_nar01 _ (mIn_01 _ _ _)
  · exact (by rw [mIn_x p0 (nI n - 1) n rfl (by omega)])
  · exact rfl
theorem lkX3_isIn_19 : Cond.fieldLink RX3 19 "FetchHouseModel" "hasCommit" "[Z" ∈ wsX3_isIn := List.mem_of_getElem? (i := 1) (by decide +kernel)
theorem inX3_isIn_RX3 : ∀ w ∈ u_ws RX3 TX3 18, w ∈ wsX3_isIn := fun w h => List.mem_cons_of_mem _ (List.mem_append_right _ h)
abbrev rmX3_isIn_0 : Room := { frames := 2, cells := 0, slots := 0, locals := 43 }
set_option maxHeartbeats 4000000 in
set_option maxRecDepth 100000 in
theorem ctX3_isIn_0 (l : Launch) (D : va_G) (cI cZ : ClassId) (q : Nat → Nat) (u : SM) (n : Nat) (hn : u 15 0 = nI n) (h60 : n ≤ 60) (p1 : Int32) : gM l yX3_isIn wsX3_isIn rmX3_isIn_0 D [(cI, .int), (cZ, .boolean)] (MW cI cZ q) (fun _ => True) [.ref (q 0), .int 0, .int p1] u (some (.int (mHas n (u 3) 0 p1))) u := by
  refine g_start (cc := cX3_isIn) (maxL := 3) (ret := (some .boolean)) (by decide) rfl (Nat.le_of_ble_eq_true rfl) ?_
  intro p e s m below meth c A ls Q hx hb hml hret hts hown hlk hE hP hK hD hA hl hQ hS
  have hown : s.vm.findClass RX3 = some m.cls := hown
  have hl : lv_has ls 3 [(0, .ref (q 0)), (1, .int 0), (2, .int p1)] := hl
  refine lv_aload_n hx hb dX3_isIn_0 rfl (lv_at hl 0 rfl) ?_
  refine lv_iload_n hx hb dX3_isIn_1 rfl (lv_at hl 2 rfl) ?_
  refine g_callV (As := [.int p1]) (rest := []) hx hb hml hown hts (ctX3_isCommit l D cI cZ q u n hn h60 p1) gX3_isIn_X3_isCommit rfl rfl rfl hdX3_isCommit ⟨Nat.le_of_ble_eq_true rfl, Nat.le_of_ble_eq_true rfl⟩ gEM_true trivial hP hK hD hS hA 0 rfl rfl rfl hl.1 rfl (Nat.le_of_ble_eq_true rfl) dX3_isIn_2 ⟨Nat.zero_le _, Nat.zero_le _⟩ (fun H locs hP hD hS => ?_)
  refine W.eq (g2 := F0 m 5 ls [.int (xRange p1 (nI n))]) rfl ?_
  refine lv_if_eq (tgt := 26) hx hb dX3_isIn_5 (by decide) (fun c_5 => ?_) (fun c_5 => ?_)
  · refine lv_iconst (v := 0) hx hb dX3_isIn_26 (by decide +kernel) ?_
    refine g_zret (u1 := u) hx hb hret hlk hQ hP hD hS dX3_isIn_27 ?_ ?_ ?_
    · exact rfl
    · exact by unfold mHas; rw [if_pos c_5]
    · exact rfl
  · obtain ⟨j, hj, hj2⟩ := xRange_ne rfl (by omega) c_5
    refine lv_aload_n hx hb dX3_isIn_8 rfl (lv_at hl 0 rfl) ?_
    refine va_get (ci := 3) (v := .ref (q 4)) (C := RX3) (T := TX3) (N := 18) hx hb hts inX3_isIn_RX3 hown hK hP 0 rfl rfl 5 (by decide) (hts _ lkX3_isIn_19) (fun _ h9 => h9) rfl dX3_isIn_9 ?_
    refine lv_bipush (v := 60) hx hb dX3_isIn_12 (by decide +kernel) ?_
    refine lv_iload_n hx hb dX3_isIn_14 rfl (lv_at hl 1 rfl) ?_
    refine lv_imul hx hb dX3_isIn_15 ?_
    refine lv_iload_n hx hb dX3_isIn_16 rfl (lv_at hl 2 rfl) ?_
    refine lv_iadd hx hb dX3_isIn_17 ?_
    refine g_zald (n := 120) (f := (u 3)) hx hb hK hP 4 1 (MW_get_3 _) rfl (60 * 0 + j) (by omega) (by omega) (g_addE (g_mulE rfl rfl) hj2) dX3_isIn_18 ?_
    refine lv_if_eq (tgt := 26) hx hb dX3_isIn_19 (by decide) (fun c_19 => ?_) (fun c_19 => ?_)
    · refine lv_iconst (v := 0) hx hb dX3_isIn_26 (by decide +kernel) ?_
      refine g_zret (u1 := u) hx hb hret hlk hQ hP hD hS dX3_isIn_27 ?_ ?_ ?_
      · exact rfl
      · exact by unfold mHas; rw [if_neg c_5, hj2, nI_clamp (by omega), if_pos c_19]
      · exact rfl
    · refine lv_iconst (v := 1) hx hb dX3_isIn_22 (by decide +kernel) ?_
      refine lv_goto (tgt := 27) hx hb dX3_isIn_23 (by decide) ?_
      refine g_zret (u1 := u) hx hb hret hlk hQ hP hD hS dX3_isIn_27 ?_ ?_ ?_
      · exact rfl
      · exact by unfold mHas; rw [if_neg c_5, hj2, nI_clamp (by omega), if_neg c_19]
      · exact rfl
abbrev rmX3_isIn_1 : Room := { frames := 2, cells := 0, slots := 0, locals := 43 }
set_option maxHeartbeats 4000000 in
set_option maxRecDepth 100000 in
theorem ctX3_isIn_1 (l : Launch) (D : va_G) (cI cZ : ClassId) (q : Nat → Nat) (u : SM) (n : Nat) (hn : u 15 0 = nI n) (h60 : n ≤ 60) (p1 : Int32) : gM l yX3_isIn wsX3_isIn rmX3_isIn_1 D [(cI, .int), (cZ, .boolean)] (MW cI cZ q) (fun _ => True) [.ref (q 0), .int 1, .int p1] u (some (.int (mHas n (u 3) 1 p1))) u := by
  refine g_start (cc := cX3_isIn) (maxL := 3) (ret := (some .boolean)) (by decide) rfl (Nat.le_of_ble_eq_true rfl) ?_
  intro p e s m below meth c A ls Q hx hb hml hret hts hown hlk hE hP hK hD hA hl hQ hS
  have hown : s.vm.findClass RX3 = some m.cls := hown
  have hl : lv_has ls 3 [(0, .ref (q 0)), (1, .int 1), (2, .int p1)] := hl
  refine lv_aload_n hx hb dX3_isIn_0 rfl (lv_at hl 0 rfl) ?_
  refine lv_iload_n hx hb dX3_isIn_1 rfl (lv_at hl 2 rfl) ?_
  refine g_callV (As := [.int p1]) (rest := []) hx hb hml hown hts (ctX3_isCommit l D cI cZ q u n hn h60 p1) gX3_isIn_X3_isCommit rfl rfl rfl hdX3_isCommit ⟨Nat.le_of_ble_eq_true rfl, Nat.le_of_ble_eq_true rfl⟩ gEM_true trivial hP hK hD hS hA 0 rfl rfl rfl hl.1 rfl (Nat.le_of_ble_eq_true rfl) dX3_isIn_2 ⟨Nat.zero_le _, Nat.zero_le _⟩ (fun H locs hP hD hS => ?_)
  refine W.eq (g2 := F0 m 5 ls [.int (xRange p1 (nI n))]) rfl ?_
  refine lv_if_eq (tgt := 26) hx hb dX3_isIn_5 (by decide) (fun c_5 => ?_) (fun c_5 => ?_)
  · refine lv_iconst (v := 0) hx hb dX3_isIn_26 (by decide +kernel) ?_
    refine g_zret (u1 := u) hx hb hret hlk hQ hP hD hS dX3_isIn_27 ?_ ?_ ?_
    · exact rfl
    · exact by unfold mHas; rw [if_pos c_5]
    · exact rfl
  · obtain ⟨j, hj, hj2⟩ := xRange_ne rfl (by omega) c_5
    refine lv_aload_n hx hb dX3_isIn_8 rfl (lv_at hl 0 rfl) ?_
    refine va_get (ci := 3) (v := .ref (q 4)) (C := RX3) (T := TX3) (N := 18) hx hb hts inX3_isIn_RX3 hown hK hP 0 rfl rfl 5 (by decide) (hts _ lkX3_isIn_19) (fun _ h9 => h9) rfl dX3_isIn_9 ?_
    refine lv_bipush (v := 60) hx hb dX3_isIn_12 (by decide +kernel) ?_
    refine lv_iload_n hx hb dX3_isIn_14 rfl (lv_at hl 1 rfl) ?_
    refine lv_imul hx hb dX3_isIn_15 ?_
    refine lv_iload_n hx hb dX3_isIn_16 rfl (lv_at hl 2 rfl) ?_
    refine lv_iadd hx hb dX3_isIn_17 ?_
    refine g_zald (n := 120) (f := (u 3)) hx hb hK hP 4 1 (MW_get_3 _) rfl (60 * 1 + j) (by omega) (by omega) (g_addE (g_mulE rfl rfl) hj2) dX3_isIn_18 ?_
    refine lv_if_eq (tgt := 26) hx hb dX3_isIn_19 (by decide) (fun c_19 => ?_) (fun c_19 => ?_)
    · refine lv_iconst (v := 0) hx hb dX3_isIn_26 (by decide +kernel) ?_
      refine g_zret (u1 := u) hx hb hret hlk hQ hP hD hS dX3_isIn_27 ?_ ?_ ?_
      · exact rfl
      · exact by unfold mHas; rw [if_neg c_5, hj2, nI_clamp (by omega), if_pos c_19]
      · exact rfl
    · refine lv_iconst (v := 1) hx hb dX3_isIn_22 (by decide +kernel) ?_
      refine lv_goto (tgt := 27) hx hb dX3_isIn_23 (by decide) ?_
      refine g_zret (u1 := u) hx hb hret hlk hQ hP hD hS dX3_isIn_27 ?_ ?_ ?_
      · exact rfl
      · exact by unfold mHas; rw [if_neg c_5, hj2, nI_clamp (by omega), if_neg c_19]
      · exact rfl
theorem inX3_isInOrNone_RX3 : ∀ w ∈ u_ws RX3 TX3 18, w ∈ wsX3_isInOrNone := fun w h => List.mem_cons_of_mem _ (List.mem_append_right _ h)
abbrev rmX3_isInOrNone_0 : Room := { frames := 3, cells := 0, slots := 0, locals := 65 }
set_option maxHeartbeats 4000000 in
set_option maxRecDepth 100000 in
theorem ctX3_isInOrNone_0 (l : Launch) (D : va_G) (cI cZ : ClassId) (q : Nat → Nat) (u : SM) (n : Nat) (hn : u 15 0 = nI n) (h60 : n ≤ 60) (p1 : Int32) : gM l yX3_isInOrNone wsX3_isInOrNone rmX3_isInOrNone_0 D [(cI, .int), (cZ, .boolean)] (MW cI cZ q) (fun _ => True) [.ref (q 0), .int 0, .int p1] u (some (.int (mHasN n (u 3) 0 p1))) u := by
  refine g_start (cc := cX3_isInOrNone) (maxL := 3) (ret := (some .boolean)) (by decide) rfl (Nat.le_of_ble_eq_true rfl) ?_
  intro p e s m below meth c A ls Q hx hb hml hret hts hown hlk hE hP hK hD hA hl hQ hS
  have hown : s.vm.findClass RX3 = some m.cls := hown
  have hl : lv_has ls 3 [(0, .ref (q 0)), (1, .int 0), (2, .int p1)] := hl
  refine lv_iload_n hx hb dX3_isInOrNone_0 rfl (lv_at hl 2 rfl) ?_
  refine lv_iconst (v := (-1)) hx hb dX3_isInOrNone_1 (by decide +kernel) ?_
  refine lv_icmp_eq (tgt := 14) hx hb dX3_isInOrNone_2 (by decide) (fun c_2 => ?_) (fun c_2 => ?_)
  · refine lv_iconst (v := 1) hx hb dX3_isInOrNone_14 (by decide +kernel) ?_
    refine lv_goto (tgt := 19) hx hb dX3_isInOrNone_15 (by decide) ?_
    refine g_zret (u1 := u) hx hb hret hlk hQ hP hD hS dX3_isInOrNone_19 ?_ ?_ ?_
    · exact rfl
    · exact by unfold mHasN; rw [if_pos c_2]
    · exact rfl
  · refine lv_aload_n hx hb dX3_isInOrNone_5 rfl (lv_at hl 0 rfl) ?_
    refine lv_iload_n hx hb dX3_isInOrNone_6 rfl (lv_at hl 1 rfl) ?_
    refine lv_iload_n hx hb dX3_isInOrNone_7 rfl (lv_at hl 2 rfl) ?_
    refine g_callV (As := [.int 0, .int p1]) (rest := []) hx hb hml hown hts (ctX3_isIn_0 l D cI cZ q u n hn h60 p1) gX3_isInOrNone_X3_isIn rfl rfl rfl hdX3_isIn ⟨Nat.le_of_ble_eq_true rfl, Nat.le_of_ble_eq_true rfl⟩ gEM_true trivial hP hK hD hS hA 0 rfl rfl rfl hl.1 rfl (Nat.le_of_ble_eq_true rfl) dX3_isInOrNone_8 ⟨Nat.zero_le _, Nat.zero_le _⟩ (fun H locs hP hD hS => ?_)
    refine W.eq (g2 := F0 m 11 ls [.int (mHas n (u 3) 0 p1)]) rfl ?_
    refine lv_if_eq (tgt := 18) hx hb dX3_isInOrNone_11 (by decide) (fun c_11 => ?_) (fun c_11 => ?_)
    · refine lv_iconst (v := 0) hx hb dX3_isInOrNone_18 (by decide +kernel) ?_
      refine g_zret (u1 := u) hx hb hret hlk hQ hP hD hS dX3_isInOrNone_19 ?_ ?_ ?_
      · exact rfl
      · exact by unfold mHasN; rw [if_neg c_2, if_pos c_11]
      · exact rfl
    · refine lv_iconst (v := 1) hx hb dX3_isInOrNone_14 (by decide +kernel) ?_
      refine lv_goto (tgt := 19) hx hb dX3_isInOrNone_15 (by decide) ?_
      refine g_zret (u1 := u) hx hb hret hlk hQ hP hD hS dX3_isInOrNone_19 ?_ ?_ ?_
      · exact rfl
      · exact by unfold mHasN; rw [if_neg c_2, if_neg c_11]
      · exact rfl
abbrev rmX3_isInOrNone_1 : Room := { frames := 3, cells := 0, slots := 0, locals := 65 }
set_option maxHeartbeats 4000000 in
set_option maxRecDepth 100000 in
theorem ctX3_isInOrNone_1 (l : Launch) (D : va_G) (cI cZ : ClassId) (q : Nat → Nat) (u : SM) (n : Nat) (hn : u 15 0 = nI n) (h60 : n ≤ 60) (p1 : Int32) : gM l yX3_isInOrNone wsX3_isInOrNone rmX3_isInOrNone_1 D [(cI, .int), (cZ, .boolean)] (MW cI cZ q) (fun _ => True) [.ref (q 0), .int 1, .int p1] u (some (.int (mHasN n (u 3) 1 p1))) u := by
  refine g_start (cc := cX3_isInOrNone) (maxL := 3) (ret := (some .boolean)) (by decide) rfl (Nat.le_of_ble_eq_true rfl) ?_
  intro p e s m below meth c A ls Q hx hb hml hret hts hown hlk hE hP hK hD hA hl hQ hS
  have hown : s.vm.findClass RX3 = some m.cls := hown
  have hl : lv_has ls 3 [(0, .ref (q 0)), (1, .int 1), (2, .int p1)] := hl
  refine lv_iload_n hx hb dX3_isInOrNone_0 rfl (lv_at hl 2 rfl) ?_
  refine lv_iconst (v := (-1)) hx hb dX3_isInOrNone_1 (by decide +kernel) ?_
  refine lv_icmp_eq (tgt := 14) hx hb dX3_isInOrNone_2 (by decide) (fun c_2 => ?_) (fun c_2 => ?_)
  · refine lv_iconst (v := 1) hx hb dX3_isInOrNone_14 (by decide +kernel) ?_
    refine lv_goto (tgt := 19) hx hb dX3_isInOrNone_15 (by decide) ?_
    refine g_zret (u1 := u) hx hb hret hlk hQ hP hD hS dX3_isInOrNone_19 ?_ ?_ ?_
    · exact rfl
    · exact by unfold mHasN; rw [if_pos c_2]
    · exact rfl
  · refine lv_aload_n hx hb dX3_isInOrNone_5 rfl (lv_at hl 0 rfl) ?_
    refine lv_iload_n hx hb dX3_isInOrNone_6 rfl (lv_at hl 1 rfl) ?_
    refine lv_iload_n hx hb dX3_isInOrNone_7 rfl (lv_at hl 2 rfl) ?_
    refine g_callV (As := [.int 1, .int p1]) (rest := []) hx hb hml hown hts (ctX3_isIn_1 l D cI cZ q u n hn h60 p1) gX3_isInOrNone_X3_isIn rfl rfl rfl hdX3_isIn ⟨Nat.le_of_ble_eq_true rfl, Nat.le_of_ble_eq_true rfl⟩ gEM_true trivial hP hK hD hS hA 0 rfl rfl rfl hl.1 rfl (Nat.le_of_ble_eq_true rfl) dX3_isInOrNone_8 ⟨Nat.zero_le _, Nat.zero_le _⟩ (fun H locs hP hD hS => ?_)
    refine W.eq (g2 := F0 m 11 ls [.int (mHas n (u 3) 1 p1)]) rfl ?_
    refine lv_if_eq (tgt := 18) hx hb dX3_isInOrNone_11 (by decide) (fun c_11 => ?_) (fun c_11 => ?_)
    · refine lv_iconst (v := 0) hx hb dX3_isInOrNone_18 (by decide +kernel) ?_
      refine g_zret (u1 := u) hx hb hret hlk hQ hP hD hS dX3_isInOrNone_19 ?_ ?_ ?_
      · exact rfl
      · exact by unfold mHasN; rw [if_neg c_2, if_pos c_11]
      · exact rfl
    · refine lv_iconst (v := 1) hx hb dX3_isInOrNone_14 (by decide +kernel) ?_
      refine lv_goto (tgt := 19) hx hb dX3_isInOrNone_15 (by decide) ?_
      refine g_zret (u1 := u) hx hb hret hlk hQ hP hD hS dX3_isInOrNone_19 ?_ ?_ ?_
      · exact rfl
      · exact by unfold mHasN; rw [if_neg c_2, if_neg c_11]
      · exact rfl
theorem inX3_isCommitOrNone_RX3 : ∀ w ∈ u_ws RX3 TX3 18, w ∈ wsX3_isCommitOrNone := fun w h => List.mem_cons_of_mem _ (List.mem_append_right _ h)
abbrev rmX3_isCommitOrNone : Room := { frames := 2, cells := 0, slots := 0, locals := 43 }
set_option maxHeartbeats 4000000 in
set_option maxRecDepth 100000 in
theorem ctX3_isCommitOrNone (l : Launch) (D : va_G) (cI cZ : ClassId) (q : Nat → Nat) (u : SM) (n : Nat) (hn : u 15 0 = nI n) (h60 : n ≤ 60) (p0 : Int32) : gM l yX3_isCommitOrNone wsX3_isCommitOrNone rmX3_isCommitOrNone D [(cI, .int), (cZ, .boolean)] (MW cI cZ q) (fun _ => True) [.ref (q 0), .int p0] u (some (.int (mComN n p0))) u := by
  refine g_start (cc := cX3_isCommitOrNone) (maxL := 2) (ret := (some .boolean)) (by decide) rfl (Nat.le_of_ble_eq_true rfl) ?_
  intro p e s m below meth c A ls Q hx hb hml hret hts hown hlk hE hP hK hD hA hl hQ hS
  have hown : s.vm.findClass RX3 = some m.cls := hown
  have hl : lv_has ls 2 [(0, .ref (q 0)), (1, .int p0)] := hl
  refine lv_iload_n hx hb dX3_isCommitOrNone_0 rfl (lv_at hl 1 rfl) ?_
  refine lv_iconst (v := (-1)) hx hb dX3_isCommitOrNone_1 (by decide +kernel) ?_
  refine lv_icmp_eq (tgt := 13) hx hb dX3_isCommitOrNone_2 (by decide) (fun c_2 => ?_) (fun c_2 => ?_)
  · refine lv_iconst (v := 1) hx hb dX3_isCommitOrNone_13 (by decide +kernel) ?_
    refine lv_goto (tgt := 18) hx hb dX3_isCommitOrNone_14 (by decide) ?_
    refine g_zret (u1 := u) hx hb hret hlk hQ hP hD hS dX3_isCommitOrNone_18 ?_ ?_ ?_
    · exact rfl
    · exact by unfold mComN; rw [if_pos c_2]
    · exact rfl
  · refine lv_aload_n hx hb dX3_isCommitOrNone_5 rfl (lv_at hl 0 rfl) ?_
    refine lv_iload_n hx hb dX3_isCommitOrNone_6 rfl (lv_at hl 1 rfl) ?_
    refine g_callV (As := [.int p0]) (rest := []) hx hb hml hown hts (ctX3_isCommit l D cI cZ q u n hn h60 p0) gX3_isCommitOrNone_X3_isCommit rfl rfl rfl hdX3_isCommit ⟨Nat.le_of_ble_eq_true rfl, Nat.le_of_ble_eq_true rfl⟩ gEM_true trivial hP hK hD hS hA 0 rfl rfl rfl hl.1 rfl (Nat.le_of_ble_eq_true rfl) dX3_isCommitOrNone_7 ⟨Nat.zero_le _, Nat.zero_le _⟩ (fun H locs hP hD hS => ?_)
    refine W.eq (g2 := F0 m 10 ls [.int (xRange p0 (nI n))]) rfl ?_
    refine lv_if_eq (tgt := 17) hx hb dX3_isCommitOrNone_10 (by decide) (fun c_10 => ?_) (fun c_10 => ?_)
    · refine lv_iconst (v := 0) hx hb dX3_isCommitOrNone_17 (by decide +kernel) ?_
      refine g_zret (u1 := u) hx hb hret hlk hQ hP hD hS dX3_isCommitOrNone_18 ?_ ?_ ?_
      · exact rfl
      · exact by unfold mComN; rw [if_neg c_2, if_pos c_10]
      · exact rfl
    · refine lv_iconst (v := 1) hx hb dX3_isCommitOrNone_13 (by decide +kernel) ?_
      refine lv_goto (tgt := 18) hx hb dX3_isCommitOrNone_14 (by decide) ?_
      refine g_zret (u1 := u) hx hb hret hlk hQ hP hD hS dX3_isCommitOrNone_18 ?_ ?_ ?_
      · exact rfl
      · exact by unfold mComN; rw [if_neg c_2, if_neg c_10]
      · exact rfl
theorem lkX3_lacksParent_13 : Cond.fieldLink RX3 13 "FetchHouseModel" "seconds" "[I" ∈ wsX3_lacksParent := List.mem_of_getElem? (i := 2) (by decide +kernel)
theorem lkX3_lacksParent_7 : Cond.fieldLink RX3 7 "FetchHouseModel" "firsts" "[I" ∈ wsX3_lacksParent := List.mem_of_getElem? (i := 1) (by decide +kernel)
theorem inX3_lacksParent_RX3 : ∀ w ∈ u_ws RX3 TX3 18, w ∈ wsX3_lacksParent := fun w h => List.mem_cons_of_mem _ (List.mem_append_right _ h)
abbrev rmX3_lacksParent_0 : Room := { frames := 3, cells := 0, slots := 0, locals := 65 }
set_option maxHeartbeats 4000000 in
set_option maxRecDepth 100000 in
theorem ctX3_lacksParent_0 (l : Launch) (D : va_G) (cI cZ : ClassId) (q : Nat → Nat) (u : SM) (n : Nat) (hn : u 15 0 = nI n) (h60 : n ≤ 60) (j : Nat) (hj : j < 60) : gM l yX3_lacksParent wsX3_lacksParent rmX3_lacksParent_0 D [(cI, .int), (cZ, .boolean)] (MW cI cZ q) (fun _ => True) [.ref (q 0), .int 0, .int (nI j)] u (some (.int (mLack n (u 3) 0 (u 0) (u 1) j))) u := by
  refine g_start (cc := cX3_lacksParent) (maxL := 3) (ret := (some .boolean)) (by decide) rfl (Nat.le_of_ble_eq_true rfl) ?_
  intro p e s m below meth c A ls Q hx hb hml hret hts hown hlk hE hP hK hD hA hl hQ hS
  have hown : s.vm.findClass RX3 = some m.cls := hown
  have hl : lv_has ls 3 [(0, .ref (q 0)), (1, .int 0), (2, .int (nI j))] := hl
  refine lv_aload_n hx hb dX3_lacksParent_0 rfl (lv_at hl 0 rfl) ?_
  refine va_get (ci := 3) (v := .ref (q 1)) (C := RX3) (T := TX3) (N := 18) hx hb hts inX3_lacksParent_RX3 hown hK hP 0 rfl rfl 2 (by decide) (hts _ lkX3_lacksParent_7) (fun _ h9 => h9) rfl dX3_lacksParent_1 ?_
  refine lv_iload_n hx hb dX3_lacksParent_4 rfl (lv_at hl 2 rfl) ?_
  refine g_iald (n := 60) (f := (u 0)) hx hb hK hP 1 0 (MW_get_0 _) rfl j (by omega) (by omega) rfl dX3_lacksParent_5 ?_
  refine lv_iconst (v := (-1)) hx hb dX3_lacksParent_6 (by decide +kernel) ?_
  refine lv_icmp_eq (tgt := 24) hx hb dX3_lacksParent_7 (by decide) (fun c_7 => ?_) (fun c_7 => ?_)
  · refine lv_aload_n hx hb dX3_lacksParent_24 rfl (lv_at hl 0 rfl) ?_
    refine va_get (ci := 3) (v := .ref (q 2)) (C := RX3) (T := TX3) (N := 18) hx hb hts inX3_lacksParent_RX3 hown hK hP 0 rfl rfl 3 (by decide) (hts _ lkX3_lacksParent_13) (fun _ h9 => h9) rfl dX3_lacksParent_25 ?_
    refine lv_iload_n hx hb dX3_lacksParent_28 rfl (lv_at hl 2 rfl) ?_
    refine g_iald (n := 60) (f := (u 1)) hx hb hK hP 2 0 (MW_get_1 _) rfl j (by omega) (by omega) rfl dX3_lacksParent_29 ?_
    refine lv_iconst (v := (-1)) hx hb dX3_lacksParent_30 (by decide +kernel) ?_
    refine lv_icmp_eq (tgt := 52) hx hb dX3_lacksParent_31 (by decide) (fun c_31 => ?_) (fun c_31 => ?_)
    · refine lv_iconst (v := 0) hx hb dX3_lacksParent_52 (by decide +kernel) ?_
      refine g_zret (u1 := u) hx hb hret hlk hQ hP hD hS dX3_lacksParent_53 ?_ ?_ ?_
      · exact rfl
      · exact by unfold mLack mLack2; rw [if_pos c_7, if_pos c_31]
      · exact rfl
    · refine lv_aload_n hx hb dX3_lacksParent_34 rfl (lv_at hl 0 rfl) ?_
      refine lv_iload_n hx hb dX3_lacksParent_35 rfl (lv_at hl 1 rfl) ?_
      refine lv_aload_n hx hb dX3_lacksParent_36 rfl (lv_at hl 0 rfl) ?_
      refine va_get (ci := 3) (v := .ref (q 2)) (C := RX3) (T := TX3) (N := 18) hx hb hts inX3_lacksParent_RX3 hown hK hP 0 rfl rfl 3 (by decide) (hts _ lkX3_lacksParent_13) (fun _ h9 => h9) rfl dX3_lacksParent_37 ?_
      refine lv_iload_n hx hb dX3_lacksParent_40 rfl (lv_at hl 2 rfl) ?_
      refine g_iald (n := 60) (f := (u 1)) hx hb hK hP 2 0 (MW_get_1 _) rfl j (by omega) (by omega) rfl dX3_lacksParent_41 ?_
      refine g_callV (As := [.int 0, .int ((u 1) j)]) (rest := []) hx hb hml hown hts (ctX3_isIn_0 l D cI cZ q u n hn h60 ((u 1) j)) gX3_lacksParent_X3_isIn rfl rfl rfl hdX3_isIn ⟨Nat.le_of_ble_eq_true rfl, Nat.le_of_ble_eq_true rfl⟩ gEM_true trivial hP hK hD hS hA 0 rfl rfl rfl hl.1 rfl (Nat.le_of_ble_eq_true rfl) dX3_lacksParent_42 ⟨Nat.zero_le _, Nat.zero_le _⟩ (fun H locs hP hD hS => ?_)
      refine W.eq (g2 := F0 m 45 ls [.int (mHas n (u 3) 0 ((u 1) j))]) rfl ?_
      refine lv_if_ne (tgt := 52) hx hb dX3_lacksParent_45 (by decide) (fun c_45 => ?_) (fun c_45 => ?_)
      · refine lv_iconst (v := 0) hx hb dX3_lacksParent_52 (by decide +kernel) ?_
        refine g_zret (u1 := u) hx hb hret hlk hQ hP hD hS dX3_lacksParent_53 ?_ ?_ ?_
        · exact rfl
        · exact by unfold mLack mLack2; rw [if_pos c_7, if_neg c_31, if_neg c_45]
        · exact rfl
      · refine lv_iconst (v := 1) hx hb dX3_lacksParent_48 (by decide +kernel) ?_
        refine lv_goto (tgt := 53) hx hb dX3_lacksParent_49 (by decide) ?_
        refine g_zret (u1 := u) hx hb hret hlk hQ hP hD hS dX3_lacksParent_53 ?_ ?_ ?_
        · exact rfl
        · exact by unfold mLack mLack2; rw [if_pos c_7, if_neg c_31, if_pos c_45]
        · exact rfl
  · refine lv_aload_n hx hb dX3_lacksParent_10 rfl (lv_at hl 0 rfl) ?_
    refine lv_iload_n hx hb dX3_lacksParent_11 rfl (lv_at hl 1 rfl) ?_
    refine lv_aload_n hx hb dX3_lacksParent_12 rfl (lv_at hl 0 rfl) ?_
    refine va_get (ci := 3) (v := .ref (q 1)) (C := RX3) (T := TX3) (N := 18) hx hb hts inX3_lacksParent_RX3 hown hK hP 0 rfl rfl 2 (by decide) (hts _ lkX3_lacksParent_7) (fun _ h9 => h9) rfl dX3_lacksParent_13 ?_
    refine lv_iload_n hx hb dX3_lacksParent_16 rfl (lv_at hl 2 rfl) ?_
    refine g_iald (n := 60) (f := (u 0)) hx hb hK hP 1 0 (MW_get_0 _) rfl j (by omega) (by omega) rfl dX3_lacksParent_17 ?_
    refine g_callV (As := [.int 0, .int ((u 0) j)]) (rest := []) hx hb hml hown hts (ctX3_isIn_0 l D cI cZ q u n hn h60 ((u 0) j)) gX3_lacksParent_X3_isIn rfl rfl rfl hdX3_isIn ⟨Nat.le_of_ble_eq_true rfl, Nat.le_of_ble_eq_true rfl⟩ gEM_true trivial hP hK hD hS hA 0 rfl rfl rfl hl.1 rfl (Nat.le_of_ble_eq_true rfl) dX3_lacksParent_18 ⟨Nat.zero_le _, Nat.zero_le _⟩ (fun H locs hP hD hS => ?_)
    refine W.eq (g2 := F0 m 21 ls [.int (mHas n (u 3) 0 ((u 0) j))]) rfl ?_
    refine lv_if_eq (tgt := 48) hx hb dX3_lacksParent_21 (by decide) (fun c_21 => ?_) (fun c_21 => ?_)
    · refine lv_iconst (v := 1) hx hb dX3_lacksParent_48 (by decide +kernel) ?_
      refine lv_goto (tgt := 53) hx hb dX3_lacksParent_49 (by decide) ?_
      refine g_zret (u1 := u) hx hb hret hlk hQ hP hD hS dX3_lacksParent_53 ?_ ?_ ?_
      · exact rfl
      · exact by unfold mLack mLack2; rw [if_neg c_7, if_pos c_21]
      · exact rfl
    · refine lv_aload_n hx hb dX3_lacksParent_24 rfl (lv_at hl 0 rfl) ?_
      refine va_get (ci := 3) (v := .ref (q 2)) (C := RX3) (T := TX3) (N := 18) hx hb hts inX3_lacksParent_RX3 hown hK hP 0 rfl rfl 3 (by decide) (hts _ lkX3_lacksParent_13) (fun _ h9 => h9) rfl dX3_lacksParent_25 ?_
      refine lv_iload_n hx hb dX3_lacksParent_28 rfl (lv_at hl 2 rfl) ?_
      refine g_iald (n := 60) (f := (u 1)) hx hb hK hP 2 0 (MW_get_1 _) rfl j (by omega) (by omega) rfl dX3_lacksParent_29 ?_
      refine lv_iconst (v := (-1)) hx hb dX3_lacksParent_30 (by decide +kernel) ?_
      refine lv_icmp_eq (tgt := 52) hx hb dX3_lacksParent_31 (by decide) (fun c_31 => ?_) (fun c_31 => ?_)
      · refine lv_iconst (v := 0) hx hb dX3_lacksParent_52 (by decide +kernel) ?_
        refine g_zret (u1 := u) hx hb hret hlk hQ hP hD hS dX3_lacksParent_53 ?_ ?_ ?_
        · exact rfl
        · exact by unfold mLack mLack2; rw [if_neg c_7, if_neg c_21, if_pos c_31]
        · exact rfl
      · refine lv_aload_n hx hb dX3_lacksParent_34 rfl (lv_at hl 0 rfl) ?_
        refine lv_iload_n hx hb dX3_lacksParent_35 rfl (lv_at hl 1 rfl) ?_
        refine lv_aload_n hx hb dX3_lacksParent_36 rfl (lv_at hl 0 rfl) ?_
        refine va_get (ci := 3) (v := .ref (q 2)) (C := RX3) (T := TX3) (N := 18) hx hb hts inX3_lacksParent_RX3 hown hK hP 0 rfl rfl 3 (by decide) (hts _ lkX3_lacksParent_13) (fun _ h9 => h9) rfl dX3_lacksParent_37 ?_
        refine lv_iload_n hx hb dX3_lacksParent_40 rfl (lv_at hl 2 rfl) ?_
        refine g_iald (n := 60) (f := (u 1)) hx hb hK hP 2 0 (MW_get_1 _) rfl j (by omega) (by omega) rfl dX3_lacksParent_41 ?_
        refine g_callV (As := [.int 0, .int ((u 1) j)]) (rest := []) hx hb hml hown hts (ctX3_isIn_0 l D cI cZ q u n hn h60 ((u 1) j)) gX3_lacksParent_X3_isIn rfl rfl rfl hdX3_isIn ⟨Nat.le_of_ble_eq_true rfl, Nat.le_of_ble_eq_true rfl⟩ gEM_true trivial hP hK hD hS hA 0 rfl rfl rfl hl.1 rfl (Nat.le_of_ble_eq_true rfl) dX3_lacksParent_42 ⟨Nat.zero_le _, Nat.zero_le _⟩ (fun H locs hP hD hS => ?_)
        refine W.eq (g2 := F0 m 45 ls [.int (mHas n (u 3) 0 ((u 1) j))]) rfl ?_
        refine lv_if_ne (tgt := 52) hx hb dX3_lacksParent_45 (by decide) (fun c_45 => ?_) (fun c_45 => ?_)
        · refine lv_iconst (v := 0) hx hb dX3_lacksParent_52 (by decide +kernel) ?_
          refine g_zret (u1 := u) hx hb hret hlk hQ hP hD hS dX3_lacksParent_53 ?_ ?_ ?_
          · exact rfl
          · exact by unfold mLack mLack2; rw [if_neg c_7, if_neg c_21, if_neg c_31, if_neg c_45]
          · exact rfl
        · refine lv_iconst (v := 1) hx hb dX3_lacksParent_48 (by decide +kernel) ?_
          refine lv_goto (tgt := 53) hx hb dX3_lacksParent_49 (by decide) ?_
          refine g_zret (u1 := u) hx hb hret hlk hQ hP hD hS dX3_lacksParent_53 ?_ ?_ ?_
          · exact rfl
          · exact by unfold mLack mLack2; rw [if_neg c_7, if_neg c_21, if_neg c_31, if_pos c_45]
          · exact rfl
abbrev rmX3_lacksParent_1 : Room := { frames := 3, cells := 0, slots := 0, locals := 65 }
set_option maxHeartbeats 4000000 in
set_option maxRecDepth 100000 in
theorem ctX3_lacksParent_1 (l : Launch) (D : va_G) (cI cZ : ClassId) (q : Nat → Nat) (u : SM) (n : Nat) (hn : u 15 0 = nI n) (h60 : n ≤ 60) (j : Nat) (hj : j < 60) : gM l yX3_lacksParent wsX3_lacksParent rmX3_lacksParent_1 D [(cI, .int), (cZ, .boolean)] (MW cI cZ q) (fun _ => True) [.ref (q 0), .int 1, .int (nI j)] u (some (.int (mLack n (u 3) 1 (u 0) (u 1) j))) u := by
  refine g_start (cc := cX3_lacksParent) (maxL := 3) (ret := (some .boolean)) (by decide) rfl (Nat.le_of_ble_eq_true rfl) ?_
  intro p e s m below meth c A ls Q hx hb hml hret hts hown hlk hE hP hK hD hA hl hQ hS
  have hown : s.vm.findClass RX3 = some m.cls := hown
  have hl : lv_has ls 3 [(0, .ref (q 0)), (1, .int 1), (2, .int (nI j))] := hl
  refine lv_aload_n hx hb dX3_lacksParent_0 rfl (lv_at hl 0 rfl) ?_
  refine va_get (ci := 3) (v := .ref (q 1)) (C := RX3) (T := TX3) (N := 18) hx hb hts inX3_lacksParent_RX3 hown hK hP 0 rfl rfl 2 (by decide) (hts _ lkX3_lacksParent_7) (fun _ h9 => h9) rfl dX3_lacksParent_1 ?_
  refine lv_iload_n hx hb dX3_lacksParent_4 rfl (lv_at hl 2 rfl) ?_
  refine g_iald (n := 60) (f := (u 0)) hx hb hK hP 1 0 (MW_get_0 _) rfl j (by omega) (by omega) rfl dX3_lacksParent_5 ?_
  refine lv_iconst (v := (-1)) hx hb dX3_lacksParent_6 (by decide +kernel) ?_
  refine lv_icmp_eq (tgt := 24) hx hb dX3_lacksParent_7 (by decide) (fun c_7 => ?_) (fun c_7 => ?_)
  · refine lv_aload_n hx hb dX3_lacksParent_24 rfl (lv_at hl 0 rfl) ?_
    refine va_get (ci := 3) (v := .ref (q 2)) (C := RX3) (T := TX3) (N := 18) hx hb hts inX3_lacksParent_RX3 hown hK hP 0 rfl rfl 3 (by decide) (hts _ lkX3_lacksParent_13) (fun _ h9 => h9) rfl dX3_lacksParent_25 ?_
    refine lv_iload_n hx hb dX3_lacksParent_28 rfl (lv_at hl 2 rfl) ?_
    refine g_iald (n := 60) (f := (u 1)) hx hb hK hP 2 0 (MW_get_1 _) rfl j (by omega) (by omega) rfl dX3_lacksParent_29 ?_
    refine lv_iconst (v := (-1)) hx hb dX3_lacksParent_30 (by decide +kernel) ?_
    refine lv_icmp_eq (tgt := 52) hx hb dX3_lacksParent_31 (by decide) (fun c_31 => ?_) (fun c_31 => ?_)
    · refine lv_iconst (v := 0) hx hb dX3_lacksParent_52 (by decide +kernel) ?_
      refine g_zret (u1 := u) hx hb hret hlk hQ hP hD hS dX3_lacksParent_53 ?_ ?_ ?_
      · exact rfl
      · exact by unfold mLack mLack2; rw [if_pos c_7, if_pos c_31]
      · exact rfl
    · refine lv_aload_n hx hb dX3_lacksParent_34 rfl (lv_at hl 0 rfl) ?_
      refine lv_iload_n hx hb dX3_lacksParent_35 rfl (lv_at hl 1 rfl) ?_
      refine lv_aload_n hx hb dX3_lacksParent_36 rfl (lv_at hl 0 rfl) ?_
      refine va_get (ci := 3) (v := .ref (q 2)) (C := RX3) (T := TX3) (N := 18) hx hb hts inX3_lacksParent_RX3 hown hK hP 0 rfl rfl 3 (by decide) (hts _ lkX3_lacksParent_13) (fun _ h9 => h9) rfl dX3_lacksParent_37 ?_
      refine lv_iload_n hx hb dX3_lacksParent_40 rfl (lv_at hl 2 rfl) ?_
      refine g_iald (n := 60) (f := (u 1)) hx hb hK hP 2 0 (MW_get_1 _) rfl j (by omega) (by omega) rfl dX3_lacksParent_41 ?_
      refine g_callV (As := [.int 1, .int ((u 1) j)]) (rest := []) hx hb hml hown hts (ctX3_isIn_1 l D cI cZ q u n hn h60 ((u 1) j)) gX3_lacksParent_X3_isIn rfl rfl rfl hdX3_isIn ⟨Nat.le_of_ble_eq_true rfl, Nat.le_of_ble_eq_true rfl⟩ gEM_true trivial hP hK hD hS hA 0 rfl rfl rfl hl.1 rfl (Nat.le_of_ble_eq_true rfl) dX3_lacksParent_42 ⟨Nat.zero_le _, Nat.zero_le _⟩ (fun H locs hP hD hS => ?_)
      refine W.eq (g2 := F0 m 45 ls [.int (mHas n (u 3) 1 ((u 1) j))]) rfl ?_
      refine lv_if_ne (tgt := 52) hx hb dX3_lacksParent_45 (by decide) (fun c_45 => ?_) (fun c_45 => ?_)
      · refine lv_iconst (v := 0) hx hb dX3_lacksParent_52 (by decide +kernel) ?_
        refine g_zret (u1 := u) hx hb hret hlk hQ hP hD hS dX3_lacksParent_53 ?_ ?_ ?_
        · exact rfl
        · exact by unfold mLack mLack2; rw [if_pos c_7, if_neg c_31, if_neg c_45]
        · exact rfl
      · refine lv_iconst (v := 1) hx hb dX3_lacksParent_48 (by decide +kernel) ?_
        refine lv_goto (tgt := 53) hx hb dX3_lacksParent_49 (by decide) ?_
        refine g_zret (u1 := u) hx hb hret hlk hQ hP hD hS dX3_lacksParent_53 ?_ ?_ ?_
        · exact rfl
        · exact by unfold mLack mLack2; rw [if_pos c_7, if_neg c_31, if_pos c_45]
        · exact rfl
  · refine lv_aload_n hx hb dX3_lacksParent_10 rfl (lv_at hl 0 rfl) ?_
    refine lv_iload_n hx hb dX3_lacksParent_11 rfl (lv_at hl 1 rfl) ?_
    refine lv_aload_n hx hb dX3_lacksParent_12 rfl (lv_at hl 0 rfl) ?_
    refine va_get (ci := 3) (v := .ref (q 1)) (C := RX3) (T := TX3) (N := 18) hx hb hts inX3_lacksParent_RX3 hown hK hP 0 rfl rfl 2 (by decide) (hts _ lkX3_lacksParent_7) (fun _ h9 => h9) rfl dX3_lacksParent_13 ?_
    refine lv_iload_n hx hb dX3_lacksParent_16 rfl (lv_at hl 2 rfl) ?_
    refine g_iald (n := 60) (f := (u 0)) hx hb hK hP 1 0 (MW_get_0 _) rfl j (by omega) (by omega) rfl dX3_lacksParent_17 ?_
    refine g_callV (As := [.int 1, .int ((u 0) j)]) (rest := []) hx hb hml hown hts (ctX3_isIn_1 l D cI cZ q u n hn h60 ((u 0) j)) gX3_lacksParent_X3_isIn rfl rfl rfl hdX3_isIn ⟨Nat.le_of_ble_eq_true rfl, Nat.le_of_ble_eq_true rfl⟩ gEM_true trivial hP hK hD hS hA 0 rfl rfl rfl hl.1 rfl (Nat.le_of_ble_eq_true rfl) dX3_lacksParent_18 ⟨Nat.zero_le _, Nat.zero_le _⟩ (fun H locs hP hD hS => ?_)
    refine W.eq (g2 := F0 m 21 ls [.int (mHas n (u 3) 1 ((u 0) j))]) rfl ?_
    refine lv_if_eq (tgt := 48) hx hb dX3_lacksParent_21 (by decide) (fun c_21 => ?_) (fun c_21 => ?_)
    · refine lv_iconst (v := 1) hx hb dX3_lacksParent_48 (by decide +kernel) ?_
      refine lv_goto (tgt := 53) hx hb dX3_lacksParent_49 (by decide) ?_
      refine g_zret (u1 := u) hx hb hret hlk hQ hP hD hS dX3_lacksParent_53 ?_ ?_ ?_
      · exact rfl
      · exact by unfold mLack mLack2; rw [if_neg c_7, if_pos c_21]
      · exact rfl
    · refine lv_aload_n hx hb dX3_lacksParent_24 rfl (lv_at hl 0 rfl) ?_
      refine va_get (ci := 3) (v := .ref (q 2)) (C := RX3) (T := TX3) (N := 18) hx hb hts inX3_lacksParent_RX3 hown hK hP 0 rfl rfl 3 (by decide) (hts _ lkX3_lacksParent_13) (fun _ h9 => h9) rfl dX3_lacksParent_25 ?_
      refine lv_iload_n hx hb dX3_lacksParent_28 rfl (lv_at hl 2 rfl) ?_
      refine g_iald (n := 60) (f := (u 1)) hx hb hK hP 2 0 (MW_get_1 _) rfl j (by omega) (by omega) rfl dX3_lacksParent_29 ?_
      refine lv_iconst (v := (-1)) hx hb dX3_lacksParent_30 (by decide +kernel) ?_
      refine lv_icmp_eq (tgt := 52) hx hb dX3_lacksParent_31 (by decide) (fun c_31 => ?_) (fun c_31 => ?_)
      · refine lv_iconst (v := 0) hx hb dX3_lacksParent_52 (by decide +kernel) ?_
        refine g_zret (u1 := u) hx hb hret hlk hQ hP hD hS dX3_lacksParent_53 ?_ ?_ ?_
        · exact rfl
        · exact by unfold mLack mLack2; rw [if_neg c_7, if_neg c_21, if_pos c_31]
        · exact rfl
      · refine lv_aload_n hx hb dX3_lacksParent_34 rfl (lv_at hl 0 rfl) ?_
        refine lv_iload_n hx hb dX3_lacksParent_35 rfl (lv_at hl 1 rfl) ?_
        refine lv_aload_n hx hb dX3_lacksParent_36 rfl (lv_at hl 0 rfl) ?_
        refine va_get (ci := 3) (v := .ref (q 2)) (C := RX3) (T := TX3) (N := 18) hx hb hts inX3_lacksParent_RX3 hown hK hP 0 rfl rfl 3 (by decide) (hts _ lkX3_lacksParent_13) (fun _ h9 => h9) rfl dX3_lacksParent_37 ?_
        refine lv_iload_n hx hb dX3_lacksParent_40 rfl (lv_at hl 2 rfl) ?_
        refine g_iald (n := 60) (f := (u 1)) hx hb hK hP 2 0 (MW_get_1 _) rfl j (by omega) (by omega) rfl dX3_lacksParent_41 ?_
        refine g_callV (As := [.int 1, .int ((u 1) j)]) (rest := []) hx hb hml hown hts (ctX3_isIn_1 l D cI cZ q u n hn h60 ((u 1) j)) gX3_lacksParent_X3_isIn rfl rfl rfl hdX3_isIn ⟨Nat.le_of_ble_eq_true rfl, Nat.le_of_ble_eq_true rfl⟩ gEM_true trivial hP hK hD hS hA 0 rfl rfl rfl hl.1 rfl (Nat.le_of_ble_eq_true rfl) dX3_lacksParent_42 ⟨Nat.zero_le _, Nat.zero_le _⟩ (fun H locs hP hD hS => ?_)
        refine W.eq (g2 := F0 m 45 ls [.int (mHas n (u 3) 1 ((u 1) j))]) rfl ?_
        refine lv_if_ne (tgt := 52) hx hb dX3_lacksParent_45 (by decide) (fun c_45 => ?_) (fun c_45 => ?_)
        · refine lv_iconst (v := 0) hx hb dX3_lacksParent_52 (by decide +kernel) ?_
          refine g_zret (u1 := u) hx hb hret hlk hQ hP hD hS dX3_lacksParent_53 ?_ ?_ ?_
          · exact rfl
          · exact by unfold mLack mLack2; rw [if_neg c_7, if_neg c_21, if_neg c_31, if_neg c_45]
          · exact rfl
        · refine lv_iconst (v := 1) hx hb dX3_lacksParent_48 (by decide +kernel) ?_
          refine lv_goto (tgt := 53) hx hb dX3_lacksParent_49 (by decide) ?_
          refine g_zret (u1 := u) hx hb hret hlk hQ hP hD hS dX3_lacksParent_53 ?_ ?_ ?_
          · exact rfl
          · exact by unfold mLack mLack2; rw [if_neg c_7, if_neg c_21, if_neg c_31, if_pos c_45]
          · exact rfl
theorem inX3_shallow_RX3 : ∀ w ∈ u_ws RX3 TX3 18, w ∈ wsX3_shallow := fun w h => List.mem_cons_of_mem _ (List.mem_append_right _ h)
abbrev rmX3_shallow : Room := { frames := 4, cells := 0, slots := 0, locals := 87 }
set_option maxHeartbeats 4000000 in
set_option maxRecDepth 100000 in
theorem ctX3_shallow (l : Launch) (D : va_G) (cI cZ : ClassId) (q : Nat → Nat) (u : SM) (n : Nat) (hn : u 15 0 = nI n) (h60 : n ≤ 60) (j : Nat) (hj : j < 60) : gM l yX3_shallow wsX3_shallow rmX3_shallow D [(cI, .int), (cZ, .boolean)] (MW cI cZ q) (fun _ => True) [.ref (q 0), .int (nI j)] u (some (.int (mShal n (u 3) (u 0) (u 1) j))) u := by
  refine g_start (cc := cX3_shallow) (maxL := 2) (ret := (some .boolean)) (by decide) rfl (Nat.le_of_ble_eq_true rfl) ?_
  intro p e s m below meth c A ls Q hx hb hml hret hts hown hlk hE hP hK hD hA hl hQ hS
  have hown : s.vm.findClass RX3 = some m.cls := hown
  have hl : lv_has ls 2 [(0, .ref (q 0)), (1, .int (nI j))] := hl
  refine lv_aload_n hx hb dX3_shallow_0 rfl (lv_at hl 0 rfl) ?_
  refine lv_iconst (v := 1) hx hb dX3_shallow_1 (by decide +kernel) ?_
  refine lv_iload_n hx hb dX3_shallow_2 rfl (lv_at hl 1 rfl) ?_
  refine g_callV (As := [.int 1, .int (nI j)]) (rest := []) hx hb hml hown hts (ctX3_isIn_1 l D cI cZ q u n hn h60 (nI j)) gX3_shallow_X3_isIn rfl rfl rfl hdX3_isIn ⟨Nat.le_of_ble_eq_true rfl, Nat.le_of_ble_eq_true rfl⟩ gEM_true trivial hP hK hD hS hA 0 rfl rfl rfl hl.1 rfl (Nat.le_of_ble_eq_true rfl) dX3_shallow_3 ⟨Nat.zero_le _, Nat.zero_le _⟩ (fun H locs hP hD hS => ?_)
  refine W.eq (g2 := F0 m 6 ls [.int (mHas n (u 3) 1 (nI j))]) rfl ?_
  refine lv_if_eq (tgt := 22) hx hb dX3_shallow_6 (by decide) (fun c_6 => ?_) (fun c_6 => ?_)
  · refine lv_iconst (v := 0) hx hb dX3_shallow_22 (by decide +kernel) ?_
    refine g_zret (u1 := u) hx hb hret hlk hQ hP hD hS dX3_shallow_23 ?_ ?_ ?_
    · exact rfl
    · exact by unfold mShal; rw [if_pos c_6]
    · exact rfl
  · refine lv_aload_n hx hb dX3_shallow_9 rfl (lv_at hl 0 rfl) ?_
    refine lv_iconst (v := 1) hx hb dX3_shallow_10 (by decide +kernel) ?_
    refine lv_iload_n hx hb dX3_shallow_11 rfl (lv_at hl 1 rfl) ?_
    refine g_callV (As := [.int 1, .int (nI j)]) (rest := []) hx hb hml hown hts (ctX3_lacksParent_1 l D cI cZ q u n hn h60 j (by omega)) gX3_shallow_X3_lacksParent rfl rfl rfl hdX3_lacksParent ⟨Nat.le_of_ble_eq_true rfl, Nat.le_of_ble_eq_true rfl⟩ gEM_true trivial hP hK hD hS hA 0 rfl rfl rfl hl.1 rfl (Nat.le_of_ble_eq_true rfl) dX3_shallow_12 ⟨Nat.zero_le _, Nat.zero_le _⟩ (fun H locs hP hD hS => ?_)
    refine W.eq (g2 := F0 m 15 ls [.int (mLack n (u 3) 1 (u 0) (u 1) j)]) rfl ?_
    refine lv_if_eq (tgt := 22) hx hb dX3_shallow_15 (by decide) (fun c_15 => ?_) (fun c_15 => ?_)
    · refine lv_iconst (v := 0) hx hb dX3_shallow_22 (by decide +kernel) ?_
      refine g_zret (u1 := u) hx hb hret hlk hQ hP hD hS dX3_shallow_23 ?_ ?_ ?_
      · exact rfl
      · exact by unfold mShal; rw [if_neg c_6, if_pos c_15]
      · exact rfl
    · refine lv_iconst (v := 1) hx hb dX3_shallow_18 (by decide +kernel) ?_
      refine lv_goto (tgt := 23) hx hb dX3_shallow_19 (by decide) ?_
      refine g_zret (u1 := u) hx hb hret hlk hQ hP hD hS dX3_shallow_23 ?_ ?_ ?_
      · exact rfl
      · exact by unfold mShal; rw [if_neg c_6, if_neg c_15]
      · exact rfl
theorem lkX3_mark_41 : Cond.fieldLink RX3 41 "FetchHouseModel" "marks" "[Z" ∈ wsX3_mark := List.mem_of_getElem? (i := 1) (by decide +kernel)
theorem inX3_mark_RX3 : ∀ w ∈ u_ws RX3 TX3 18, w ∈ wsX3_mark := fun w h => List.mem_cons_of_mem _ (List.mem_append_right _ h)
abbrev rmX3_mark_0 : Room := { frames := 3, cells := 0, slots := 0, locals := 65 }
set_option maxHeartbeats 4000000 in
set_option maxRecDepth 100000 in
theorem ctX3_mark_0 (l : Launch) (D : va_G) (cI cZ : ClassId) (q : Nat → Nat) (u : SM) (n : Nat) (hn : u 15 0 = nI n) (h60 : n ≤ 60) (p1 : Int32) : gM l yX3_mark wsX3_mark rmX3_mark_0 D [(cI, .int), (cZ, .boolean)] (MW cI cZ q) (fun _ => True) [.ref (q 0), .int 0, .int p1] u none (mS u 10 (mMark n (u 3) 0 (u 10) p1)) := by
  refine g_start (cc := cX3_mark) (maxL := 3) (ret := none) (by decide) rfl (Nat.le_of_ble_eq_true rfl) ?_
  intro p e s m below meth c A ls Q hx hb hml hret hts hown hlk hE hP hK hD hA hl hQ hS
  have hown : s.vm.findClass RX3 = some m.cls := hown
  have hl : lv_has ls 3 [(0, .ref (q 0)), (1, .int 0), (2, .int p1)] := hl
  refine lv_aload_n hx hb dX3_mark_0 rfl (lv_at hl 0 rfl) ?_
  refine lv_iload_n hx hb dX3_mark_1 rfl (lv_at hl 1 rfl) ?_
  refine lv_iload_n hx hb dX3_mark_2 rfl (lv_at hl 2 rfl) ?_
  refine g_callV (As := [.int 0, .int p1]) (rest := []) hx hb hml hown hts (ctX3_isIn_0 l D cI cZ q u n hn h60 p1) gX3_mark_X3_isIn rfl rfl rfl hdX3_isIn ⟨Nat.le_of_ble_eq_true rfl, Nat.le_of_ble_eq_true rfl⟩ gEM_true trivial hP hK hD hS hA 0 rfl rfl rfl hl.1 rfl (Nat.le_of_ble_eq_true rfl) dX3_mark_3 ⟨Nat.zero_le _, Nat.zero_le _⟩ (fun H locs hP hD hS => ?_)
  refine W.eq (g2 := F0 m 6 ls [.int (mHas n (u 3) 0 p1)]) rfl ?_
  refine lv_if_eq (tgt := 16) hx hb dX3_mark_6 (by decide) (fun c_6 => ?_) (fun c_6 => ?_)
  · refine g_vret (u1 := u) hx hb hret hlk hQ hP hD hS dX3_mark_16 ?_ ?_
    · exact rfl
    · exact (by rw [show mMark n (u 3) 0 (u 10) p1 = (u 10) from by unfold mMark; rw [if_pos c_6]] <;> exact (MW_ext (by refine ⟨?_, ?_, ?_, ?_, ?_, ?_, ?_, ?_, ?_, ?_, ?_, ?_, ?_, ?_, ?_, ?_, ?_, ?_⟩ <;> simp only [mS_at, ↓reduceIte, Nat.reduceEqDiff] <;> rfl)))
  · obtain ⟨j, hj, hj2⟩ := mHas_ne (by omega) c_6
    refine lv_aload_n hx hb dX3_mark_9 rfl (lv_at hl 0 rfl) ?_
    refine va_get (ci := 3) (v := .ref (q 11)) (C := RX3) (T := TX3) (N := 18) hx hb hts inX3_mark_RX3 hown hK hP 0 rfl rfl 14 (by decide) (hts _ lkX3_mark_41) (fun _ h9 => h9) rfl dX3_mark_10 ?_
    refine lv_iload_n hx hb dX3_mark_13 rfl (lv_at hl 2 rfl) ?_
    refine lv_iconst (v := 1) hx hb dX3_mark_14 (by decide +kernel) ?_
    refine g_zast (n := 60) (f := (u 10)) (u' := (mS u 10 (upd (u 10) j 1))) hx hb hK hP hD hS 11 1 (MW_get_10 _) rfl j (by omega) (by omega) hj2 rfl (MW_set_10 _ _) dX3_mark_15 (fun H locs hP hD hS => ?_)
    refine g_vret (u1 := (mS u 10 (upd (u 10) j 1))) hx hb hret hlk hQ hP hD hS dX3_mark_16 ?_ ?_
    · exact rfl
    · exact (by rw [show mMark n (u 3) 0 (u 10) p1 = (upd (u 10) j 1) from by unfold mMark; rw [if_neg c_6, hj2, nI_clamp (by omega)]] <;> exact (MW_ext (by refine ⟨?_, ?_, ?_, ?_, ?_, ?_, ?_, ?_, ?_, ?_, ?_, ?_, ?_, ?_, ?_, ?_, ?_, ?_⟩ <;> simp only [mS_at, ↓reduceIte, Nat.reduceEqDiff] <;> rfl)))
abbrev rmX3_mark_1 : Room := { frames := 3, cells := 0, slots := 0, locals := 65 }
set_option maxHeartbeats 4000000 in
set_option maxRecDepth 100000 in
theorem ctX3_mark_1 (l : Launch) (D : va_G) (cI cZ : ClassId) (q : Nat → Nat) (u : SM) (n : Nat) (hn : u 15 0 = nI n) (h60 : n ≤ 60) (p1 : Int32) : gM l yX3_mark wsX3_mark rmX3_mark_1 D [(cI, .int), (cZ, .boolean)] (MW cI cZ q) (fun _ => True) [.ref (q 0), .int 1, .int p1] u none (mS u 10 (mMark n (u 3) 1 (u 10) p1)) := by
  refine g_start (cc := cX3_mark) (maxL := 3) (ret := none) (by decide) rfl (Nat.le_of_ble_eq_true rfl) ?_
  intro p e s m below meth c A ls Q hx hb hml hret hts hown hlk hE hP hK hD hA hl hQ hS
  have hown : s.vm.findClass RX3 = some m.cls := hown
  have hl : lv_has ls 3 [(0, .ref (q 0)), (1, .int 1), (2, .int p1)] := hl
  refine lv_aload_n hx hb dX3_mark_0 rfl (lv_at hl 0 rfl) ?_
  refine lv_iload_n hx hb dX3_mark_1 rfl (lv_at hl 1 rfl) ?_
  refine lv_iload_n hx hb dX3_mark_2 rfl (lv_at hl 2 rfl) ?_
  refine g_callV (As := [.int 1, .int p1]) (rest := []) hx hb hml hown hts (ctX3_isIn_1 l D cI cZ q u n hn h60 p1) gX3_mark_X3_isIn rfl rfl rfl hdX3_isIn ⟨Nat.le_of_ble_eq_true rfl, Nat.le_of_ble_eq_true rfl⟩ gEM_true trivial hP hK hD hS hA 0 rfl rfl rfl hl.1 rfl (Nat.le_of_ble_eq_true rfl) dX3_mark_3 ⟨Nat.zero_le _, Nat.zero_le _⟩ (fun H locs hP hD hS => ?_)
  refine W.eq (g2 := F0 m 6 ls [.int (mHas n (u 3) 1 p1)]) rfl ?_
  refine lv_if_eq (tgt := 16) hx hb dX3_mark_6 (by decide) (fun c_6 => ?_) (fun c_6 => ?_)
  · refine g_vret (u1 := u) hx hb hret hlk hQ hP hD hS dX3_mark_16 ?_ ?_
    · exact rfl
    · exact (by rw [show mMark n (u 3) 1 (u 10) p1 = (u 10) from by unfold mMark; rw [if_pos c_6]] <;> exact (MW_ext (by refine ⟨?_, ?_, ?_, ?_, ?_, ?_, ?_, ?_, ?_, ?_, ?_, ?_, ?_, ?_, ?_, ?_, ?_, ?_⟩ <;> simp only [mS_at, ↓reduceIte, Nat.reduceEqDiff] <;> rfl)))
  · obtain ⟨j, hj, hj2⟩ := mHas_ne (by omega) c_6
    refine lv_aload_n hx hb dX3_mark_9 rfl (lv_at hl 0 rfl) ?_
    refine va_get (ci := 3) (v := .ref (q 11)) (C := RX3) (T := TX3) (N := 18) hx hb hts inX3_mark_RX3 hown hK hP 0 rfl rfl 14 (by decide) (hts _ lkX3_mark_41) (fun _ h9 => h9) rfl dX3_mark_10 ?_
    refine lv_iload_n hx hb dX3_mark_13 rfl (lv_at hl 2 rfl) ?_
    refine lv_iconst (v := 1) hx hb dX3_mark_14 (by decide +kernel) ?_
    refine g_zast (n := 60) (f := (u 10)) (u' := (mS u 10 (upd (u 10) j 1))) hx hb hK hP hD hS 11 1 (MW_get_10 _) rfl j (by omega) (by omega) hj2 rfl (MW_set_10 _ _) dX3_mark_15 (fun H locs hP hD hS => ?_)
    refine g_vret (u1 := (mS u 10 (upd (u 10) j 1))) hx hb hret hlk hQ hP hD hS dX3_mark_16 ?_ ?_
    · exact rfl
    · exact (by rw [show mMark n (u 3) 1 (u 10) p1 = (upd (u 10) j 1) from by unfold mMark; rw [if_neg c_6, hj2, nI_clamp (by omega)]] <;> exact (MW_ext (by refine ⟨?_, ?_, ?_, ?_, ?_, ?_, ?_, ?_, ?_, ?_, ?_, ?_, ?_, ?_, ?_, ?_, ?_, ?_⟩ <;> simp only [mS_at, ↓reduceIte, Nat.reduceEqDiff] <;> rfl)))
theorem lkX3_clear_41 : Cond.fieldLink RX3 41 "FetchHouseModel" "marks" "[Z" ∈ wsX3_clear := List.mem_of_getElem? (i := 1) (by decide +kernel)
theorem inX3_clear_RX3 : ∀ w ∈ u_ws RX3 TX3 18, w ∈ wsX3_clear := fun w h => List.mem_cons_of_mem _ (List.mem_append_right _ h)
abbrev rmX3_clear : Room := { frames := 0, cells := 0, slots := 0, locals := 0 }
set_option maxHeartbeats 4000000 in
set_option maxRecDepth 100000 in
theorem ctX3_clear (l : Launch) (D : va_G) (cI cZ : ClassId) (q : Nat → Nat) (u : SM)  : gM l yX3_clear wsX3_clear rmX3_clear D [(cI, .int), (cZ, .boolean)] (MW cI cZ q) (fun _ => True) [.ref (q 0)] u none (mS u 10 (mClr (u 10))) := by
  refine g_start (cc := cX3_clear) (maxL := 2) (ret := none) (by decide) rfl (Nat.le_of_ble_eq_true rfl) ?_
  intro p e s m below meth c A ls Q hx hb hml hret hts hown hlk hE hP hK hD hA hl hQ hS
  have hown : s.vm.findClass RX3 = some m.cls := hown
  have hl : lv_has ls 2 [(0, .ref (q 0))] := hl
  refine lv_iconst (v := (nI 0)) hx hb dX3_clear_0 (by decide +kernel) ?_
  refine lv_istore_n (lv' := [(1, .int (nI 0)), (0, .ref (q 0))]) hx hb dX3_clear_1 rfl hl (by decide) rfl (fun ls hl => ?_)
  have loop : ∀ (d k : Nat) (mk : Nat → Int32) (H : Heap) (locs : List Loc) (ls : Array Slot) (hP : va_P D vwCl (MW cI cZ q (mS u 10 mk)) H) (hD : va_D A (MW cI cZ q (mS u 10 mk))) (hS : va_S A s.heap H locs) (hl : lv_has ls 2 [(0, .ref (q 0)), (1, .int (nI k))]) (hk : k + d = 60) (hr : itU xClrStep d k mk = mClr (u 10)), W p l e rmX3_clear s m ([.ref (q 0)] : List Value).toArray below meth c H locs 0 0 Q (F0 m 2 ls []) := by
    intro d
    induction d with
    | zero =>
      intro k mk H locs ls hP hD hS hl hk hr
      refine lv_iload_n hx hb dX3_clear_2 rfl (lv_at hl 1 rfl) ?_
      refine lv_bipush (v := 60) hx hb dX3_clear_3 (by decide +kernel) ?_
      refine lv_icmp_ge (tgt := 21) hx hb dX3_clear_5 (by decide) (fun c_5 => ?_) (fun c_5 => ?_)
      · have n_5 : 60 ≤ k := (g_leI (a := 60) (b := k) rfl rfl (by decide) (by omega)).mp c_5
        refine g_vret (u1 := (mS u 10 mk)) hx hb hret hlk hQ hP hD hS dX3_clear_21 ?_ ?_
        · exact rfl
        · exact (by rw [← hr] <;> exact (MW_ext (by refine ⟨?_, ?_, ?_, ?_, ?_, ?_, ?_, ?_, ?_, ?_, ?_, ?_, ?_, ?_, ?_, ?_, ?_, ?_⟩ <;> simp only [mS_at, ↓reduceIte, Nat.reduceEqDiff] <;> rfl)))
      · have n_5 : ¬ 60 ≤ k := fun h => c_5 ((g_leI (a := 60) (b := k) rfl rfl (by decide) (by omega)).mpr h)
        exfalso; omega
    | succ d ih =>
      intro k mk H locs ls hP hD hS hl hk hr
      refine lv_iload_n hx hb dX3_clear_2 rfl (lv_at hl 1 rfl) ?_
      refine lv_bipush (v := 60) hx hb dX3_clear_3 (by decide +kernel) ?_
      refine lv_icmp_ge (tgt := 21) hx hb dX3_clear_5 (by decide) (fun c_5 => ?_) (fun c_5 => ?_)
      · have n_5 : 60 ≤ k := (g_leI (a := 60) (b := k) rfl rfl (by decide) (by omega)).mp c_5
        exfalso; omega
      · have n_5 : ¬ 60 ≤ k := fun h => c_5 ((g_leI (a := 60) (b := k) rfl rfl (by decide) (by omega)).mpr h)
        refine lv_aload_n hx hb dX3_clear_8 rfl (lv_at hl 0 rfl) ?_
        refine va_get (ci := 3) (v := .ref (q 11)) (C := RX3) (T := TX3) (N := 18) hx hb hts inX3_clear_RX3 hown hK hP 0 rfl rfl 14 (by decide) (hts _ lkX3_clear_41) (fun _ h9 => h9) rfl dX3_clear_9 ?_
        refine lv_iload_n hx hb dX3_clear_12 rfl (lv_at hl 1 rfl) ?_
        refine lv_iconst (v := 0) hx hb dX3_clear_13 (by decide +kernel) ?_
        refine g_zast (n := 60) (f := mk) (u' := (mS (mS u 10 mk) 10 (upd mk k 0))) hx hb hK hP hD hS 11 1 (by rw [MW_get_10, show (mS u 10 mk) 10 = mk from by simp only [mS_at, ↓reduceIte, Nat.reduceEqDiff]]) rfl k (by omega) (by omega) rfl rfl (MW_set_10 _ _) dX3_clear_14 (fun H locs hP hD hS => ?_)
        refine lv_iinc (v := (nI (k + 1))) (lv' := [(1, .int (nI (k + 1))), (0, .ref (q 0))]) hx hb dX3_clear_15 hl (k := 1) rfl (nI_1 _) (by decide) rfl (fun ls hl => ?_)
        refine lv_goto (tgt := 2) hx hb dX3_clear_18 (by decide) ?_
        rw [show MW cI cZ q (mS (mS u 10 mk) 10 (upd mk k 0)) = MW cI cZ q (mS u 10 (upd mk k 0)) from (MW_ext (by refine ⟨?_, ?_, ?_, ?_, ?_, ?_, ?_, ?_, ?_, ?_, ?_, ?_, ?_, ?_, ?_, ?_, ?_, ?_⟩ <;> simp only [mS_at, ↓reduceIte, Nat.reduceEqDiff] <;> rfl))] at hP hD
        exact ih (k + 1) (upd mk k 0) _ _ _ hP hD hS (lv_sub hl [1, 0] rfl) (by omega) (by rw [← hr]; rfl)
  rw [show MW cI cZ q u = MW cI cZ q (mS u 10 (u 10)) from (MW_ext (by refine ⟨?_, ?_, ?_, ?_, ?_, ?_, ?_, ?_, ?_, ?_, ?_, ?_, ?_, ?_, ?_, ?_, ?_, ?_⟩ <;> simp only [mS_at, ↓reduceIte, Nat.reduceEqDiff] <;> rfl))] at hP hD
  exact loop 60 0 (u 10) _ _ _ hP hD hS (lv_sub hl [1, 0] rfl) (by omega) (opq_eq _).symm
theorem lkX3_markOn_13 : Cond.fieldLink RX3 13 "FetchHouseModel" "seconds" "[I" ∈ wsX3_markOn := List.mem_of_getElem? (i := 4) (by decide +kernel)
theorem lkX3_markOn_41 : Cond.fieldLink RX3 41 "FetchHouseModel" "marks" "[Z" ∈ wsX3_markOn := List.mem_of_getElem? (i := 2) (by decide +kernel)
theorem lkX3_markOn_61 : Cond.fieldLink RX3 61 "FetchHouseModel" "made" "I" ∈ wsX3_markOn := List.mem_of_getElem? (i := 1) (by decide +kernel)
theorem lkX3_markOn_7 : Cond.fieldLink RX3 7 "FetchHouseModel" "firsts" "[I" ∈ wsX3_markOn := List.mem_of_getElem? (i := 3) (by decide +kernel)
theorem inX3_markOn_RX3 : ∀ w ∈ u_ws RX3 TX3 18, w ∈ wsX3_markOn := fun w h => List.mem_cons_of_mem _ (List.mem_append_right _ h)
abbrev rmX3_markOn_0 : Room := { frames := 4, cells := 0, slots := 0, locals := 87 }
set_option maxHeartbeats 4000000 in
set_option maxRecDepth 100000 in
theorem ctX3_markOn_0 (l : Launch) (D : va_G) (cI cZ : ClassId) (q : Nat → Nat) (u : SM) (n : Nat) (hn : u 15 0 = nI n) (h60 : n ≤ 60) : gM l yX3_markOn wsX3_markOn rmX3_markOn_0 D [(cI, .int), (cZ, .boolean)] (MW cI cZ q) (fun _ => True) [.ref (q 0), .int 0] u none (mS u 10 (mOn0 n (u 3) (u 0) (u 1) (u 10))) := by
  refine g_start (cc := cX3_markOn) (maxL := 3) (ret := none) (by decide) rfl (Nat.le_of_ble_eq_true rfl) ?_
  intro p e s m below meth c A ls Q hx hb hml hret hts hown hlk hE hP hK hD hA hl hQ hS
  have hown : s.vm.findClass RX3 = some m.cls := hown
  have hl : lv_has ls 3 [(0, .ref (q 0)), (1, .int 0)] := hl
  refine lv_aload_n hx hb dX3_markOn_0 rfl (lv_at hl 0 rfl) ?_
  refine va_get (ci := 3) (v := .int (nI n)) (C := RX3) (T := TX3) (N := 18) hx hb hts inX3_markOn_RX3 hown hK hP 0 rfl rfl 1 (by decide) (hts _ lkX3_markOn_61) (fun _ h9 => h9) (congrArg (fun z => some (Value.int z)) hn) dX3_markOn_1 ?_
  refine lv_iconst (v := 1) hx hb dX3_markOn_4 (by decide +kernel) ?_
  refine lv_isub hx hb dX3_markOn_5 ?_
  refine lv_istore_n (lv' := [(2, .int ((nI n) - 1)), (0, .ref (q 0)), (1, .int 0)]) hx hb dX3_markOn_6 rfl hl (by decide) rfl (fun ls hl => ?_)
  have loop : ∀ (d : Nat) (mk : Nat → Int32) (H : Heap) (locs : List Loc) (ls : Array Slot) (hP : va_P D vwCl (MW cI cZ q (mS u 10 mk)) H) (hD : va_D A (MW cI cZ q (mS u 10 mk))) (hS : va_S A s.heap H locs) (hl : lv_has ls 3 [(0, .ref (q 0)), (1, .int 0), (2, .int (nI d - 1))]) (hd : d ≤ n) (hr : itD (mOnStep0 n (u 3) (u 0) (u 1)) d mk = (mOn0 n (u 3) (u 0) (u 1) (u 10))), W p l e rmX3_markOn_0 s m ([.ref (q 0), .int 0] : List Value).toArray below meth c H locs 0 0 Q (F0 m 7 ls []) := by
    intro d
    induction d with
    | zero =>
      intro mk H locs ls hP hD hS hl hd hr
      refine lv_iload_n hx hb dX3_markOn_7 rfl (lv_at hl 2 rfl) ?_
      refine lv_if_lt (tgt := 61) hx hb dX3_markOn_8 (by decide) (fun c_8 => ?_) (fun c_8 => ?_)
      · refine g_vret (u1 := (mS u 10 mk)) hx hb hret hlk hQ hP hD hS dX3_markOn_61 ?_ ?_
        · exact rfl
        · exact (by rw [← hr] <;> exact (MW_ext (by refine ⟨?_, ?_, ?_, ?_, ?_, ?_, ?_, ?_, ?_, ?_, ?_, ?_, ?_, ?_, ?_, ?_, ?_, ?_⟩ <;> simp only [mS_at, ↓reduceIte, Nat.reduceEqDiff] <;> rfl)))
      · exact absurd (by decide +kernel) c_8
    | succ d ih =>
      intro mk H locs ls hP hD hS hl hd hr
      rw [nI_pred] at hl
      refine lv_iload_n hx hb dX3_markOn_7 rfl (lv_at hl 2 rfl) ?_
      refine lv_if_lt (tgt := 61) hx hb dX3_markOn_8 (by decide) (fun c_8 => ?_) (fun c_8 => ?_)
      · exact absurd c_8 (nI_pos (by omega))
      · refine lv_aload_n hx hb dX3_markOn_11 rfl (lv_at hl 0 rfl) ?_
        refine va_get (ci := 3) (v := .ref (q 11)) (C := RX3) (T := TX3) (N := 18) hx hb hts inX3_markOn_RX3 hown hK hP 0 rfl rfl 14 (by decide) (hts _ lkX3_markOn_41) (fun _ h9 => h9) rfl dX3_markOn_12 ?_
        refine lv_iload_n hx hb dX3_markOn_15 rfl (lv_at hl 2 rfl) ?_
        refine g_zald (n := 60) (f := mk) hx hb hK hP 11 1 (by rw [MW_get_10, show (mS u 10 mk) 10 = mk from by simp only [mS_at, ↓reduceIte, Nat.reduceEqDiff]]) rfl d (by omega) (by omega) rfl dX3_markOn_16 ?_
        refine lv_if_eq (tgt := 55) hx hb dX3_markOn_17 (by decide) (fun c_17 => ?_) (fun c_17 => ?_)
        · refine lv_iinc (v := ((nI d) - 1)) (lv' := [(2, .int ((nI d) - 1)), (0, .ref (q 0)), (1, .int 0)]) hx hb dX3_markOn_55 hl (k := 2) rfl (g_dec1 _) (by decide) rfl (fun ls hl => ?_)
          refine lv_goto (tgt := 7) hx hb dX3_markOn_58 (by decide) ?_
          exact ih mk _ _ _ hP hD hS (lv_sub hl [1, 2, 0] rfl) (by omega) (by rw [← hr]; show _ = itD _ d (mOnStep0 _ _ _ _ d mk); rw [show mOnStep0 n (u 3) (u 0) (u 1) d mk = mk from by simp only [mOnStep0, c_8, c_17, ↓reduceIte, not_true_eq_false, not_false_eq_true]])
        · refine lv_iload_n hx hb dX3_markOn_20 rfl (lv_at hl 1 rfl) ?_
          refine lv_iconst (v := 1) hx hb dX3_markOn_21 (by decide +kernel) ?_
          refine lv_icmp_ne (tgt := 33) hx hb dX3_markOn_22 (by decide) (fun c_22 => ?_) (fun c_22 => ?_)
          · have n_22 : ¬ 0 = 1 := fun h => c_22 ((g_eqI (a := 0) (b := 1) rfl rfl (by decide) (by decide)).mpr h)
            refine lv_aload_n hx hb dX3_markOn_33 rfl (lv_at hl 0 rfl) ?_
            refine lv_iload_n hx hb dX3_markOn_34 rfl (lv_at hl 1 rfl) ?_
            refine lv_aload_n hx hb dX3_markOn_35 rfl (lv_at hl 0 rfl) ?_
            refine va_get (ci := 3) (v := .ref (q 1)) (C := RX3) (T := TX3) (N := 18) hx hb hts inX3_markOn_RX3 hown hK hP 0 rfl rfl 2 (by decide) (hts _ lkX3_markOn_7) (fun _ h9 => h9) rfl dX3_markOn_36 ?_
            refine lv_iload_n hx hb dX3_markOn_39 rfl (lv_at hl 2 rfl) ?_
            refine g_iald (n := 60) (f := (u 0)) hx hb hK hP 1 0 (by rw [MW_get_0, show (mS u 10 mk) 0 = (u 0) from by simp only [mS_at, ↓reduceIte, Nat.reduceEqDiff]]) rfl d (by omega) (by omega) rfl dX3_markOn_40 ?_
            refine g_callV (As := [.int 0, .int ((u 0) d)]) (rest := []) hx hb hml hown hts (ctX3_mark_0 l D cI cZ q (mS u 10 mk) n hn h60 ((u 0) d)) gX3_markOn_X3_mark rfl rfl rfl hdX3_mark ⟨Nat.le_of_ble_eq_true rfl, Nat.le_of_ble_eq_true rfl⟩ gEM_true trivial hP hK hD hS hA 0 rfl rfl rfl hl.1 rfl (Nat.le_of_ble_eq_true rfl) dX3_markOn_41 ⟨Nat.zero_le _, Nat.zero_le _⟩ (fun H locs hP hD hS => ?_)
            obtain ⟨hP, hD⟩ := g_toPD hP hD (MW_ext (Y := (mS (mS u 10 mk) 10 (mMark n (u 3) 0 mk ((u 0) d)))) (by refine ⟨?_, ?_, ?_, ?_, ?_, ?_, ?_, ?_, ?_, ?_, ?_, ?_, ?_, ?_, ?_, ?_, ?_, ?_⟩ <;> simp only [mS_at, ↓reduceIte, Nat.reduceEqDiff] <;> rfl))
            refine W.eq (g2 := F0 m 44 ls []) rfl ?_
            refine lv_aload_n hx hb dX3_markOn_44 rfl (lv_at hl 0 rfl) ?_
            refine lv_iload_n hx hb dX3_markOn_45 rfl (lv_at hl 1 rfl) ?_
            refine lv_aload_n hx hb dX3_markOn_46 rfl (lv_at hl 0 rfl) ?_
            refine va_get (ci := 3) (v := .ref (q 2)) (C := RX3) (T := TX3) (N := 18) hx hb hts inX3_markOn_RX3 hown hK hP 0 rfl rfl 3 (by decide) (hts _ lkX3_markOn_13) (fun _ h9 => h9) rfl dX3_markOn_47 ?_
            refine lv_iload_n hx hb dX3_markOn_50 rfl (lv_at hl 2 rfl) ?_
            refine g_iald (n := 60) (f := (u 1)) hx hb hK hP 2 0 (by rw [MW_get_1, show (mS (mS u 10 mk) 10 (mMark n (u 3) 0 mk ((u 0) d))) 1 = (u 1) from by simp only [mS_at, ↓reduceIte, Nat.reduceEqDiff]]) rfl d (by omega) (by omega) rfl dX3_markOn_51 ?_
            refine g_callV (As := [.int 0, .int ((u 1) d)]) (rest := []) hx hb hml hown hts (ctX3_mark_0 l D cI cZ q (mS (mS u 10 mk) 10 (mMark n (u 3) 0 mk ((u 0) d))) n hn h60 ((u 1) d)) gX3_markOn_X3_mark rfl rfl rfl hdX3_mark ⟨Nat.le_of_ble_eq_true rfl, Nat.le_of_ble_eq_true rfl⟩ gEM_true trivial hP hK hD hS hA 0 rfl rfl rfl hl.1 rfl (Nat.le_of_ble_eq_true rfl) dX3_markOn_52 ⟨Nat.zero_le _, Nat.zero_le _⟩ (fun H locs hP hD hS => ?_)
            obtain ⟨hP, hD⟩ := g_toPD hP hD (MW_ext (Y := (mS (mS (mS u 10 mk) 10 (mMark n (u 3) 0 mk ((u 0) d))) 10 (mMark n (u 3) 0 (mMark n (u 3) 0 mk ((u 0) d)) ((u 1) d)))) (by refine ⟨?_, ?_, ?_, ?_, ?_, ?_, ?_, ?_, ?_, ?_, ?_, ?_, ?_, ?_, ?_, ?_, ?_, ?_⟩ <;> simp only [mS_at, ↓reduceIte, Nat.reduceEqDiff] <;> rfl))
            refine W.eq (g2 := F0 m 55 ls []) rfl ?_
            refine lv_iinc (v := ((nI d) - 1)) (lv' := [(2, .int ((nI d) - 1)), (0, .ref (q 0)), (1, .int 0)]) hx hb dX3_markOn_55 hl (k := 2) rfl (g_dec1 _) (by decide) rfl (fun ls hl => ?_)
            refine lv_goto (tgt := 7) hx hb dX3_markOn_58 (by decide) ?_
            rw [show MW cI cZ q (mS (mS (mS u 10 mk) 10 (mMark n (u 3) 0 mk ((u 0) d))) 10 (mMark n (u 3) 0 (mMark n (u 3) 0 mk ((u 0) d)) ((u 1) d))) = MW cI cZ q (mS u 10 (mMark n (u 3) 0 (mMark n (u 3) 0 mk ((u 0) d)) ((u 1) d))) from (MW_ext (by refine ⟨?_, ?_, ?_, ?_, ?_, ?_, ?_, ?_, ?_, ?_, ?_, ?_, ?_, ?_, ?_, ?_, ?_, ?_⟩ <;> simp only [mS_at, ↓reduceIte, Nat.reduceEqDiff] <;> rfl))] at hP hD
            exact ih (mMark n (u 3) 0 (mMark n (u 3) 0 mk ((u 0) d)) ((u 1) d)) _ _ _ hP hD hS (lv_sub hl [1, 2, 0] rfl) (by omega) (by rw [← hr]; show _ = itD _ d (mOnStep0 _ _ _ _ d mk); rw [show mOnStep0 n (u 3) (u 0) (u 1) d mk = (mMark n (u 3) 0 (mMark n (u 3) 0 mk ((u 0) d)) ((u 1) d)) from by simp only [mOnStep0, c_8, c_17, c_22, ↓reduceIte, not_true_eq_false, not_false_eq_true]])
          · have n_22 : 0 = 1 := (g_eqI (a := 0) (b := 1) rfl rfl (by decide) (by decide)).mp c_22
            exact absurd c_22 (by decide)
  rw [show MW cI cZ q u = MW cI cZ q (mS u 10 (u 10)) from (MW_ext (by refine ⟨?_, ?_, ?_, ?_, ?_, ?_, ?_, ?_, ?_, ?_, ?_, ?_, ?_, ?_, ?_, ?_, ?_, ?_⟩ <;> simp only [mS_at, ↓reduceIte, Nat.reduceEqDiff] <;> rfl))] at hP hD
  exact loop n (u 10) _ _ _ hP hD hS (lv_sub hl [1, 2, 0] rfl) (by omega) rfl
abbrev rmX3_markOn_1 : Room := { frames := 5, cells := 0, slots := 0, locals := 108 }
set_option maxHeartbeats 4000000 in
set_option maxRecDepth 100000 in
theorem ctX3_markOn_1 (l : Launch) (D : va_G) (cI cZ : ClassId) (q : Nat → Nat) (u : SM) (n : Nat) (hn : u 15 0 = nI n) (h60 : n ≤ 60) : gM l yX3_markOn wsX3_markOn rmX3_markOn_1 D [(cI, .int), (cZ, .boolean)] (MW cI cZ q) (fun _ => True) [.ref (q 0), .int 1] u none (mS u 10 (mOn1 n (u 3) (u 0) (u 1) (u 10))) := by
  refine g_start (cc := cX3_markOn) (maxL := 3) (ret := none) (by decide) rfl (Nat.le_of_ble_eq_true rfl) ?_
  intro p e s m below meth c A ls Q hx hb hml hret hts hown hlk hE hP hK hD hA hl hQ hS
  have hown : s.vm.findClass RX3 = some m.cls := hown
  have hl : lv_has ls 3 [(0, .ref (q 0)), (1, .int 1)] := hl
  refine lv_aload_n hx hb dX3_markOn_0 rfl (lv_at hl 0 rfl) ?_
  refine va_get (ci := 3) (v := .int (nI n)) (C := RX3) (T := TX3) (N := 18) hx hb hts inX3_markOn_RX3 hown hK hP 0 rfl rfl 1 (by decide) (hts _ lkX3_markOn_61) (fun _ h9 => h9) (congrArg (fun z => some (Value.int z)) hn) dX3_markOn_1 ?_
  refine lv_iconst (v := 1) hx hb dX3_markOn_4 (by decide +kernel) ?_
  refine lv_isub hx hb dX3_markOn_5 ?_
  refine lv_istore_n (lv' := [(2, .int ((nI n) - 1)), (0, .ref (q 0)), (1, .int 1)]) hx hb dX3_markOn_6 rfl hl (by decide) rfl (fun ls hl => ?_)
  have loop : ∀ (d : Nat) (mk : Nat → Int32) (H : Heap) (locs : List Loc) (ls : Array Slot) (hP : va_P D vwCl (MW cI cZ q (mS u 10 mk)) H) (hD : va_D A (MW cI cZ q (mS u 10 mk))) (hS : va_S A s.heap H locs) (hl : lv_has ls 3 [(0, .ref (q 0)), (1, .int 1), (2, .int (nI d - 1))]) (hd : d ≤ n) (hr : itD (mOnStep1 n (u 3) (u 0) (u 1)) d mk = (mOn1 n (u 3) (u 0) (u 1) (u 10))), W p l e rmX3_markOn_1 s m ([.ref (q 0), .int 1] : List Value).toArray below meth c H locs 0 0 Q (F0 m 7 ls []) := by
    intro d
    induction d with
    | zero =>
      intro mk H locs ls hP hD hS hl hd hr
      refine lv_iload_n hx hb dX3_markOn_7 rfl (lv_at hl 2 rfl) ?_
      refine lv_if_lt (tgt := 61) hx hb dX3_markOn_8 (by decide) (fun c_8 => ?_) (fun c_8 => ?_)
      · refine g_vret (u1 := (mS u 10 mk)) hx hb hret hlk hQ hP hD hS dX3_markOn_61 ?_ ?_
        · exact rfl
        · exact (by rw [← hr] <;> exact (MW_ext (by refine ⟨?_, ?_, ?_, ?_, ?_, ?_, ?_, ?_, ?_, ?_, ?_, ?_, ?_, ?_, ?_, ?_, ?_, ?_⟩ <;> simp only [mS_at, ↓reduceIte, Nat.reduceEqDiff] <;> rfl)))
      · exact absurd (by decide +kernel) c_8
    | succ d ih =>
      intro mk H locs ls hP hD hS hl hd hr
      rw [nI_pred] at hl
      refine lv_iload_n hx hb dX3_markOn_7 rfl (lv_at hl 2 rfl) ?_
      refine lv_if_lt (tgt := 61) hx hb dX3_markOn_8 (by decide) (fun c_8 => ?_) (fun c_8 => ?_)
      · exact absurd c_8 (nI_pos (by omega))
      · refine lv_aload_n hx hb dX3_markOn_11 rfl (lv_at hl 0 rfl) ?_
        refine va_get (ci := 3) (v := .ref (q 11)) (C := RX3) (T := TX3) (N := 18) hx hb hts inX3_markOn_RX3 hown hK hP 0 rfl rfl 14 (by decide) (hts _ lkX3_markOn_41) (fun _ h9 => h9) rfl dX3_markOn_12 ?_
        refine lv_iload_n hx hb dX3_markOn_15 rfl (lv_at hl 2 rfl) ?_
        refine g_zald (n := 60) (f := mk) hx hb hK hP 11 1 (by rw [MW_get_10, show (mS u 10 mk) 10 = mk from by simp only [mS_at, ↓reduceIte, Nat.reduceEqDiff]]) rfl d (by omega) (by omega) rfl dX3_markOn_16 ?_
        refine lv_if_eq (tgt := 55) hx hb dX3_markOn_17 (by decide) (fun c_17 => ?_) (fun c_17 => ?_)
        · refine lv_iinc (v := ((nI d) - 1)) (lv' := [(2, .int ((nI d) - 1)), (0, .ref (q 0)), (1, .int 1)]) hx hb dX3_markOn_55 hl (k := 2) rfl (g_dec1 _) (by decide) rfl (fun ls hl => ?_)
          refine lv_goto (tgt := 7) hx hb dX3_markOn_58 (by decide) ?_
          exact ih mk _ _ _ hP hD hS (lv_sub hl [1, 2, 0] rfl) (by omega) (by rw [← hr]; show _ = itD _ d (mOnStep1 _ _ _ _ d mk); rw [show mOnStep1 n (u 3) (u 0) (u 1) d mk = mk from by simp only [mOnStep1, c_8, c_17, ↓reduceIte, not_true_eq_false, not_false_eq_true]])
        · refine lv_iload_n hx hb dX3_markOn_20 rfl (lv_at hl 1 rfl) ?_
          refine lv_iconst (v := 1) hx hb dX3_markOn_21 (by decide +kernel) ?_
          refine lv_icmp_ne (tgt := 33) hx hb dX3_markOn_22 (by decide) (fun c_22 => ?_) (fun c_22 => ?_)
          · have n_22 : ¬ 1 = 1 := fun h => c_22 ((g_eqI (a := 1) (b := 1) rfl rfl (by decide) (by decide)).mpr h)
            exact absurd rfl c_22
          · have n_22 : 1 = 1 := (g_eqI (a := 1) (b := 1) rfl rfl (by decide) (by decide)).mp c_22
            refine lv_aload_n hx hb dX3_markOn_25 rfl (lv_at hl 0 rfl) ?_
            refine lv_iload_n hx hb dX3_markOn_26 rfl (lv_at hl 2 rfl) ?_
            refine g_callV (As := [.int (nI d)]) (rest := []) hx hb hml hown hts (ctX3_shallow l D cI cZ q (mS u 10 mk) n hn h60 d (by omega)) gX3_markOn_X3_shallow rfl rfl rfl hdX3_shallow ⟨Nat.le_of_ble_eq_true rfl, Nat.le_of_ble_eq_true rfl⟩ gEM_true trivial hP hK hD hS hA 0 rfl rfl rfl hl.1 rfl (Nat.le_of_ble_eq_true rfl) dX3_markOn_27 ⟨Nat.zero_le _, Nat.zero_le _⟩ (fun H locs hP hD hS => ?_)
            refine W.eq (g2 := F0 m 30 ls [.int (mShal n (u 3) (u 0) (u 1) d)]) rfl ?_
            refine lv_if_ne (tgt := 55) hx hb dX3_markOn_30 (by decide) (fun c_30 => ?_) (fun c_30 => ?_)
            · refine lv_iinc (v := ((nI d) - 1)) (lv' := [(2, .int ((nI d) - 1)), (0, .ref (q 0)), (1, .int 1)]) hx hb dX3_markOn_55 hl (k := 2) rfl (g_dec1 _) (by decide) rfl (fun ls hl => ?_)
              refine lv_goto (tgt := 7) hx hb dX3_markOn_58 (by decide) ?_
              exact ih mk _ _ _ hP hD hS (lv_sub hl [1, 2, 0] rfl) (by omega) (by rw [← hr]; show _ = itD _ d (mOnStep1 _ _ _ _ d mk); rw [show mOnStep1 n (u 3) (u 0) (u 1) d mk = mk from by simp only [mOnStep1, c_8, c_17, c_22, c_30, ↓reduceIte, not_true_eq_false, not_false_eq_true]])
            · refine lv_aload_n hx hb dX3_markOn_33 rfl (lv_at hl 0 rfl) ?_
              refine lv_iload_n hx hb dX3_markOn_34 rfl (lv_at hl 1 rfl) ?_
              refine lv_aload_n hx hb dX3_markOn_35 rfl (lv_at hl 0 rfl) ?_
              refine va_get (ci := 3) (v := .ref (q 1)) (C := RX3) (T := TX3) (N := 18) hx hb hts inX3_markOn_RX3 hown hK hP 0 rfl rfl 2 (by decide) (hts _ lkX3_markOn_7) (fun _ h9 => h9) rfl dX3_markOn_36 ?_
              refine lv_iload_n hx hb dX3_markOn_39 rfl (lv_at hl 2 rfl) ?_
              refine g_iald (n := 60) (f := (u 0)) hx hb hK hP 1 0 (by rw [MW_get_0, show (mS u 10 mk) 0 = (u 0) from by simp only [mS_at, ↓reduceIte, Nat.reduceEqDiff]]) rfl d (by omega) (by omega) rfl dX3_markOn_40 ?_
              refine g_callV (As := [.int 1, .int ((u 0) d)]) (rest := []) hx hb hml hown hts (ctX3_mark_1 l D cI cZ q (mS u 10 mk) n hn h60 ((u 0) d)) gX3_markOn_X3_mark rfl rfl rfl hdX3_mark ⟨Nat.le_of_ble_eq_true rfl, Nat.le_of_ble_eq_true rfl⟩ gEM_true trivial hP hK hD hS hA 0 rfl rfl rfl hl.1 rfl (Nat.le_of_ble_eq_true rfl) dX3_markOn_41 ⟨Nat.zero_le _, Nat.zero_le _⟩ (fun H locs hP hD hS => ?_)
              obtain ⟨hP, hD⟩ := g_toPD hP hD (MW_ext (Y := (mS (mS u 10 mk) 10 (mMark n (u 3) 1 mk ((u 0) d)))) (by refine ⟨?_, ?_, ?_, ?_, ?_, ?_, ?_, ?_, ?_, ?_, ?_, ?_, ?_, ?_, ?_, ?_, ?_, ?_⟩ <;> simp only [mS_at, ↓reduceIte, Nat.reduceEqDiff] <;> rfl))
              refine W.eq (g2 := F0 m 44 ls []) rfl ?_
              refine lv_aload_n hx hb dX3_markOn_44 rfl (lv_at hl 0 rfl) ?_
              refine lv_iload_n hx hb dX3_markOn_45 rfl (lv_at hl 1 rfl) ?_
              refine lv_aload_n hx hb dX3_markOn_46 rfl (lv_at hl 0 rfl) ?_
              refine va_get (ci := 3) (v := .ref (q 2)) (C := RX3) (T := TX3) (N := 18) hx hb hts inX3_markOn_RX3 hown hK hP 0 rfl rfl 3 (by decide) (hts _ lkX3_markOn_13) (fun _ h9 => h9) rfl dX3_markOn_47 ?_
              refine lv_iload_n hx hb dX3_markOn_50 rfl (lv_at hl 2 rfl) ?_
              refine g_iald (n := 60) (f := (u 1)) hx hb hK hP 2 0 (by rw [MW_get_1, show (mS (mS u 10 mk) 10 (mMark n (u 3) 1 mk ((u 0) d))) 1 = (u 1) from by simp only [mS_at, ↓reduceIte, Nat.reduceEqDiff]]) rfl d (by omega) (by omega) rfl dX3_markOn_51 ?_
              refine g_callV (As := [.int 1, .int ((u 1) d)]) (rest := []) hx hb hml hown hts (ctX3_mark_1 l D cI cZ q (mS (mS u 10 mk) 10 (mMark n (u 3) 1 mk ((u 0) d))) n hn h60 ((u 1) d)) gX3_markOn_X3_mark rfl rfl rfl hdX3_mark ⟨Nat.le_of_ble_eq_true rfl, Nat.le_of_ble_eq_true rfl⟩ gEM_true trivial hP hK hD hS hA 0 rfl rfl rfl hl.1 rfl (Nat.le_of_ble_eq_true rfl) dX3_markOn_52 ⟨Nat.zero_le _, Nat.zero_le _⟩ (fun H locs hP hD hS => ?_)
              obtain ⟨hP, hD⟩ := g_toPD hP hD (MW_ext (Y := (mS (mS (mS u 10 mk) 10 (mMark n (u 3) 1 mk ((u 0) d))) 10 (mMark n (u 3) 1 (mMark n (u 3) 1 mk ((u 0) d)) ((u 1) d)))) (by refine ⟨?_, ?_, ?_, ?_, ?_, ?_, ?_, ?_, ?_, ?_, ?_, ?_, ?_, ?_, ?_, ?_, ?_, ?_⟩ <;> simp only [mS_at, ↓reduceIte, Nat.reduceEqDiff] <;> rfl))
              refine W.eq (g2 := F0 m 55 ls []) rfl ?_
              refine lv_iinc (v := ((nI d) - 1)) (lv' := [(2, .int ((nI d) - 1)), (0, .ref (q 0)), (1, .int 1)]) hx hb dX3_markOn_55 hl (k := 2) rfl (g_dec1 _) (by decide) rfl (fun ls hl => ?_)
              refine lv_goto (tgt := 7) hx hb dX3_markOn_58 (by decide) ?_
              rw [show MW cI cZ q (mS (mS (mS u 10 mk) 10 (mMark n (u 3) 1 mk ((u 0) d))) 10 (mMark n (u 3) 1 (mMark n (u 3) 1 mk ((u 0) d)) ((u 1) d))) = MW cI cZ q (mS u 10 (mMark n (u 3) 1 (mMark n (u 3) 1 mk ((u 0) d)) ((u 1) d))) from (MW_ext (by refine ⟨?_, ?_, ?_, ?_, ?_, ?_, ?_, ?_, ?_, ?_, ?_, ?_, ?_, ?_, ?_, ?_, ?_, ?_⟩ <;> simp only [mS_at, ↓reduceIte, Nat.reduceEqDiff] <;> rfl))] at hP hD
              exact ih (mMark n (u 3) 1 (mMark n (u 3) 1 mk ((u 0) d)) ((u 1) d)) _ _ _ hP hD hS (lv_sub hl [1, 2, 0] rfl) (by omega) (by rw [← hr]; show _ = itD _ d (mOnStep1 _ _ _ _ d mk); rw [show mOnStep1 n (u 3) (u 0) (u 1) d mk = (mMark n (u 3) 1 (mMark n (u 3) 1 mk ((u 0) d)) ((u 1) d)) from by simp only [mOnStep1, c_8, c_17, c_22, c_30, ↓reduceIte, not_true_eq_false, not_false_eq_true]])
  rw [show MW cI cZ q u = MW cI cZ q (mS u 10 (u 10)) from (MW_ext (by refine ⟨?_, ?_, ?_, ?_, ?_, ?_, ?_, ?_, ?_, ?_, ?_, ?_, ?_, ?_, ?_, ?_, ?_, ?_⟩ <;> simp only [mS_at, ↓reduceIte, Nat.reduceEqDiff] <;> rfl))] at hP hD
  exact loop n (u 10) _ _ _ hP hD hS (lv_sub hl [1, 2, 0] rfl) (by omega) rfl
theorem inX3_markFrom_RX3 : ∀ w ∈ u_ws RX3 TX3 18, w ∈ wsX3_markFrom := fun w h => List.mem_cons_of_mem _ (List.mem_append_right _ h)
abbrev rmX3_markFrom_0 : Room := { frames := 6, cells := 0, slots := 0, locals := 130 }
set_option maxHeartbeats 4000000 in
set_option maxRecDepth 100000 in
theorem ctX3_markFrom_0 (l : Launch) (D : va_G) (cI cZ : ClassId) (q : Nat → Nat) (u : SM) (n : Nat) (hn : u 15 0 = nI n) (h60 : n ≤ 60) (p1 : Int32) : gM l yX3_markFrom wsX3_markFrom rmX3_markFrom_0 D [(cI, .int), (cZ, .boolean)] (MW cI cZ q) (fun _ => True) [.ref (q 0), .int 0, .int p1] u none (mS u 10 (mFrom0 n (u 3) (u 0) (u 1) (u 10) p1)) := by
  refine g_start (cc := cX3_markFrom) (maxL := 3) (ret := none) (by decide) rfl (Nat.le_of_ble_eq_true rfl) ?_
  intro p e s m below meth c A ls Q hx hb hml hret hts hown hlk hE hP hK hD hA hl hQ hS
  have hown : s.vm.findClass RX3 = some m.cls := hown
  have hl : lv_has ls 3 [(0, .ref (q 0)), (1, .int 0), (2, .int p1)] := hl
  refine lv_aload_n hx hb dX3_markFrom_0 rfl (lv_at hl 0 rfl) ?_
  refine g_callV (As := []) (rest := []) hx hb hml hown hts (ctX3_clear l D cI cZ q u) gX3_markFrom_X3_clear rfl rfl rfl hdX3_clear ⟨Nat.le_of_ble_eq_true rfl, Nat.le_of_ble_eq_true rfl⟩ gEM_true trivial hP hK hD hS hA 0 rfl rfl rfl hl.1 rfl (Nat.le_of_ble_eq_true rfl) dX3_markFrom_1 ⟨Nat.zero_le _, Nat.zero_le _⟩ (fun H locs hP hD hS => ?_)
  obtain ⟨hP, hD⟩ := g_toPD hP hD (MW_ext (Y := (mS u 10 (mClr (u 10)))) (by refine ⟨?_, ?_, ?_, ?_, ?_, ?_, ?_, ?_, ?_, ?_, ?_, ?_, ?_, ?_, ?_, ?_, ?_, ?_⟩ <;> simp only [mS_at, ↓reduceIte, Nat.reduceEqDiff] <;> rfl))
  refine W.eq (g2 := F0 m 4 ls []) rfl ?_
  refine lv_aload_n hx hb dX3_markFrom_4 rfl (lv_at hl 0 rfl) ?_
  refine lv_iload_n hx hb dX3_markFrom_5 rfl (lv_at hl 1 rfl) ?_
  refine lv_iload_n hx hb dX3_markFrom_6 rfl (lv_at hl 2 rfl) ?_
  refine g_callV (As := [.int 0, .int p1]) (rest := []) hx hb hml hown hts (ctX3_mark_0 l D cI cZ q (mS u 10 (mClr (u 10))) n hn h60 p1) gX3_markFrom_X3_mark rfl rfl rfl hdX3_mark ⟨Nat.le_of_ble_eq_true rfl, Nat.le_of_ble_eq_true rfl⟩ gEM_true trivial hP hK hD hS hA 0 rfl rfl rfl hl.1 rfl (Nat.le_of_ble_eq_true rfl) dX3_markFrom_7 ⟨Nat.zero_le _, Nat.zero_le _⟩ (fun H locs hP hD hS => ?_)
  obtain ⟨hP, hD⟩ := g_toPD hP hD (MW_ext (Y := (mS (mS u 10 (mClr (u 10))) 10 (mMark n (u 3) 0 (mClr (u 10)) p1))) (by refine ⟨?_, ?_, ?_, ?_, ?_, ?_, ?_, ?_, ?_, ?_, ?_, ?_, ?_, ?_, ?_, ?_, ?_, ?_⟩ <;> simp only [mS_at, ↓reduceIte, Nat.reduceEqDiff] <;> rfl))
  refine W.eq (g2 := F0 m 10 ls []) rfl ?_
  refine lv_aload_n hx hb dX3_markFrom_10 rfl (lv_at hl 0 rfl) ?_
  refine lv_iload_n hx hb dX3_markFrom_11 rfl (lv_at hl 1 rfl) ?_
  refine g_callV (As := [.int 0]) (rest := []) hx hb hml hown hts (ctX3_markOn_0 l D cI cZ q (mS (mS u 10 (mClr (u 10))) 10 (mMark n (u 3) 0 (mClr (u 10)) p1)) n hn h60) gX3_markFrom_X3_markOn rfl rfl rfl hdX3_markOn ⟨Nat.le_of_ble_eq_true rfl, Nat.le_of_ble_eq_true rfl⟩ gEM_true trivial hP hK hD hS hA 0 rfl rfl rfl hl.1 rfl (Nat.le_of_ble_eq_true rfl) dX3_markFrom_12 ⟨Nat.zero_le _, Nat.zero_le _⟩ (fun H locs hP hD hS => ?_)
  obtain ⟨hP, hD⟩ := g_toPD hP hD (MW_ext (Y := (mS (mS (mS u 10 (mClr (u 10))) 10 (mMark n (u 3) 0 (mClr (u 10)) p1)) 10 (mOn0 n (u 3) (u 0) (u 1) (mMark n (u 3) 0 (mClr (u 10)) p1)))) (by refine ⟨?_, ?_, ?_, ?_, ?_, ?_, ?_, ?_, ?_, ?_, ?_, ?_, ?_, ?_, ?_, ?_, ?_, ?_⟩ <;> simp only [mS_at, ↓reduceIte, Nat.reduceEqDiff] <;> rfl))
  refine W.eq (g2 := F0 m 15 ls []) rfl ?_
  refine g_vret (u1 := (mS (mS (mS u 10 (mClr (u 10))) 10 (mMark n (u 3) 0 (mClr (u 10)) p1)) 10 (mOn0 n (u 3) (u 0) (u 1) (mMark n (u 3) 0 (mClr (u 10)) p1)))) hx hb hret hlk hQ hP hD hS dX3_markFrom_15 ?_ ?_
  · exact rfl
  · exact (MW_ext (by refine ⟨?_, ?_, ?_, ?_, ?_, ?_, ?_, ?_, ?_, ?_, ?_, ?_, ?_, ?_, ?_, ?_, ?_, ?_⟩ <;> simp only [mS_at, ↓reduceIte, Nat.reduceEqDiff] <;> rfl))
abbrev rmX3_markFrom_1 : Room := { frames := 6, cells := 0, slots := 0, locals := 130 }
set_option maxHeartbeats 4000000 in
set_option maxRecDepth 100000 in
theorem ctX3_markFrom_1 (l : Launch) (D : va_G) (cI cZ : ClassId) (q : Nat → Nat) (u : SM) (n : Nat) (hn : u 15 0 = nI n) (h60 : n ≤ 60) (p1 : Int32) : gM l yX3_markFrom wsX3_markFrom rmX3_markFrom_1 D [(cI, .int), (cZ, .boolean)] (MW cI cZ q) (fun _ => True) [.ref (q 0), .int 1, .int p1] u none (mS u 10 (mFrom1 n (u 3) (u 0) (u 1) (u 10) p1)) := by
  refine g_start (cc := cX3_markFrom) (maxL := 3) (ret := none) (by decide) rfl (Nat.le_of_ble_eq_true rfl) ?_
  intro p e s m below meth c A ls Q hx hb hml hret hts hown hlk hE hP hK hD hA hl hQ hS
  have hown : s.vm.findClass RX3 = some m.cls := hown
  have hl : lv_has ls 3 [(0, .ref (q 0)), (1, .int 1), (2, .int p1)] := hl
  refine lv_aload_n hx hb dX3_markFrom_0 rfl (lv_at hl 0 rfl) ?_
  refine g_callV (As := []) (rest := []) hx hb hml hown hts (ctX3_clear l D cI cZ q u) gX3_markFrom_X3_clear rfl rfl rfl hdX3_clear ⟨Nat.le_of_ble_eq_true rfl, Nat.le_of_ble_eq_true rfl⟩ gEM_true trivial hP hK hD hS hA 0 rfl rfl rfl hl.1 rfl (Nat.le_of_ble_eq_true rfl) dX3_markFrom_1 ⟨Nat.zero_le _, Nat.zero_le _⟩ (fun H locs hP hD hS => ?_)
  obtain ⟨hP, hD⟩ := g_toPD hP hD (MW_ext (Y := (mS u 10 (mClr (u 10)))) (by refine ⟨?_, ?_, ?_, ?_, ?_, ?_, ?_, ?_, ?_, ?_, ?_, ?_, ?_, ?_, ?_, ?_, ?_, ?_⟩ <;> simp only [mS_at, ↓reduceIte, Nat.reduceEqDiff] <;> rfl))
  refine W.eq (g2 := F0 m 4 ls []) rfl ?_
  refine lv_aload_n hx hb dX3_markFrom_4 rfl (lv_at hl 0 rfl) ?_
  refine lv_iload_n hx hb dX3_markFrom_5 rfl (lv_at hl 1 rfl) ?_
  refine lv_iload_n hx hb dX3_markFrom_6 rfl (lv_at hl 2 rfl) ?_
  refine g_callV (As := [.int 1, .int p1]) (rest := []) hx hb hml hown hts (ctX3_mark_1 l D cI cZ q (mS u 10 (mClr (u 10))) n hn h60 p1) gX3_markFrom_X3_mark rfl rfl rfl hdX3_mark ⟨Nat.le_of_ble_eq_true rfl, Nat.le_of_ble_eq_true rfl⟩ gEM_true trivial hP hK hD hS hA 0 rfl rfl rfl hl.1 rfl (Nat.le_of_ble_eq_true rfl) dX3_markFrom_7 ⟨Nat.zero_le _, Nat.zero_le _⟩ (fun H locs hP hD hS => ?_)
  obtain ⟨hP, hD⟩ := g_toPD hP hD (MW_ext (Y := (mS (mS u 10 (mClr (u 10))) 10 (mMark n (u 3) 1 (mClr (u 10)) p1))) (by refine ⟨?_, ?_, ?_, ?_, ?_, ?_, ?_, ?_, ?_, ?_, ?_, ?_, ?_, ?_, ?_, ?_, ?_, ?_⟩ <;> simp only [mS_at, ↓reduceIte, Nat.reduceEqDiff] <;> rfl))
  refine W.eq (g2 := F0 m 10 ls []) rfl ?_
  refine lv_aload_n hx hb dX3_markFrom_10 rfl (lv_at hl 0 rfl) ?_
  refine lv_iload_n hx hb dX3_markFrom_11 rfl (lv_at hl 1 rfl) ?_
  refine g_callV (As := [.int 1]) (rest := []) hx hb hml hown hts (ctX3_markOn_1 l D cI cZ q (mS (mS u 10 (mClr (u 10))) 10 (mMark n (u 3) 1 (mClr (u 10)) p1)) n hn h60) gX3_markFrom_X3_markOn rfl rfl rfl hdX3_markOn ⟨Nat.le_of_ble_eq_true rfl, Nat.le_of_ble_eq_true rfl⟩ gEM_true trivial hP hK hD hS hA 0 rfl rfl rfl hl.1 rfl (Nat.le_of_ble_eq_true rfl) dX3_markFrom_12 ⟨Nat.zero_le _, Nat.zero_le _⟩ (fun H locs hP hD hS => ?_)
  obtain ⟨hP, hD⟩ := g_toPD hP hD (MW_ext (Y := (mS (mS (mS u 10 (mClr (u 10))) 10 (mMark n (u 3) 1 (mClr (u 10)) p1)) 10 (mOn1 n (u 3) (u 0) (u 1) (mMark n (u 3) 1 (mClr (u 10)) p1)))) (by refine ⟨?_, ?_, ?_, ?_, ?_, ?_, ?_, ?_, ?_, ?_, ?_, ?_, ?_, ?_, ?_, ?_, ?_, ?_⟩ <;> simp only [mS_at, ↓reduceIte, Nat.reduceEqDiff] <;> rfl))
  refine W.eq (g2 := F0 m 15 ls []) rfl ?_
  refine g_vret (u1 := (mS (mS (mS u 10 (mClr (u 10))) 10 (mMark n (u 3) 1 (mClr (u 10)) p1)) 10 (mOn1 n (u 3) (u 0) (u 1) (mMark n (u 3) 1 (mClr (u 10)) p1)))) hx hb hret hlk hQ hP hD hS dX3_markFrom_15 ?_ ?_
  · exact rfl
  · exact (MW_ext (by refine ⟨?_, ?_, ?_, ?_, ?_, ?_, ?_, ?_, ?_, ?_, ?_, ?_, ?_, ?_, ?_, ?_, ?_, ?_⟩ <;> simp only [mS_at, ↓reduceIte, Nat.reduceEqDiff] <;> rfl))
theorem lkX3_near_50 : Cond.fieldLink RX3 50 "FetchHouseModel" "steps" "[I" ∈ wsX3_near := List.mem_of_getElem? (i := 1) (by decide +kernel)
theorem inX3_near_RX3 : ∀ w ∈ u_ws RX3 TX3 18, w ∈ wsX3_near := fun w h => List.mem_cons_of_mem _ (List.mem_append_right _ h)
abbrev rmX3_near : Room := { frames := 0, cells := 0, slots := 0, locals := 0 }
set_option maxHeartbeats 4000000 in
set_option maxRecDepth 100000 in
theorem ctX3_near (l : Launch) (D : va_G) (cI cZ : ClassId) (q : Nat → Nat) (u : SM) (p0 p1 : Int32) (h : p0 = -1 ∨ ∃ j, j < 60 ∧ p0 = nI j) : gM l yX3_near wsX3_near rmX3_near D [(cI, .int), (cZ, .boolean)] (MW cI cZ q) (fun _ => True) [.ref (q 0), .int p0, .int p1] u none (mS u 13 (mNear (u 13) p0 p1)) := by
  refine g_start (cc := cX3_near) (maxL := 3) (ret := none) (by decide) rfl (Nat.le_of_ble_eq_true rfl) ?_
  intro p e s m below meth c A ls Q hx hb hml hret hts hown hlk hE hP hK hD hA hl hQ hS
  have hown : s.vm.findClass RX3 = some m.cls := hown
  have hl : lv_has ls 3 [(0, .ref (q 0)), (1, .int p0), (2, .int p1)] := hl
  refine lv_iload_n hx hb dX3_near_0 rfl (lv_at hl 1 rfl) ?_
  refine lv_iconst (v := (-1)) hx hb dX3_near_1 (by decide +kernel) ?_
  refine lv_icmp_eq (tgt := 22) hx hb dX3_near_2 (by decide) (fun c_2 => ?_) (fun c_2 => ?_)
  · refine g_vret (u1 := u) hx hb hret hlk hQ hP hD hS dX3_near_22 ?_ ?_
    · exact rfl
    · exact (by rw [show mNear (u 13) p0 p1 = (u 13) from by unfold mNear; rw [if_pos c_2]] <;> exact (MW_ext (by refine ⟨?_, ?_, ?_, ?_, ?_, ?_, ?_, ?_, ?_, ?_, ?_, ?_, ?_, ?_, ?_, ?_, ?_, ?_⟩ <;> simp only [mS_at, ↓reduceIte, Nat.reduceEqDiff] <;> rfl)))
  · obtain ⟨j, hj, hj2⟩ := h.resolve_left c_2
    refine lv_iload_n hx hb dX3_near_5 rfl (lv_at hl 2 rfl) ?_
    refine lv_aload_n hx hb dX3_near_6 rfl (lv_at hl 0 rfl) ?_
    refine va_get (ci := 3) (v := .ref (q 14)) (C := RX3) (T := TX3) (N := 18) hx hb hts inX3_near_RX3 hown hK hP 0 rfl rfl 17 (by decide) (hts _ lkX3_near_50) (fun _ h9 => h9) rfl dX3_near_7 ?_
    refine lv_iload_n hx hb dX3_near_10 rfl (lv_at hl 1 rfl) ?_
    refine g_iald (n := 60) (f := (u 13)) hx hb hK hP 14 0 (MW_get_13 _) rfl j (by omega) (by omega) hj2 dX3_near_11 ?_
    refine lv_icmp_ge (tgt := 22) hx hb dX3_near_12 (by decide) (fun c_12 => ?_) (fun c_12 => ?_)
    · refine g_vret (u1 := u) hx hb hret hlk hQ hP hD hS dX3_near_22 ?_ ?_
      · exact rfl
      · exact (by rw [show mNear (u 13) p0 p1 = (u 13) from by unfold mNear; rw [if_neg c_2, hj2, nI_clamp (by omega), if_pos c_12]] <;> exact (MW_ext (by refine ⟨?_, ?_, ?_, ?_, ?_, ?_, ?_, ?_, ?_, ?_, ?_, ?_, ?_, ?_, ?_, ?_, ?_, ?_⟩ <;> simp only [mS_at, ↓reduceIte, Nat.reduceEqDiff] <;> rfl)))
    · refine lv_aload_n hx hb dX3_near_15 rfl (lv_at hl 0 rfl) ?_
      refine va_get (ci := 3) (v := .ref (q 14)) (C := RX3) (T := TX3) (N := 18) hx hb hts inX3_near_RX3 hown hK hP 0 rfl rfl 17 (by decide) (hts _ lkX3_near_50) (fun _ h9 => h9) rfl dX3_near_16 ?_
      refine lv_iload_n hx hb dX3_near_19 rfl (lv_at hl 1 rfl) ?_
      refine lv_iload_n hx hb dX3_near_20 rfl (lv_at hl 2 rfl) ?_
      refine g_iast (n := 60) (f := (u 13)) (u' := (mS u 13 (upd (u 13) j p1))) hx hb hK hP hD hS 14 0 (MW_get_13 _) rfl j (by omega) (by omega) hj2 (MW_set_13 _ _) dX3_near_21 (fun H locs hP hD hS => ?_)
      refine g_vret (u1 := (mS u 13 (upd (u 13) j p1))) hx hb hret hlk hQ hP hD hS dX3_near_22 ?_ ?_
      · exact rfl
      · exact (by rw [show mNear (u 13) p0 p1 = (upd (u 13) j p1) from by unfold mNear; rw [if_neg c_2, hj2, nI_clamp (by omega), if_neg c_12]] <;> exact (MW_ext (by refine ⟨?_, ?_, ?_, ?_, ?_, ?_, ?_, ?_, ?_, ?_, ?_, ?_, ?_, ?_, ?_, ?_, ?_, ?_⟩ <;> simp only [mS_at, ↓reduceIte, Nat.reduceEqDiff] <;> rfl)))
