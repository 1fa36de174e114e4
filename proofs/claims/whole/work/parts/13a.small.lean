def mLoadC (p0 : Int32) (hf : Nat → Int32) : Int32 := if xRange p0 100 = 0 then 1 else if hf p0.toNatClampNeg = 0 then 2 else 0
def mNeedStep (n : Nat) (hc : Nat → Int32) (b : Nat) (sl : Nat → Int32) (f : Int32) (k : Nat) (t : Int32) : Int32 := if t = 0 then (if sl k = f then (if mHas n hc b (nI (k / 4)) = 0 then 0 else 1) else 0) else 1
def mNeed (n : Nat) (hc : Nat → Int32) (b : Nat) (sl : Nat → Int32) (f : Int32) : Int32 := itU (mNeedStep n hc b sl f) (4 * n) 0 0
def mMissStep (n : Nat) (hc sl hf : Nat → Int32) (k : Nat) (cn : Int32) : Int32 := if hf (100 + k) = 0 then (if mNeed n hc 1 sl (nI k) = 0 then cn + 0 else cn + 1) else cn + 0
noncomputable def mMiss (n : Nat) (hc sl hf : Nat → Int32) : Int32 := opq (itU (mMissStep n hc sl hf) 100 0 0)
def mMoveC (n w : Nat) (p0 p1 p2 : Int32) : Int32 := if xRange p0 4 = 0 then 1 else if mComN n p1 = 0 then 1 else if mComN n p2 = 0 then 1 else if w = 3 then 2 else 0
theorem mShal_01 (n : Nat) (hc fi se : Nat → Int32) (j : Nat) : mShal n hc fi se j = 0 ∨ mShal n hc fi se j = 1 := by unfold mShal; split; exact Or.inl rfl; split; exact Or.inl rfl; exact Or.inr rfl
/-- marks are 0 or 1 -/
def m01 (mk : Nat → Int32) : Prop := ∀ k, k < 60 → mk k = 0 ∨ mk k = 1
theorem itU_clr : ∀ (d i : Nat) (f : Nat → Int32) (k : Nat), i ≤ k → k < i + d → itU xClrStep d i f k = 0
  | 0, i, f, k, h1, h2 => by omega
  | d + 1, i, f, k, h1, h2 => by
    show itU xClrStep d (i + 1) (upd f i 0) k = 0
    by_cases h : k = i
    · subst h
      have key : ∀ (d i : Nat) (f : Nat → Int32), k < i → itU xClrStep d i f k = f k := by
        intro d
        induction d with
        | zero => intro i f _; rfl
        | succ d ih =>
          intro i f hk
          show itU xClrStep d (i + 1) (upd f i 0) k = f k
          rw [ih (i + 1) _ (by omega)]
          unfold upd
          rw [if_neg (by omega)]
      rw [key d (k + 1) _ (by omega)]
      unfold upd
      rw [if_pos rfl]
    · exact itU_clr d (i + 1) _ k (by omega) (by omega)
theorem mClr_0 (mk : Nat → Int32) {k : Nat} (h : k < 60) : mClr mk k = 0 := by
  unfold mClr
  rw [opq_eq]
  exact itU_clr 60 0 mk k (Nat.zero_le _) (by omega)
theorem m01_clr (mk : Nat → Int32) : m01 (mClr mk) := fun _ h => Or.inl (mClr_0 mk h)
theorem m01_mark {n : Nat} {hc : Nat → Int32} {b : Nat} {mk : Nat → Int32} (c : Int32) (h : m01 mk) : m01 (mMark n hc b mk c) := by
  unfold mMark
  split
  · exact h
  · intro k hk
    unfold upd
    split
    · exact Or.inr rfl
    · exact h k hk
theorem m01_on0 {n : Nat} {hc fi se : Nat → Int32} : ∀ (d : Nat) (mk : Nat → Int32), m01 mk → m01 (itD (mOnStep0 n hc fi se) d mk)
  | 0, _, h => h
  | d + 1, ma, h => by
    show m01 (itD (mOnStep0 n hc fi se) d (mOnStep0 n hc fi se d ma))
    refine m01_on0 d _ ?_
    unfold mOnStep0
    split
    · exact h
    · exact m01_mark _ (m01_mark _ h)
theorem m01_on1 {n : Nat} {hc fi se : Nat → Int32} : ∀ (d : Nat) (mk : Nat → Int32), m01 mk → m01 (itD (mOnStep1 n hc fi se) d mk)
  | 0, _, h => h
  | d + 1, ma, h => by
    show m01 (itD (mOnStep1 n hc fi se) d (mOnStep1 n hc fi se d ma))
    refine m01_on1 d _ ?_
    unfold mOnStep1
    split
    · exact h
    · split
      · exact m01_mark _ (m01_mark _ h)
      · exact h
theorem mFrom0_01 (n : Nat) (hc fi se mk : Nat → Int32) (c : Int32) (k : Nat) (hk : k < 60) : mFrom0 n hc fi se mk c k = 0 ∨ mFrom0 n hc fi se mk c k = 1 := m01_on0 n _ (m01_mark c (m01_clr mk)) k hk
theorem mFrom1_01 (n : Nat) (hc fi se mk : Nat → Int32) (c : Int32) (k : Nat) (hk : k < 60) : mFrom1 n hc fi se mk c k = 0 ∨ mFrom1 n hc fi se mk c k = 1 := m01_on1 n _ (m01_mark c (m01_clr mk)) k hk
theorem lkX3_rounds_101 : Cond.fieldLink RX3 101 "FetchHouseModel" "rounds" "I" ∈ wsX3_rounds := List.mem_of_getElem? (i := 1) (by decide +kernel)
theorem inX3_rounds_RX3 : ∀ w ∈ u_ws RX3 TX3 18, w ∈ wsX3_rounds := fun w h => List.mem_cons_of_mem _ (List.mem_append_right _ h)
abbrev rmX3_rounds : Room := { frames := 1, cells := 0, slots := 0, locals := 21 }
set_option maxHeartbeats 4000000 in
set_option maxRecDepth 100000 in
theorem ctX3_rounds (l : Launch) (D : va_G) (cI cZ : ClassId) (q : Nat → Nat) (u : SM)  : gM l yX3_rounds wsX3_rounds rmX3_rounds D [(cI, .int), (cZ, .boolean)] (MW cI cZ q) (fun _ => True) [.ref (q 0)] u (some (.int (u 17 0))) (mS u 14 (fun _ => 0)) := by
  refine g_start (cc := cX3_rounds) (maxL := 1) (ret := (some .int)) (by decide) rfl (Nat.le_of_ble_eq_true rfl) ?_
  intro p e s m below meth c A ls Q hx hb hml hret hts hown hlk hE hP hK hD hA hl hQ hS
  have hown : s.vm.findClass RX3 = some m.cls := hown
  have hl : lv_has ls 1 [(0, .ref (q 0))] := hl
  refine lv_aload_n hx hb dX3_rounds_0 rfl (lv_at hl 0 rfl) ?_
  refine lv_aload_n hx hb dX3_rounds_1 rfl (lv_at hl 0 rfl) ?_
  refine va_get (ci := 3) (v := .int (u 17 0)) (C := RX3) (T := TX3) (N := 18) hx hb hts inX3_rounds_RX3 hown hK hP 0 rfl rfl 13 (by decide) (hts _ lkX3_rounds_101) (fun _ h9 => h9) rfl dX3_rounds_2 ?_
  refine g_callV (As := [.int (u 17 0)]) (rest := []) hx hb hml hown hts (ctX3_fine l D cI cZ q u (u 17 0)) gX3_rounds_X3_fine rfl rfl rfl hdX3_fine ⟨Nat.le_of_ble_eq_true rfl, Nat.le_of_ble_eq_true rfl⟩ gEM_true trivial hP hK hD hS hA 0 rfl rfl rfl hl.1 rfl (Nat.le_of_ble_eq_true rfl) dX3_rounds_5 ⟨Nat.zero_le _, Nat.zero_le _⟩ (fun H locs hP hD hS => ?_)
  obtain ⟨hP, hD⟩ := g_toPD hP hD (MW_ext (Y := (mS u 14 (fun _ => 0))) (by refine ⟨?_, ?_, ?_, ?_, ?_, ?_, ?_, ?_, ?_, ?_, ?_, ?_, ?_, ?_, ?_, ?_, ?_, ?_⟩ <;> simp only [mS_at, ↓reduceIte, Nat.reduceEqDiff] <;> rfl))
  refine W.eq (g2 := F0 m 8 ls [.int (u 17 0)]) rfl ?_
  refine g_iret (u1 := (mS u 14 (fun _ => 0))) hx hb hret hlk hQ hP hD hS dX3_rounds_8 ?_ ?_
  · exact rfl
  · exact rfl
theorem lkX3_commits_61 : Cond.fieldLink RX3 61 "FetchHouseModel" "made" "I" ∈ wsX3_commits := List.mem_of_getElem? (i := 1) (by decide +kernel)
theorem inX3_commits_RX3 : ∀ w ∈ u_ws RX3 TX3 18, w ∈ wsX3_commits := fun w h => List.mem_cons_of_mem _ (List.mem_append_right _ h)
abbrev rmX3_commits : Room := { frames := 1, cells := 0, slots := 0, locals := 21 }
set_option maxHeartbeats 4000000 in
set_option maxRecDepth 100000 in
theorem ctX3_commits (l : Launch) (D : va_G) (cI cZ : ClassId) (q : Nat → Nat) (u : SM) (n : Nat) (hn : u 15 0 = nI n) (h60 : n ≤ 60) : gM l yX3_commits wsX3_commits rmX3_commits D [(cI, .int), (cZ, .boolean)] (MW cI cZ q) (fun _ => True) [.ref (q 0)] u (some (.int (nI n))) (mS u 14 (fun _ => 0)) := by
  refine g_start (cc := cX3_commits) (maxL := 1) (ret := (some .int)) (by decide) rfl (Nat.le_of_ble_eq_true rfl) ?_
  intro p e s m below meth c A ls Q hx hb hml hret hts hown hlk hE hP hK hD hA hl hQ hS
  have hown : s.vm.findClass RX3 = some m.cls := hown
  have hl : lv_has ls 1 [(0, .ref (q 0))] := hl
  refine lv_aload_n hx hb dX3_commits_0 rfl (lv_at hl 0 rfl) ?_
  refine lv_aload_n hx hb dX3_commits_1 rfl (lv_at hl 0 rfl) ?_
  refine va_get (ci := 3) (v := .int (nI n)) (C := RX3) (T := TX3) (N := 18) hx hb hts inX3_commits_RX3 hown hK hP 0 rfl rfl 1 (by decide) (hts _ lkX3_commits_61) (fun _ h9 => h9) (congrArg (fun z => some (Value.int z)) hn) dX3_commits_2 ?_
  refine g_callV (As := [.int (nI n)]) (rest := []) hx hb hml hown hts (ctX3_fine l D cI cZ q u (nI n)) gX3_commits_X3_fine rfl rfl rfl hdX3_fine ⟨Nat.le_of_ble_eq_true rfl, Nat.le_of_ble_eq_true rfl⟩ gEM_true trivial hP hK hD hS hA 0 rfl rfl rfl hl.1 rfl (Nat.le_of_ble_eq_true rfl) dX3_commits_5 ⟨Nat.zero_le _, Nat.zero_le _⟩ (fun H locs hP hD hS => ?_)
  obtain ⟨hP, hD⟩ := g_toPD hP hD (MW_ext (Y := (mS u 14 (fun _ => 0))) (by refine ⟨?_, ?_, ?_, ?_, ?_, ?_, ?_, ?_, ?_, ?_, ?_, ?_, ?_, ?_, ?_, ?_, ?_, ?_⟩ <;> simp only [mS_at, ↓reduceIte, Nat.reduceEqDiff] <;> rfl))
  refine W.eq (g2 := F0 m 8 ls [.int (nI n)]) rfl ?_
  refine g_iret (u1 := (mS u 14 (fun _ => 0))) hx hb hret hlk hQ hP hD hS dX3_commits_8 ?_ ?_
  · exact rfl
  · exact rfl
theorem lkX3_load_23 : Cond.fieldLink RX3 23 "FetchHouseModel" "hasFile" "[Z" ∈ wsX3_load := List.mem_of_getElem? (i := 1) (by decide +kernel)
theorem inX3_load_RX3 : ∀ w ∈ u_ws RX3 TX3 18, w ∈ wsX3_load := fun w h => List.mem_cons_of_mem _ (List.mem_append_right _ h)
abbrev rmX3_load : Room := { frames := 1, cells := 0, slots := 0, locals := 22 }
set_option maxHeartbeats 4000000 in
set_option maxRecDepth 100000 in
theorem ctX3_load (l : Launch) (D : va_G) (cI cZ : ClassId) (q : Nat → Nat) (u : SM) (p0 : Int32) (h1 : ¬ xRange p0 100 = 0) (h2 : ¬ u 4 p0.toNatClampNeg = 0) : gM l yX3_load wsX3_load rmX3_load D [(cI, .int), (cZ, .boolean)] (MW cI cZ q) (fun _ => True) [.ref (q 0), .int p0] u (some (.int (if u 4 (100 + p0.toNatClampNeg) = 0 then 1 else 0))) (mS (mS u 14 (fun _ => 0)) 4 (upd (u 4) (100 + p0.toNatClampNeg) 1)) := by
  refine g_start (cc := cX3_load) (maxL := 4) (ret := (some .boolean)) (by decide) rfl (Nat.le_of_ble_eq_true rfl) ?_
  intro p e s m below meth c A ls Q hx hb hml hret hts hown hlk hE hP hK hD hA hl hQ hS
  have hown : s.vm.findClass RX3 = some m.cls := hown
  have hl : lv_has ls 4 [(0, .ref (q 0)), (1, .int p0)] := hl
  obtain ⟨j, hj, hj2⟩ := xRange_ne (n := 100) rfl (by omega) h1
  have hjc : p0.toNatClampNeg = j := by rw [hj2, nI_clamp (by omega)]
  have hje : p0 = nI p0.toNatClampNeg := by rw [hjc]; exact hj2
  refine lv_iload_n hx hb dX3_load_0 rfl (lv_at hl 1 rfl) ?_
  refine lv_iconst (v := 0) hx hb dX3_load_1 (by decide +kernel) ?_
  refine lv_bipush (v := 99) hx hb dX3_load_2 (by decide +kernel) ?_
  refine g_callS0 (As := [.int p0, .int 0, .int 99]) (rest := []) hx hb hml hown hts (ctX3_in_100 l D cI cZ q p0) gX3_load_X3_in rfl rfl rfl hdX3_in ⟨Nat.le_of_ble_eq_true rfl, Nat.le_of_ble_eq_true rfl⟩ gEM_true trivial hP hK hS hA rfl hl.1 rfl (Nat.le_of_ble_eq_true rfl) dX3_load_4 ⟨Nat.zero_le _, Nat.zero_le _⟩ (fun H locs hP hS => ?_)
  refine W.eq (g2 := F0 m 7 ls [.int (xRange p0 100)]) rfl ?_
  refine lv_istore_n (lv' := [(2, .int (xRange p0 100)), (0, .ref (q 0)), (1, .int p0)]) hx hb dX3_load_7 rfl hl (by decide) rfl (fun ls hl => ?_)
  refine lv_aload_n hx hb dX3_load_8 rfl (lv_at hl 1 rfl) ?_
  refine lv_iload_n hx hb dX3_load_9 rfl (lv_at hl 0 rfl) ?_
  refine lv_if_ne (tgt := 17) hx hb dX3_load_10 (by decide) (fun c_10 => ?_) (fun c_10 => ?_)
  · refine lv_aload_n hx hb dX3_load_17 rfl (lv_at hl 1 rfl) ?_
    refine va_get (ci := 3) (v := .ref (q 5)) (C := RX3) (T := TX3) (N := 18) hx hb hts inX3_load_RX3 hown hK hP 0 rfl rfl 6 (by decide) (hts _ lkX3_load_23) (fun _ h9 => h9) rfl dX3_load_18 ?_
    refine lv_iload_n hx hb dX3_load_21 rfl (lv_at hl 2 rfl) ?_
    refine g_zald (n := 200) (f := (u 4)) hx hb hK hP 5 1 (MW_get_4 _) rfl p0.toNatClampNeg (by omega) (by omega) hje dX3_load_22 ?_
    refine lv_if_eq (tgt := 30) hx hb dX3_load_23 (by decide) (fun c_23 => ?_) (fun c_23 => ?_)
    · exact absurd c_23 h2
    · refine lv_iconst (v := 0) hx hb dX3_load_26 (by decide +kernel) ?_
      refine lv_goto (tgt := 31) hx hb dX3_load_27 (by decide) ?_
      refine g_callV (As := [.int 0]) (rest := []) hx hb hml hown hts (ctX3_refused l D cI cZ q u 0) gX3_load_X3_refused rfl rfl rfl hdX3_refused ⟨Nat.le_of_ble_eq_true rfl, Nat.le_of_ble_eq_true rfl⟩ gEM_true trivial hP hK hD hS hA 0 rfl rfl rfl hl.1 rfl (Nat.le_of_ble_eq_true rfl) dX3_load_31 ⟨Nat.zero_le _, Nat.zero_le _⟩ (fun H locs hP hD hS => ?_)
      obtain ⟨hP, hD⟩ := g_toPD hP hD (MW_ext (Y := (mS u 14 (fun _ => 0))) (by refine ⟨?_, ?_, ?_, ?_, ?_, ?_, ?_, ?_, ?_, ?_, ?_, ?_, ?_, ?_, ?_, ?_, ?_, ?_⟩ <;> simp only [mS_at, ↓reduceIte, Nat.reduceEqDiff] <;> rfl))
      refine W.eq (g2 := F0 m 34 ls [.int (if 0 = 0 then 0 else 1)]) rfl ?_
      refine lv_if_eq (tgt := 39) hx hb dX3_load_34 (by decide) (fun c_34 => ?_) (fun c_34 => ?_)
      · refine lv_aload_n hx hb dX3_load_39 rfl (lv_at hl 1 rfl) ?_
        refine va_get (ci := 3) (v := .ref (q 5)) (C := RX3) (T := TX3) (N := 18) hx hb hts inX3_load_RX3 hown hK hP 0 rfl rfl 6 (by decide) (hts _ lkX3_load_23) (fun _ h9 => h9) rfl dX3_load_40 ?_
        refine lv_bipush (v := 100) hx hb dX3_load_43 (by decide +kernel) ?_
        refine lv_iload_n hx hb dX3_load_45 rfl (lv_at hl 2 rfl) ?_
        refine lv_iadd hx hb dX3_load_46 ?_
        refine g_zald (n := 200) (f := (u 4)) hx hb hK hP 5 1 (by rw [MW_get_4, show (mS u 14 (fun _ => 0)) 4 = (u 4) from by simp only [mS_at, ↓reduceIte, Nat.reduceEqDiff]]) rfl (100 + p0.toNatClampNeg) (by omega) (by omega) (g_addE rfl hje) dX3_load_47 ?_
        refine lv_istore_n (lv' := [(3, .int ((u 4) (100 + p0.toNatClampNeg))), (2, .int (xRange p0 100)), (0, .ref (q 0)), (1, .int p0)]) hx hb dX3_load_48 rfl hl (by decide) rfl (fun ls hl => ?_)
        refine lv_aload_n hx hb dX3_load_49 rfl (lv_at hl 2 rfl) ?_
        refine va_get (ci := 3) (v := .ref (q 5)) (C := RX3) (T := TX3) (N := 18) hx hb hts inX3_load_RX3 hown hK hP 0 rfl rfl 6 (by decide) (hts _ lkX3_load_23) (fun _ h9 => h9) rfl dX3_load_50 ?_
        refine lv_bipush (v := 100) hx hb dX3_load_53 (by decide +kernel) ?_
        refine lv_iload_n hx hb dX3_load_55 rfl (lv_at hl 3 rfl) ?_
        refine lv_iadd hx hb dX3_load_56 ?_
        refine lv_iconst (v := 1) hx hb dX3_load_57 (by decide +kernel) ?_
        refine g_zast (n := 200) (f := (u 4)) (u' := (mS (mS u 14 (fun _ => 0)) 4 (upd (u 4) (100 + p0.toNatClampNeg) 1))) hx hb hK hP hD hS 5 1 (by rw [MW_get_4, show (mS u 14 (fun _ => 0)) 4 = (u 4) from by simp only [mS_at, ↓reduceIte, Nat.reduceEqDiff]]) rfl (100 + p0.toNatClampNeg) (by omega) (by omega) (g_addE rfl hje) rfl (MW_set_4 _ _) dX3_load_58 (fun H locs hP hD hS => ?_)
        refine lv_iload_n hx hb dX3_load_59 rfl (lv_at hl 0 rfl) ?_
        refine lv_if_ne (tgt := 67) hx hb dX3_load_60 (by decide) (fun c_60 => ?_) (fun c_60 => ?_)
        · refine lv_iconst (v := 0) hx hb dX3_load_67 (by decide +kernel) ?_
          refine g_zret (u1 := (mS (mS u 14 (fun _ => 0)) 4 (upd (u 4) (100 + p0.toNatClampNeg) 1))) hx hb hret hlk hQ hP hD hS dX3_load_68 ?_ ?_ ?_
          · exact rfl
          · exact (by rw [if_neg c_60])
          · exact (MW_ext (by refine ⟨?_, ?_, ?_, ?_, ?_, ?_, ?_, ?_, ?_, ?_, ?_, ?_, ?_, ?_, ?_, ?_, ?_, ?_⟩ <;> simp only [mS_at, ↓reduceIte, Nat.reduceEqDiff] <;> rfl))
        · refine lv_iconst (v := 1) hx hb dX3_load_63 (by decide +kernel) ?_
          refine lv_goto (tgt := 68) hx hb dX3_load_64 (by decide) ?_
          refine g_zret (u1 := (mS (mS u 14 (fun _ => 0)) 4 (upd (u 4) (100 + p0.toNatClampNeg) 1))) hx hb hret hlk hQ hP hD hS dX3_load_68 ?_ ?_ ?_
          · exact rfl
          · exact (by rw [if_pos c_60])
          · exact (MW_ext (by refine ⟨?_, ?_, ?_, ?_, ?_, ?_, ?_, ?_, ?_, ?_, ?_, ?_, ?_, ?_, ?_, ?_, ?_, ?_⟩ <;> simp only [mS_at, ↓reduceIte, Nat.reduceEqDiff] <;> rfl))
      · exact absurd (show (0 : Int32) = 0 from rfl) c_34
  · exact absurd c_10 h1
abbrev rmX3_load_r : Room := { frames := 1, cells := 0, slots := 0, locals := 22 }
set_option maxHeartbeats 4000000 in
set_option maxRecDepth 100000 in
theorem ctX3_load_r (l : Launch) (D : va_G) (cI cZ : ClassId) (q : Nat → Nat) (u : SM) (p0 : Int32) (z : Int32) (hz : (mLoadC p0 (u 4)) = z) (hz0 : ¬ z = 0) : gM l yX3_load wsX3_load rmX3_load_r D [(cI, .int), (cZ, .boolean)] (MW cI cZ q) (fun _ => True) [.ref (q 0), .int p0] u (some (.int 0)) (mS u 14 (fun _ => z)) := by
  refine g_start (cc := cX3_load) (maxL := 4) (ret := (some .boolean)) (by decide) rfl (Nat.le_of_ble_eq_true rfl) ?_
  intro p e s m below meth c A ls Q hx hb hml hret hts hown hlk hE hP hK hD hA hl hQ hS
  have hown : s.vm.findClass RX3 = some m.cls := hown
  have hl : lv_has ls 4 [(0, .ref (q 0)), (1, .int p0)] := hl
  refine lv_iload_n hx hb dX3_load_0 rfl (lv_at hl 1 rfl) ?_
  refine lv_iconst (v := 0) hx hb dX3_load_1 (by decide +kernel) ?_
  refine lv_bipush (v := 99) hx hb dX3_load_2 (by decide +kernel) ?_
  refine g_callS0 (As := [.int p0, .int 0, .int 99]) (rest := []) hx hb hml hown hts (ctX3_in_100 l D cI cZ q p0) gX3_load_X3_in rfl rfl rfl hdX3_in ⟨Nat.le_of_ble_eq_true rfl, Nat.le_of_ble_eq_true rfl⟩ gEM_true trivial hP hK hS hA rfl hl.1 rfl (Nat.le_of_ble_eq_true rfl) dX3_load_4 ⟨Nat.zero_le _, Nat.zero_le _⟩ (fun H locs hP hS => ?_)
  refine W.eq (g2 := F0 m 7 ls [.int (xRange p0 100)]) rfl ?_
  refine lv_istore_n (lv' := [(2, .int (xRange p0 100)), (0, .ref (q 0)), (1, .int p0)]) hx hb dX3_load_7 rfl hl (by decide) rfl (fun ls hl => ?_)
  refine lv_aload_n hx hb dX3_load_8 rfl (lv_at hl 1 rfl) ?_
  refine lv_iload_n hx hb dX3_load_9 rfl (lv_at hl 0 rfl) ?_
  refine lv_if_ne (tgt := 17) hx hb dX3_load_10 (by decide) (fun c_10 => ?_) (fun c_10 => ?_)
  · obtain ⟨j, hj, hj2⟩ := xRange_ne (n := 100) rfl (by omega) c_10
    have hjc : p0.toNatClampNeg = j := by rw [hj2, nI_clamp (by omega)]
    have hje : p0 = nI p0.toNatClampNeg := by rw [hjc]; exact hj2
    refine lv_aload_n hx hb dX3_load_17 rfl (lv_at hl 1 rfl) ?_
    refine va_get (ci := 3) (v := .ref (q 5)) (C := RX3) (T := TX3) (N := 18) hx hb hts inX3_load_RX3 hown hK hP 0 rfl rfl 6 (by decide) (hts _ lkX3_load_23) (fun _ h9 => h9) rfl dX3_load_18 ?_
    refine lv_iload_n hx hb dX3_load_21 rfl (lv_at hl 2 rfl) ?_
    refine g_zald (n := 200) (f := (u 4)) hx hb hK hP 5 1 (MW_get_4 _) rfl p0.toNatClampNeg (by omega) (by omega) hje dX3_load_22 ?_
    refine lv_if_eq (tgt := 30) hx hb dX3_load_23 (by decide) (fun c_23 => ?_) (fun c_23 => ?_)
    · refine lv_iconst (v := 2) hx hb dX3_load_30 (by decide +kernel) ?_
      refine g_callV (As := [.int 2]) (rest := []) hx hb hml hown hts (ctX3_refused l D cI cZ q u 2) gX3_load_X3_refused rfl rfl rfl hdX3_refused ⟨Nat.le_of_ble_eq_true rfl, Nat.le_of_ble_eq_true rfl⟩ gEM_true trivial hP hK hD hS hA 0 rfl rfl rfl hl.1 rfl (Nat.le_of_ble_eq_true rfl) dX3_load_31 ⟨Nat.zero_le _, Nat.zero_le _⟩ (fun H locs hP hD hS => ?_)
      obtain ⟨hP, hD⟩ := g_toPD hP hD (MW_ext (Y := (mS u 14 (fun _ => 2))) (by refine ⟨?_, ?_, ?_, ?_, ?_, ?_, ?_, ?_, ?_, ?_, ?_, ?_, ?_, ?_, ?_, ?_, ?_, ?_⟩ <;> simp only [mS_at, ↓reduceIte, Nat.reduceEqDiff] <;> rfl))
      refine W.eq (g2 := F0 m 34 ls [.int (if 2 = 0 then 0 else 1)]) rfl ?_
      refine lv_if_eq (tgt := 39) hx hb dX3_load_34 (by decide) (fun c_34 => ?_) (fun c_34 => ?_)
      · exact absurd c_34 (by decide)
      · refine lv_iconst (v := 0) hx hb dX3_load_37 (by decide +kernel) ?_
        refine g_zret (u1 := (mS u 14 (fun _ => 2))) hx hb hret hlk hQ hP hD hS dX3_load_38 ?_ ?_ ?_
        · exact rfl
        · exact rfl
        · exact (by rw [← hz, show (mLoadC p0 (u 4)) = 2 from by unfold mLoadC; rw [if_neg c_10, if_pos c_23]])
    · refine lv_iconst (v := 0) hx hb dX3_load_26 (by decide +kernel) ?_
      refine lv_goto (tgt := 31) hx hb dX3_load_27 (by decide) ?_
      refine g_callV (As := [.int 0]) (rest := []) hx hb hml hown hts (ctX3_refused l D cI cZ q u 0) gX3_load_X3_refused rfl rfl rfl hdX3_refused ⟨Nat.le_of_ble_eq_true rfl, Nat.le_of_ble_eq_true rfl⟩ gEM_true trivial hP hK hD hS hA 0 rfl rfl rfl hl.1 rfl (Nat.le_of_ble_eq_true rfl) dX3_load_31 ⟨Nat.zero_le _, Nat.zero_le _⟩ (fun H locs hP hD hS => ?_)
      obtain ⟨hP, hD⟩ := g_toPD hP hD (MW_ext (Y := (mS u 14 (fun _ => 0))) (by refine ⟨?_, ?_, ?_, ?_, ?_, ?_, ?_, ?_, ?_, ?_, ?_, ?_, ?_, ?_, ?_, ?_, ?_, ?_⟩ <;> simp only [mS_at, ↓reduceIte, Nat.reduceEqDiff] <;> rfl))
      refine W.eq (g2 := F0 m 34 ls [.int (if 0 = 0 then 0 else 1)]) rfl ?_
      refine lv_if_eq (tgt := 39) hx hb dX3_load_34 (by decide) (fun c_34 => ?_) (fun c_34 => ?_)
      · exact absurd (hz.symm.trans (by unfold mLoadC; rw [if_neg c_10, if_neg c_23])) hz0
      · exact absurd (show (0 : Int32) = 0 from rfl) c_34
  · refine lv_iconst (v := 1) hx hb dX3_load_13 (by decide +kernel) ?_
    refine lv_goto (tgt := 31) hx hb dX3_load_14 (by decide) ?_
    refine g_callV (As := [.int 1]) (rest := []) hx hb hml hown hts (ctX3_refused l D cI cZ q u 1) gX3_load_X3_refused rfl rfl rfl hdX3_refused ⟨Nat.le_of_ble_eq_true rfl, Nat.le_of_ble_eq_true rfl⟩ gEM_true trivial hP hK hD hS hA 0 rfl rfl rfl hl.1 rfl (Nat.le_of_ble_eq_true rfl) dX3_load_31 ⟨Nat.zero_le _, Nat.zero_le _⟩ (fun H locs hP hD hS => ?_)
    obtain ⟨hP, hD⟩ := g_toPD hP hD (MW_ext (Y := (mS u 14 (fun _ => 1))) (by refine ⟨?_, ?_, ?_, ?_, ?_, ?_, ?_, ?_, ?_, ?_, ?_, ?_, ?_, ?_, ?_, ?_, ?_, ?_⟩ <;> simp only [mS_at, ↓reduceIte, Nat.reduceEqDiff] <;> rfl))
    refine W.eq (g2 := F0 m 34 ls [.int (if 1 = 0 then 0 else 1)]) rfl ?_
    refine lv_if_eq (tgt := 39) hx hb dX3_load_34 (by decide) (fun c_34 => ?_) (fun c_34 => ?_)
    · exact absurd c_34 (by decide)
    · refine lv_iconst (v := 0) hx hb dX3_load_37 (by decide +kernel) ?_
      refine g_zret (u1 := (mS u 14 (fun _ => 1))) hx hb hret hlk hQ hP hD hS dX3_load_38 ?_ ?_ ?_
      · exact rfl
      · exact rfl
      · exact (by rw [← hz, show (mLoadC p0 (u 4)) = 1 from by unfold mLoadC; rw [if_pos c_10]])
theorem lkX3_isNeeded_16 : Cond.fieldLink RX3 16 "FetchHouseModel" "slots" "[I" ∈ wsX3_isNeeded := List.mem_of_getElem? (i := 2) (by decide +kernel)
theorem lkX3_isNeeded_61 : Cond.fieldLink RX3 61 "FetchHouseModel" "made" "I" ∈ wsX3_isNeeded := List.mem_of_getElem? (i := 1) (by decide +kernel)
theorem inX3_isNeeded_RX3 : ∀ w ∈ u_ws RX3 TX3 18, w ∈ wsX3_isNeeded := fun w h => List.mem_cons_of_mem _ (List.mem_append_right _ h)
abbrev rmX3_isNeeded_0 : Room := { frames := 3, cells := 0, slots := 0, locals := 65 }
set_option maxHeartbeats 4000000 in
set_option maxRecDepth 100000 in
theorem ctX3_isNeeded_0 (l : Launch) (D : va_G) (cI cZ : ClassId) (q : Nat → Nat) (u : SM) (n : Nat) (hn : u 15 0 = nI n) (h60 : n ≤ 60) (p1 : Int32) : gM l yX3_isNeeded wsX3_isNeeded rmX3_isNeeded_0 D [(cI, .int), (cZ, .boolean)] (MW cI cZ q) (fun _ => True) [.ref (q 0), .int 0, .int p1] u (some (.int (mNeed n (u 3) 0 (u 2) p1))) u := by
  refine g_start (cc := cX3_isNeeded) (maxL := 5) (ret := (some .boolean)) (by decide) rfl (Nat.le_of_ble_eq_true rfl) ?_
  intro p e s m below meth c A ls Q hx hb hml hret hts hown hlk hE hP hK hD hA hl hQ hS
  have hown : s.vm.findClass RX3 = some m.cls := hown
  have hl : lv_has ls 5 [(0, .ref (q 0)), (1, .int 0), (2, .int p1)] := hl
  refine lv_iconst (v := 0) hx hb dX3_isNeeded_0 (by decide +kernel) ?_
  refine lv_istore_n (lv' := [(3, .int 0), (0, .ref (q 0)), (1, .int 0), (2, .int p1)]) hx hb dX3_isNeeded_1 rfl hl (by decide) rfl (fun ls hl => ?_)
  refine lv_iconst (v := (nI 0)) hx hb dX3_isNeeded_2 (by decide +kernel) ?_
  refine lv_istore (lv' := [(4, .int (nI 0)), (3, .int 0), (0, .ref (q 0)), (1, .int 0), (2, .int p1)]) hx hb dX3_isNeeded_3 hl (by decide) rfl (fun ls hl => ?_)
  have loop : ∀ (d k : Nat) (t : Int32) (H : Heap) (locs : List Loc) (ls : Array Slot) (hP : va_P D vwCl (MW cI cZ q u) H) (hD : va_D A (MW cI cZ q u)) (hS : va_S A s.heap H locs) (hl : lv_has ls 5 [(0, .ref (q 0)), (1, .int 0), (2, .int p1), (3, .int t), (4, .int (nI k))]) (hk : k + d = 4 * n) (ht : t = 0 ∨ t = 1) (hr : itU (mNeedStep n (u 3) 0 (u 2) p1) d k t = (mNeed n (u 3) 0 (u 2) p1)), W p l e rmX3_isNeeded_0 s m ([.ref (q 0), .int 0, .int p1] : List Value).toArray below meth c H locs 0 0 Q (F0 m 5 ls []) := by
    intro d
    induction d with
    | zero =>
      intro k t H locs ls hP hD hS hl hk ht hr
      refine lv_iload hx hb dX3_isNeeded_5 (lv_at hl 4 rfl) ?_
      refine lv_iconst (v := 4) hx hb dX3_isNeeded_7 (by decide +kernel) ?_
      refine lv_aload_n hx hb dX3_isNeeded_8 rfl (lv_at hl 0 rfl) ?_
      refine va_get (ci := 3) (v := .int (nI n)) (C := RX3) (T := TX3) (N := 18) hx hb hts inX3_isNeeded_RX3 hown hK hP 0 rfl rfl 1 (by decide) (hts _ lkX3_isNeeded_61) (fun _ h9 => h9) (congrArg (fun z => some (Value.int z)) hn) dX3_isNeeded_9 ?_
      refine lv_imul hx hb dX3_isNeeded_12 ?_
      refine lv_icmp_ge (tgt := 55) hx hb dX3_isNeeded_13 (by decide) (fun c_13 => ?_) (fun c_13 => ?_)
      · have n_13 : (4 * n) ≤ k := (g_leI (a := (4 * n)) (b := k) (g_mulE rfl rfl) rfl (by omega) (by omega)).mp c_13
        refine lv_iload_n hx hb dX3_isNeeded_55 rfl (lv_at hl 3 rfl) ?_
        refine g_zret (u1 := u) hx hb hret hlk hQ hP hD hS dX3_isNeeded_56 ?_ ?_ ?_
        · exact g_nar01 _ ht
        · exact (by rw [← hr]; rfl)
        · exact rfl
      · have n_13 : ¬ (4 * n) ≤ k := fun h => c_13 ((g_leI (a := (4 * n)) (b := k) (g_mulE rfl rfl) rfl (by omega) (by omega)).mpr h)
        exfalso; omega
    | succ d ih =>
      intro k t H locs ls hP hD hS hl hk ht hr
      refine lv_iload hx hb dX3_isNeeded_5 (lv_at hl 4 rfl) ?_
      refine lv_iconst (v := 4) hx hb dX3_isNeeded_7 (by decide +kernel) ?_
      refine lv_aload_n hx hb dX3_isNeeded_8 rfl (lv_at hl 0 rfl) ?_
      refine va_get (ci := 3) (v := .int (nI n)) (C := RX3) (T := TX3) (N := 18) hx hb hts inX3_isNeeded_RX3 hown hK hP 0 rfl rfl 1 (by decide) (hts _ lkX3_isNeeded_61) (fun _ h9 => h9) (congrArg (fun z => some (Value.int z)) hn) dX3_isNeeded_9 ?_
      refine lv_imul hx hb dX3_isNeeded_12 ?_
      refine lv_icmp_ge (tgt := 55) hx hb dX3_isNeeded_13 (by decide) (fun c_13 => ?_) (fun c_13 => ?_)
      · have n_13 : (4 * n) ≤ k := (g_leI (a := (4 * n)) (b := k) (g_mulE rfl rfl) rfl (by omega) (by omega)).mp c_13
        exfalso; omega
      · have n_13 : ¬ (4 * n) ≤ k := fun h => c_13 ((g_leI (a := (4 * n)) (b := k) (g_mulE rfl rfl) rfl (by omega) (by omega)).mpr h)
        refine lv_iload_n hx hb dX3_isNeeded_16 rfl (lv_at hl 3 rfl) ?_
        refine lv_if_ne (tgt := 43) hx hb dX3_isNeeded_17 (by decide) (fun c_17 => ?_) (fun c_17 => ?_)
        · refine lv_iconst (v := 1) hx hb dX3_isNeeded_43 (by decide +kernel) ?_
          refine lv_goto (tgt := 48) hx hb dX3_isNeeded_44 (by decide) ?_
          refine lv_istore_n (lv' := [(3, .int 1), (0, .ref (q 0)), (1, .int 0), (2, .int p1), (4, .int (nI k))]) hx hb dX3_isNeeded_48 rfl hl (by decide) rfl (fun ls hl => ?_)
          refine lv_iinc (v := (nI (k + 1))) (lv' := [(4, .int (nI (k + 1))), (3, .int 1), (0, .ref (q 0)), (1, .int 0), (2, .int p1)]) hx hb dX3_isNeeded_49 hl (k := 4) rfl (nI_1 _) (by decide) rfl (fun ls hl => ?_)
          refine lv_goto (tgt := 5) hx hb dX3_isNeeded_52 (by decide) ?_
          exact ih (k + 1) 1 _ _ _ hP hD hS (lv_sub hl [2, 3, 4, 1, 0] rfl) (by omega) (Or.inr rfl) (by rw [← hr]; show _ = itU _ d (k + 1) (mNeedStep _ _ _ _ _ k t); rw [show mNeedStep n (u 3) 0 (u 2) p1 k t = 1 from by unfold mNeedStep; rw [if_neg c_17]])
        · refine lv_aload_n hx hb dX3_isNeeded_20 rfl (lv_at hl 0 rfl) ?_
          refine va_get (ci := 3) (v := .ref (q 3)) (C := RX3) (T := TX3) (N := 18) hx hb hts inX3_isNeeded_RX3 hown hK hP 0 rfl rfl 4 (by decide) (hts _ lkX3_isNeeded_16) (fun _ h9 => h9) rfl dX3_isNeeded_21 ?_
          refine lv_iload hx hb dX3_isNeeded_24 (lv_at hl 4 rfl) ?_
          refine g_iald (n := 240) (f := (u 2)) hx hb hK hP 3 0 (MW_get_2 _) rfl k (by omega) (by omega) rfl dX3_isNeeded_26 ?_
          refine lv_iload_n hx hb dX3_isNeeded_27 rfl (lv_at hl 2 rfl) ?_
          refine lv_icmp_ne (tgt := 47) hx hb dX3_isNeeded_28 (by decide) (fun c_28 => ?_) (fun c_28 => ?_)
          · refine lv_iconst (v := 0) hx hb dX3_isNeeded_47 (by decide +kernel) ?_
            refine lv_istore_n (lv' := [(3, .int 0), (0, .ref (q 0)), (1, .int 0), (2, .int p1), (4, .int (nI k))]) hx hb dX3_isNeeded_48 rfl hl (by decide) rfl (fun ls hl => ?_)
            refine lv_iinc (v := (nI (k + 1))) (lv' := [(4, .int (nI (k + 1))), (3, .int 0), (0, .ref (q 0)), (1, .int 0), (2, .int p1)]) hx hb dX3_isNeeded_49 hl (k := 4) rfl (nI_1 _) (by decide) rfl (fun ls hl => ?_)
            refine lv_goto (tgt := 5) hx hb dX3_isNeeded_52 (by decide) ?_
            exact ih (k + 1) 0 _ _ _ hP hD hS (lv_sub hl [2, 3, 4, 1, 0] rfl) (by omega) (Or.inl rfl) (by rw [← hr]; show _ = itU _ d (k + 1) (mNeedStep _ _ _ _ _ k t); rw [show mNeedStep n (u 3) 0 (u 2) p1 k t = 0 from by unfold mNeedStep; rw [if_pos c_17, if_neg c_28]])
          · refine lv_aload_n hx hb dX3_isNeeded_31 rfl (lv_at hl 0 rfl) ?_
            refine lv_iload_n hx hb dX3_isNeeded_32 rfl (lv_at hl 1 rfl) ?_
            refine lv_iload hx hb dX3_isNeeded_33 (lv_at hl 4 rfl) ?_
            refine lv_iconst (v := 4) hx hb dX3_isNeeded_35 (by decide +kernel) ?_
            refine lv_idiv hx hb dX3_isNeeded_36 (by decide +kernel) ?_
            refine W.eq (g2 := F0 m 37 ls [.int (nI (k / 4)), .int 0, .ref (q 0)]) (by rw [show (4 : Int32) = nI 4 from rfl, pk_div (by omega) (by omega) (by omega)]) ?_
            refine g_callV (As := [.int 0, .int (nI (k / 4))]) (rest := []) hx hb hml hown hts (ctX3_isIn_0 l D cI cZ q u n hn h60 (nI (k / 4))) gX3_isNeeded_X3_isIn rfl rfl rfl hdX3_isIn ⟨Nat.le_of_ble_eq_true rfl, Nat.le_of_ble_eq_true rfl⟩ gEM_true trivial hP hK hD hS hA 0 rfl rfl rfl hl.1 rfl (Nat.le_of_ble_eq_true rfl) dX3_isNeeded_37 ⟨Nat.zero_le _, Nat.zero_le _⟩ (fun H locs hP hD hS => ?_)
            refine W.eq (g2 := F0 m 40 ls [.int (mHas n (u 3) 0 (nI (k / 4)))]) rfl ?_
            refine lv_if_eq (tgt := 47) hx hb dX3_isNeeded_40 (by decide) (fun c_40 => ?_) (fun c_40 => ?_)
            · refine lv_iconst (v := 0) hx hb dX3_isNeeded_47 (by decide +kernel) ?_
              refine lv_istore_n (lv' := [(3, .int 0), (0, .ref (q 0)), (1, .int 0), (2, .int p1), (4, .int (nI k))]) hx hb dX3_isNeeded_48 rfl hl (by decide) rfl (fun ls hl => ?_)
              refine lv_iinc (v := (nI (k + 1))) (lv' := [(4, .int (nI (k + 1))), (3, .int 0), (0, .ref (q 0)), (1, .int 0), (2, .int p1)]) hx hb dX3_isNeeded_49 hl (k := 4) rfl (nI_1 _) (by decide) rfl (fun ls hl => ?_)
              refine lv_goto (tgt := 5) hx hb dX3_isNeeded_52 (by decide) ?_
              exact ih (k + 1) 0 _ _ _ hP hD hS (lv_sub hl [2, 3, 4, 1, 0] rfl) (by omega) (Or.inl rfl) (by rw [← hr]; show _ = itU _ d (k + 1) (mNeedStep _ _ _ _ _ k t); rw [show mNeedStep n (u 3) 0 (u 2) p1 k t = 0 from by unfold mNeedStep; rw [if_pos c_17, if_pos c_28, if_pos c_40]])
            · refine lv_iconst (v := 1) hx hb dX3_isNeeded_43 (by decide +kernel) ?_
              refine lv_goto (tgt := 48) hx hb dX3_isNeeded_44 (by decide) ?_
              refine lv_istore_n (lv' := [(3, .int 1), (0, .ref (q 0)), (1, .int 0), (2, .int p1), (4, .int (nI k))]) hx hb dX3_isNeeded_48 rfl hl (by decide) rfl (fun ls hl => ?_)
              refine lv_iinc (v := (nI (k + 1))) (lv' := [(4, .int (nI (k + 1))), (3, .int 1), (0, .ref (q 0)), (1, .int 0), (2, .int p1)]) hx hb dX3_isNeeded_49 hl (k := 4) rfl (nI_1 _) (by decide) rfl (fun ls hl => ?_)
              refine lv_goto (tgt := 5) hx hb dX3_isNeeded_52 (by decide) ?_
              exact ih (k + 1) 1 _ _ _ hP hD hS (lv_sub hl [2, 3, 4, 1, 0] rfl) (by omega) (Or.inr rfl) (by rw [← hr]; show _ = itU _ d (k + 1) (mNeedStep _ _ _ _ _ k t); rw [show mNeedStep n (u 3) 0 (u 2) p1 k t = 1 from by unfold mNeedStep; rw [if_pos c_17, if_pos c_28, if_neg c_40]])
  exact loop (4 * n) 0 0 _ _ _ hP hD hS (lv_sub hl [2, 3, 4, 1, 0] rfl) (by omega) (Or.inl rfl) rfl
abbrev rmX3_isNeeded_1 : Room := { frames := 3, cells := 0, slots := 0, locals := 65 }
set_option maxHeartbeats 4000000 in
set_option maxRecDepth 100000 in
theorem ctX3_isNeeded_1 (l : Launch) (D : va_G) (cI cZ : ClassId) (q : Nat → Nat) (u : SM) (n : Nat) (hn : u 15 0 = nI n) (h60 : n ≤ 60) (p1 : Int32) : gM l yX3_isNeeded wsX3_isNeeded rmX3_isNeeded_1 D [(cI, .int), (cZ, .boolean)] (MW cI cZ q) (fun _ => True) [.ref (q 0), .int 1, .int p1] u (some (.int (mNeed n (u 3) 1 (u 2) p1))) u := by
  refine g_start (cc := cX3_isNeeded) (maxL := 5) (ret := (some .boolean)) (by decide) rfl (Nat.le_of_ble_eq_true rfl) ?_
  intro p e s m below meth c A ls Q hx hb hml hret hts hown hlk hE hP hK hD hA hl hQ hS
  have hown : s.vm.findClass RX3 = some m.cls := hown
  have hl : lv_has ls 5 [(0, .ref (q 0)), (1, .int 1), (2, .int p1)] := hl
  refine lv_iconst (v := 0) hx hb dX3_isNeeded_0 (by decide +kernel) ?_
  refine lv_istore_n (lv' := [(3, .int 0), (0, .ref (q 0)), (1, .int 1), (2, .int p1)]) hx hb dX3_isNeeded_1 rfl hl (by decide) rfl (fun ls hl => ?_)
  refine lv_iconst (v := (nI 0)) hx hb dX3_isNeeded_2 (by decide +kernel) ?_
  refine lv_istore (lv' := [(4, .int (nI 0)), (3, .int 0), (0, .ref (q 0)), (1, .int 1), (2, .int p1)]) hx hb dX3_isNeeded_3 hl (by decide) rfl (fun ls hl => ?_)
  have loop : ∀ (d k : Nat) (t : Int32) (H : Heap) (locs : List Loc) (ls : Array Slot) (hP : va_P D vwCl (MW cI cZ q u) H) (hD : va_D A (MW cI cZ q u)) (hS : va_S A s.heap H locs) (hl : lv_has ls 5 [(0, .ref (q 0)), (1, .int 1), (2, .int p1), (3, .int t), (4, .int (nI k))]) (hk : k + d = 4 * n) (ht : t = 0 ∨ t = 1) (hr : itU (mNeedStep n (u 3) 1 (u 2) p1) d k t = (mNeed n (u 3) 1 (u 2) p1)), W p l e rmX3_isNeeded_1 s m ([.ref (q 0), .int 1, .int p1] : List Value).toArray below meth c H locs 0 0 Q (F0 m 5 ls []) := by
    intro d
    induction d with
    | zero =>
      intro k t H locs ls hP hD hS hl hk ht hr
      refine lv_iload hx hb dX3_isNeeded_5 (lv_at hl 4 rfl) ?_
      refine lv_iconst (v := 4) hx hb dX3_isNeeded_7 (by decide +kernel) ?_
      refine lv_aload_n hx hb dX3_isNeeded_8 rfl (lv_at hl 0 rfl) ?_
      refine va_get (ci := 3) (v := .int (nI n)) (C := RX3) (T := TX3) (N := 18) hx hb hts inX3_isNeeded_RX3 hown hK hP 0 rfl rfl 1 (by decide) (hts _ lkX3_isNeeded_61) (fun _ h9 => h9) (congrArg (fun z => some (Value.int z)) hn) dX3_isNeeded_9 ?_
      refine lv_imul hx hb dX3_isNeeded_12 ?_
      refine lv_icmp_ge (tgt := 55) hx hb dX3_isNeeded_13 (by decide) (fun c_13 => ?_) (fun c_13 => ?_)
      · have n_13 : (4 * n) ≤ k := (g_leI (a := (4 * n)) (b := k) (g_mulE rfl rfl) rfl (by omega) (by omega)).mp c_13
        refine lv_iload_n hx hb dX3_isNeeded_55 rfl (lv_at hl 3 rfl) ?_
        refine g_zret (u1 := u) hx hb hret hlk hQ hP hD hS dX3_isNeeded_56 ?_ ?_ ?_
        · exact g_nar01 _ ht
        · exact (by rw [← hr]; rfl)
        · exact rfl
      · have n_13 : ¬ (4 * n) ≤ k := fun h => c_13 ((g_leI (a := (4 * n)) (b := k) (g_mulE rfl rfl) rfl (by omega) (by omega)).mpr h)
        exfalso; omega
    | succ d ih =>
      intro k t H locs ls hP hD hS hl hk ht hr
      refine lv_iload hx hb dX3_isNeeded_5 (lv_at hl 4 rfl) ?_
      refine lv_iconst (v := 4) hx hb dX3_isNeeded_7 (by decide +kernel) ?_
      refine lv_aload_n hx hb dX3_isNeeded_8 rfl (lv_at hl 0 rfl) ?_
      refine va_get (ci := 3) (v := .int (nI n)) (C := RX3) (T := TX3) (N := 18) hx hb hts inX3_isNeeded_RX3 hown hK hP 0 rfl rfl 1 (by decide) (hts _ lkX3_isNeeded_61) (fun _ h9 => h9) (congrArg (fun z => some (Value.int z)) hn) dX3_isNeeded_9 ?_
      refine lv_imul hx hb dX3_isNeeded_12 ?_
      refine lv_icmp_ge (tgt := 55) hx hb dX3_isNeeded_13 (by decide) (fun c_13 => ?_) (fun c_13 => ?_)
      · have n_13 : (4 * n) ≤ k := (g_leI (a := (4 * n)) (b := k) (g_mulE rfl rfl) rfl (by omega) (by omega)).mp c_13
        exfalso; omega
      · have n_13 : ¬ (4 * n) ≤ k := fun h => c_13 ((g_leI (a := (4 * n)) (b := k) (g_mulE rfl rfl) rfl (by omega) (by omega)).mpr h)
        refine lv_iload_n hx hb dX3_isNeeded_16 rfl (lv_at hl 3 rfl) ?_
        refine lv_if_ne (tgt := 43) hx hb dX3_isNeeded_17 (by decide) (fun c_17 => ?_) (fun c_17 => ?_)
        · refine lv_iconst (v := 1) hx hb dX3_isNeeded_43 (by decide +kernel) ?_
          refine lv_goto (tgt := 48) hx hb dX3_isNeeded_44 (by decide) ?_
          refine lv_istore_n (lv' := [(3, .int 1), (0, .ref (q 0)), (1, .int 1), (2, .int p1), (4, .int (nI k))]) hx hb dX3_isNeeded_48 rfl hl (by decide) rfl (fun ls hl => ?_)
          refine lv_iinc (v := (nI (k + 1))) (lv' := [(4, .int (nI (k + 1))), (3, .int 1), (0, .ref (q 0)), (1, .int 1), (2, .int p1)]) hx hb dX3_isNeeded_49 hl (k := 4) rfl (nI_1 _) (by decide) rfl (fun ls hl => ?_)
          refine lv_goto (tgt := 5) hx hb dX3_isNeeded_52 (by decide) ?_
          exact ih (k + 1) 1 _ _ _ hP hD hS (lv_sub hl [2, 3, 4, 1, 0] rfl) (by omega) (Or.inr rfl) (by rw [← hr]; show _ = itU _ d (k + 1) (mNeedStep _ _ _ _ _ k t); rw [show mNeedStep n (u 3) 1 (u 2) p1 k t = 1 from by unfold mNeedStep; rw [if_neg c_17]])
        · refine lv_aload_n hx hb dX3_isNeeded_20 rfl (lv_at hl 0 rfl) ?_
          refine va_get (ci := 3) (v := .ref (q 3)) (C := RX3) (T := TX3) (N := 18) hx hb hts inX3_isNeeded_RX3 hown hK hP 0 rfl rfl 4 (by decide) (hts _ lkX3_isNeeded_16) (fun _ h9 => h9) rfl dX3_isNeeded_21 ?_
          refine lv_iload hx hb dX3_isNeeded_24 (lv_at hl 4 rfl) ?_
          refine g_iald (n := 240) (f := (u 2)) hx hb hK hP 3 0 (MW_get_2 _) rfl k (by omega) (by omega) rfl dX3_isNeeded_26 ?_
          refine lv_iload_n hx hb dX3_isNeeded_27 rfl (lv_at hl 2 rfl) ?_
          refine lv_icmp_ne (tgt := 47) hx hb dX3_isNeeded_28 (by decide) (fun c_28 => ?_) (fun c_28 => ?_)
          · refine lv_iconst (v := 0) hx hb dX3_isNeeded_47 (by decide +kernel) ?_
            refine lv_istore_n (lv' := [(3, .int 0), (0, .ref (q 0)), (1, .int 1), (2, .int p1), (4, .int (nI k))]) hx hb dX3_isNeeded_48 rfl hl (by decide) rfl (fun ls hl => ?_)
            refine lv_iinc (v := (nI (k + 1))) (lv' := [(4, .int (nI (k + 1))), (3, .int 0), (0, .ref (q 0)), (1, .int 1), (2, .int p1)]) hx hb dX3_isNeeded_49 hl (k := 4) rfl (nI_1 _) (by decide) rfl (fun ls hl => ?_)
            refine lv_goto (tgt := 5) hx hb dX3_isNeeded_52 (by decide) ?_
            exact ih (k + 1) 0 _ _ _ hP hD hS (lv_sub hl [2, 3, 4, 1, 0] rfl) (by omega) (Or.inl rfl) (by rw [← hr]; show _ = itU _ d (k + 1) (mNeedStep _ _ _ _ _ k t); rw [show mNeedStep n (u 3) 1 (u 2) p1 k t = 0 from by unfold mNeedStep; rw [if_pos c_17, if_neg c_28]])
          · refine lv_aload_n hx hb dX3_isNeeded_31 rfl (lv_at hl 0 rfl) ?_
            refine lv_iload_n hx hb dX3_isNeeded_32 rfl (lv_at hl 1 rfl) ?_
            refine lv_iload hx hb dX3_isNeeded_33 (lv_at hl 4 rfl) ?_
            refine lv_iconst (v := 4) hx hb dX3_isNeeded_35 (by decide +kernel) ?_
            refine lv_idiv hx hb dX3_isNeeded_36 (by decide +kernel) ?_
            refine W.eq (g2 := F0 m 37 ls [.int (nI (k / 4)), .int 1, .ref (q 0)]) (by rw [show (4 : Int32) = nI 4 from rfl, pk_div (by omega) (by omega) (by omega)]) ?_
            refine g_callV (As := [.int 1, .int (nI (k / 4))]) (rest := []) hx hb hml hown hts (ctX3_isIn_1 l D cI cZ q u n hn h60 (nI (k / 4))) gX3_isNeeded_X3_isIn rfl rfl rfl hdX3_isIn ⟨Nat.le_of_ble_eq_true rfl, Nat.le_of_ble_eq_true rfl⟩ gEM_true trivial hP hK hD hS hA 0 rfl rfl rfl hl.1 rfl (Nat.le_of_ble_eq_true rfl) dX3_isNeeded_37 ⟨Nat.zero_le _, Nat.zero_le _⟩ (fun H locs hP hD hS => ?_)
            refine W.eq (g2 := F0 m 40 ls [.int (mHas n (u 3) 1 (nI (k / 4)))]) rfl ?_
            refine lv_if_eq (tgt := 47) hx hb dX3_isNeeded_40 (by decide) (fun c_40 => ?_) (fun c_40 => ?_)
            · refine lv_iconst (v := 0) hx hb dX3_isNeeded_47 (by decide +kernel) ?_
              refine lv_istore_n (lv' := [(3, .int 0), (0, .ref (q 0)), (1, .int 1), (2, .int p1), (4, .int (nI k))]) hx hb dX3_isNeeded_48 rfl hl (by decide) rfl (fun ls hl => ?_)
              refine lv_iinc (v := (nI (k + 1))) (lv' := [(4, .int (nI (k + 1))), (3, .int 0), (0, .ref (q 0)), (1, .int 1), (2, .int p1)]) hx hb dX3_isNeeded_49 hl (k := 4) rfl (nI_1 _) (by decide) rfl (fun ls hl => ?_)
              refine lv_goto (tgt := 5) hx hb dX3_isNeeded_52 (by decide) ?_
              exact ih (k + 1) 0 _ _ _ hP hD hS (lv_sub hl [2, 3, 4, 1, 0] rfl) (by omega) (Or.inl rfl) (by rw [← hr]; show _ = itU _ d (k + 1) (mNeedStep _ _ _ _ _ k t); rw [show mNeedStep n (u 3) 1 (u 2) p1 k t = 0 from by unfold mNeedStep; rw [if_pos c_17, if_pos c_28, if_pos c_40]])
            · refine lv_iconst (v := 1) hx hb dX3_isNeeded_43 (by decide +kernel) ?_
              refine lv_goto (tgt := 48) hx hb dX3_isNeeded_44 (by decide) ?_
              refine lv_istore_n (lv' := [(3, .int 1), (0, .ref (q 0)), (1, .int 1), (2, .int p1), (4, .int (nI k))]) hx hb dX3_isNeeded_48 rfl hl (by decide) rfl (fun ls hl => ?_)
              refine lv_iinc (v := (nI (k + 1))) (lv' := [(4, .int (nI (k + 1))), (3, .int 1), (0, .ref (q 0)), (1, .int 1), (2, .int p1)]) hx hb dX3_isNeeded_49 hl (k := 4) rfl (nI_1 _) (by decide) rfl (fun ls hl => ?_)
              refine lv_goto (tgt := 5) hx hb dX3_isNeeded_52 (by decide) ?_
              exact ih (k + 1) 1 _ _ _ hP hD hS (lv_sub hl [2, 3, 4, 1, 0] rfl) (by omega) (Or.inr rfl) (by rw [← hr]; show _ = itU _ d (k + 1) (mNeedStep _ _ _ _ _ k t); rw [show mNeedStep n (u 3) 1 (u 2) p1 k t = 1 from by unfold mNeedStep; rw [if_pos c_17, if_pos c_28, if_neg c_40]])
  exact loop (4 * n) 0 0 _ _ _ hP hD hS (lv_sub hl [2, 3, 4, 1, 0] rfl) (by omega) (Or.inl rfl) rfl
theorem lkX3_missing_23 : Cond.fieldLink RX3 23 "FetchHouseModel" "hasFile" "[Z" ∈ wsX3_missing := List.mem_of_getElem? (i := 1) (by decide +kernel)
theorem inX3_missing_RX3 : ∀ w ∈ u_ws RX3 TX3 18, w ∈ wsX3_missing := fun w h => List.mem_cons_of_mem _ (List.mem_append_right _ h)
abbrev rmX3_missing : Room := { frames := 4, cells := 0, slots := 0, locals := 89 }
set_option maxHeartbeats 4000000 in
set_option maxRecDepth 100000 in
theorem ctX3_missing (l : Launch) (D : va_G) (cI cZ : ClassId) (q : Nat → Nat) (u : SM) (n : Nat) (hn : u 15 0 = nI n) (h60 : n ≤ 60) : gM l yX3_missing wsX3_missing rmX3_missing D [(cI, .int), (cZ, .boolean)] (MW cI cZ q) (fun _ => True) [.ref (q 0)] u (some (.int (mMiss n (u 3) (u 2) (u 4)))) (mS u 14 (fun _ => 0)) := by
  refine g_start (cc := cX3_missing) (maxL := 3) (ret := (some .int)) (by decide) rfl (Nat.le_of_ble_eq_true rfl) ?_
  intro p e s m below meth c A ls Q hx hb hml hret hts hown hlk hE hP hK hD hA hl hQ hS
  have hown : s.vm.findClass RX3 = some m.cls := hown
  have hl : lv_has ls 3 [(0, .ref (q 0))] := hl
  refine lv_iconst (v := 0) hx hb dX3_missing_0 (by decide +kernel) ?_
  refine lv_istore_n (lv' := [(1, .int 0), (0, .ref (q 0))]) hx hb dX3_missing_1 rfl hl (by decide) rfl (fun ls hl => ?_)
  refine lv_iconst (v := (nI 0)) hx hb dX3_missing_2 (by decide +kernel) ?_
  refine lv_istore_n (lv' := [(2, .int (nI 0)), (1, .int 0), (0, .ref (q 0))]) hx hb dX3_missing_3 rfl hl (by decide) rfl (fun ls hl => ?_)
  have loop : ∀ (d k : Nat) (cn : Int32) (H : Heap) (locs : List Loc) (ls : Array Slot) (hP : va_P D vwCl (MW cI cZ q u) H) (hD : va_D A (MW cI cZ q u)) (hS : va_S A s.heap H locs) (hl : lv_has ls 3 [(0, .ref (q 0)), (1, .int cn), (2, .int (nI k))]) (hk : k + d = 100) (hr : itU (mMissStep n (u 3) (u 2) (u 4)) d k cn = (mMiss n (u 3) (u 2) (u 4))), W p l e rmX3_missing s m ([.ref (q 0)] : List Value).toArray below meth c H locs 0 0 Q (F0 m 4 ls []) := by
    intro d
    induction d with
    | zero =>
      intro k cn H locs ls hP hD hS hl hk hr
      refine lv_iload_n hx hb dX3_missing_4 rfl (lv_at hl 2 rfl) ?_
      refine lv_bipush (v := 100) hx hb dX3_missing_5 (by decide +kernel) ?_
      refine lv_icmp_ge (tgt := 45) hx hb dX3_missing_7 (by decide) (fun c_7 => ?_) (fun c_7 => ?_)
      · have n_7 : 100 ≤ k := (g_leI (a := 100) (b := k) rfl rfl (by decide) (by omega)).mp c_7
        refine lv_aload_n hx hb dX3_missing_45 rfl (lv_at hl 0 rfl) ?_
        refine lv_iload_n hx hb dX3_missing_46 rfl (lv_at hl 1 rfl) ?_
        refine g_callV (As := [.int cn]) (rest := []) hx hb hml hown hts (ctX3_fine l D cI cZ q u cn) gX3_missing_X3_fine rfl rfl rfl hdX3_fine ⟨Nat.le_of_ble_eq_true rfl, Nat.le_of_ble_eq_true rfl⟩ gEM_true trivial hP hK hD hS hA 0 rfl rfl rfl hl.1 rfl (Nat.le_of_ble_eq_true rfl) dX3_missing_47 ⟨Nat.zero_le _, Nat.zero_le _⟩ (fun H locs hP hD hS => ?_)
        obtain ⟨hP, hD⟩ := g_toPD hP hD (MW_ext (Y := (mS u 14 (fun _ => 0))) (by refine ⟨?_, ?_, ?_, ?_, ?_, ?_, ?_, ?_, ?_, ?_, ?_, ?_, ?_, ?_, ?_, ?_, ?_, ?_⟩ <;> simp only [mS_at, ↓reduceIte, Nat.reduceEqDiff] <;> rfl))
        refine W.eq (g2 := F0 m 50 ls [.int cn]) rfl ?_
        refine g_iret (u1 := (mS u 14 (fun _ => 0))) hx hb hret hlk hQ hP hD hS dX3_missing_50 ?_ ?_
        · exact (by rw [← hr]; rfl)
        · exact (MW_ext (by refine ⟨?_, ?_, ?_, ?_, ?_, ?_, ?_, ?_, ?_, ?_, ?_, ?_, ?_, ?_, ?_, ?_, ?_, ?_⟩ <;> simp only [mS_at, ↓reduceIte, Nat.reduceEqDiff] <;> rfl))
      · have n_7 : ¬ 100 ≤ k := fun h => c_7 ((g_leI (a := 100) (b := k) rfl rfl (by decide) (by omega)).mpr h)
        exfalso; omega
    | succ d ih =>
      intro k cn H locs ls hP hD hS hl hk hr
      refine lv_iload_n hx hb dX3_missing_4 rfl (lv_at hl 2 rfl) ?_
      refine lv_bipush (v := 100) hx hb dX3_missing_5 (by decide +kernel) ?_
      refine lv_icmp_ge (tgt := 45) hx hb dX3_missing_7 (by decide) (fun c_7 => ?_) (fun c_7 => ?_)
      · have n_7 : 100 ≤ k := (g_leI (a := 100) (b := k) rfl rfl (by decide) (by omega)).mp c_7
        exfalso; omega
      · have n_7 : ¬ 100 ≤ k := fun h => c_7 ((g_leI (a := 100) (b := k) rfl rfl (by decide) (by omega)).mpr h)
        refine lv_iload_n hx hb dX3_missing_10 rfl (lv_at hl 1 rfl) ?_
        refine lv_aload_n hx hb dX3_missing_11 rfl (lv_at hl 0 rfl) ?_
        refine va_get (ci := 3) (v := .ref (q 5)) (C := RX3) (T := TX3) (N := 18) hx hb hts inX3_missing_RX3 hown hK hP 0 rfl rfl 6 (by decide) (hts _ lkX3_missing_23) (fun _ h9 => h9) rfl dX3_missing_12 ?_
        refine lv_bipush (v := 100) hx hb dX3_missing_15 (by decide +kernel) ?_
        refine lv_iload_n hx hb dX3_missing_17 rfl (lv_at hl 2 rfl) ?_
        refine lv_iadd hx hb dX3_missing_18 ?_
        refine g_zald (n := 200) (f := (u 4)) hx hb hK hP 5 1 (MW_get_4 _) rfl (100 + k) (by omega) (by omega) (g_addE rfl rfl) dX3_missing_19 ?_
        refine lv_if_ne (tgt := 36) hx hb dX3_missing_20 (by decide) (fun c_20 => ?_) (fun c_20 => ?_)
        · refine lv_iconst (v := 0) hx hb dX3_missing_36 (by decide +kernel) ?_
          refine lv_iadd hx hb dX3_missing_37 ?_
          refine lv_istore_n (lv' := [(1, .int (cn + 0)), (0, .ref (q 0)), (2, .int (nI k))]) hx hb dX3_missing_38 rfl hl (by decide) rfl (fun ls hl => ?_)
          refine lv_iinc (v := (nI (k + 1))) (lv' := [(2, .int (nI (k + 1))), (1, .int (cn + 0)), (0, .ref (q 0))]) hx hb dX3_missing_39 hl (k := 2) rfl (nI_1 _) (by decide) rfl (fun ls hl => ?_)
          refine lv_goto (tgt := 4) hx hb dX3_missing_42 (by decide) ?_
          exact ih (k + 1) (cn + 0) _ _ _ hP hD hS (lv_sub hl [2, 1, 0] rfl) (by omega) (by rw [← hr]; show _ = itU _ d (k + 1) (mMissStep _ _ _ _ k cn); rw [show mMissStep n (u 3) (u 2) (u 4) k cn = (cn + 0) from by unfold mMissStep; rw [if_neg c_20]])
        · refine lv_aload_n hx hb dX3_missing_23 rfl (lv_at hl 0 rfl) ?_
          refine lv_iconst (v := 1) hx hb dX3_missing_24 (by decide +kernel) ?_
          refine lv_iload_n hx hb dX3_missing_25 rfl (lv_at hl 2 rfl) ?_
          refine g_callV (As := [.int 1, .int (nI k)]) (rest := [.int cn]) hx hb hml hown hts (ctX3_isNeeded_1 l D cI cZ q u n hn h60 (nI k)) gX3_missing_X3_isNeeded rfl rfl rfl hdX3_isNeeded ⟨Nat.le_of_ble_eq_true rfl, Nat.le_of_ble_eq_true rfl⟩ gEM_true trivial hP hK hD hS hA 0 rfl rfl rfl hl.1 rfl (Nat.le_of_ble_eq_true rfl) dX3_missing_26 ⟨Nat.zero_le _, Nat.zero_le _⟩ (fun H locs hP hD hS => ?_)
          refine W.eq (g2 := F0 m 29 ls [.int (mNeed n (u 3) 1 (u 2) (nI k)), .int cn]) rfl ?_
          refine lv_if_eq (tgt := 36) hx hb dX3_missing_29 (by decide) (fun c_29 => ?_) (fun c_29 => ?_)
          · refine lv_iconst (v := 0) hx hb dX3_missing_36 (by decide +kernel) ?_
            refine lv_iadd hx hb dX3_missing_37 ?_
            refine lv_istore_n (lv' := [(1, .int (cn + 0)), (0, .ref (q 0)), (2, .int (nI k))]) hx hb dX3_missing_38 rfl hl (by decide) rfl (fun ls hl => ?_)
            refine lv_iinc (v := (nI (k + 1))) (lv' := [(2, .int (nI (k + 1))), (1, .int (cn + 0)), (0, .ref (q 0))]) hx hb dX3_missing_39 hl (k := 2) rfl (nI_1 _) (by decide) rfl (fun ls hl => ?_)
            refine lv_goto (tgt := 4) hx hb dX3_missing_42 (by decide) ?_
            exact ih (k + 1) (cn + 0) _ _ _ hP hD hS (lv_sub hl [2, 1, 0] rfl) (by omega) (by rw [← hr]; show _ = itU _ d (k + 1) (mMissStep _ _ _ _ k cn); rw [show mMissStep n (u 3) (u 2) (u 4) k cn = (cn + 0) from by unfold mMissStep; rw [if_pos c_20, if_pos c_29]])
          · refine lv_iconst (v := 1) hx hb dX3_missing_32 (by decide +kernel) ?_
            refine lv_goto (tgt := 37) hx hb dX3_missing_33 (by decide) ?_
            refine lv_iadd hx hb dX3_missing_37 ?_
            refine lv_istore_n (lv' := [(1, .int (cn + 1)), (0, .ref (q 0)), (2, .int (nI k))]) hx hb dX3_missing_38 rfl hl (by decide) rfl (fun ls hl => ?_)
            refine lv_iinc (v := (nI (k + 1))) (lv' := [(2, .int (nI (k + 1))), (1, .int (cn + 1)), (0, .ref (q 0))]) hx hb dX3_missing_39 hl (k := 2) rfl (nI_1 _) (by decide) rfl (fun ls hl => ?_)
            refine lv_goto (tgt := 4) hx hb dX3_missing_42 (by decide) ?_
            exact ih (k + 1) (cn + 1) _ _ _ hP hD hS (lv_sub hl [2, 1, 0] rfl) (by omega) (by rw [← hr]; show _ = itU _ d (k + 1) (mMissStep _ _ _ _ k cn); rw [show mMissStep n (u 3) (u 2) (u 4) k cn = (cn + 1) from by unfold mMissStep; rw [if_pos c_20, if_neg c_29]])
  exact loop 100 0 0 _ _ _ hP hD hS (lv_sub hl [2, 1, 0] rfl) (by omega) (opq_eq _).symm
theorem lkX3_protect_29 : Cond.fieldLink RX3 29 "FetchHouseModel" "isProtected" "[Z" ∈ wsX3_protect := List.mem_of_getElem? (i := 1) (by decide +kernel)
theorem inX3_protect_RX3 : ∀ w ∈ u_ws RX3 TX3 18, w ∈ wsX3_protect := fun w h => List.mem_cons_of_mem _ (List.mem_append_right _ h)
abbrev rmX3_protect : Room := { frames := 2, cells := 0, slots := 0, locals := 42 }
set_option maxHeartbeats 4000000 in
set_option maxRecDepth 100000 in
theorem ctX3_protect (l : Launch) (D : va_G) (cI cZ : ClassId) (q : Nat → Nat) (u : SM) (p0 p1 : Int32) (h1 : ¬ xRange p0 4 = 0) (h2 : vp_nar .boolean p1 = p1) : gM l yX3_protect wsX3_protect rmX3_protect D [(cI, .int), (cZ, .boolean)] (MW cI cZ q) (fun _ => True) [.ref (q 0), .int p0, .int p1] u (some (.int (if u 6 p0.toNatClampNeg = p1 then 0 else 1))) (mS (mS u 14 (fun _ => 0)) 6 (upd (u 6) p0.toNatClampNeg p1)) := by
  refine g_start (cc := cX3_protect) (maxL := 4) (ret := (some .boolean)) (by decide) rfl (Nat.le_of_ble_eq_true rfl) ?_
  intro p e s m below meth c A ls Q hx hb hml hret hts hown hlk hE hP hK hD hA hl hQ hS
  have hown : s.vm.findClass RX3 = some m.cls := hown
  have hl : lv_has ls 4 [(0, .ref (q 0)), (1, .int p0), (2, .int p1)] := hl
  obtain ⟨j, hj, hj2⟩ := xRange_ne (n := 4) rfl (by omega) h1
  have hjc : p0.toNatClampNeg = j := by rw [hj2, nI_clamp (by omega)]
  have hje : p0 = nI p0.toNatClampNeg := by rw [hjc]; exact hj2
  refine lv_aload_n hx hb dX3_protect_0 rfl (lv_at hl 0 rfl) ?_
  refine lv_iload_n hx hb dX3_protect_1 rfl (lv_at hl 1 rfl) ?_
  refine g_callS0 (As := [.int p0]) (rest := [.ref (q 0)]) hx hb hml hown hts (ctX3_isRef l D cI cZ q p0) gX3_protect_X3_isRef rfl rfl rfl hdX3_isRef ⟨Nat.le_of_ble_eq_true rfl, Nat.le_of_ble_eq_true rfl⟩ gEM_true trivial hP hK hS hA rfl hl.1 rfl (Nat.le_of_ble_eq_true rfl) dX3_protect_2 ⟨Nat.zero_le _, Nat.zero_le _⟩ (fun H locs hP hS => ?_)
  refine W.eq (g2 := F0 m 5 ls [.int (xRange p0 4), .ref (q 0)]) rfl ?_
  refine lv_if_eq (tgt := 12) hx hb dX3_protect_5 (by decide) (fun c_5 => ?_) (fun c_5 => ?_)
  · exact absurd c_5 h1
  · refine lv_iconst (v := 0) hx hb dX3_protect_8 (by decide +kernel) ?_
    refine lv_goto (tgt := 13) hx hb dX3_protect_9 (by decide) ?_
    refine g_callV (As := [.int 0]) (rest := []) hx hb hml hown hts (ctX3_refused l D cI cZ q u 0) gX3_protect_X3_refused rfl rfl rfl hdX3_refused ⟨Nat.le_of_ble_eq_true rfl, Nat.le_of_ble_eq_true rfl⟩ gEM_true trivial hP hK hD hS hA 0 rfl rfl rfl hl.1 rfl (Nat.le_of_ble_eq_true rfl) dX3_protect_13 ⟨Nat.zero_le _, Nat.zero_le _⟩ (fun H locs hP hD hS => ?_)
    obtain ⟨hP, hD⟩ := g_toPD hP hD (MW_ext (Y := (mS u 14 (fun _ => 0))) (by refine ⟨?_, ?_, ?_, ?_, ?_, ?_, ?_, ?_, ?_, ?_, ?_, ?_, ?_, ?_, ?_, ?_, ?_, ?_⟩ <;> simp only [mS_at, ↓reduceIte, Nat.reduceEqDiff] <;> rfl))
    refine W.eq (g2 := F0 m 16 ls [.int (if 0 = 0 then 0 else 1)]) rfl ?_
    refine lv_if_eq (tgt := 21) hx hb dX3_protect_16 (by decide) (fun c_16 => ?_) (fun c_16 => ?_)
    · refine lv_aload_n hx hb dX3_protect_21 rfl (lv_at hl 0 rfl) ?_
      refine va_get (ci := 3) (v := .ref (q 7)) (C := RX3) (T := TX3) (N := 18) hx hb hts inX3_protect_RX3 hown hK hP 0 rfl rfl 8 (by decide) (hts _ lkX3_protect_29) (fun _ h9 => h9) rfl dX3_protect_22 ?_
      refine lv_iload_n hx hb dX3_protect_25 rfl (lv_at hl 1 rfl) ?_
      refine g_zald (n := 4) (f := (u 6)) hx hb hK hP 7 1 (by rw [MW_get_6, show (mS u 14 (fun _ => 0)) 6 = (u 6) from by simp only [mS_at, ↓reduceIte, Nat.reduceEqDiff]]) rfl p0.toNatClampNeg (by omega) (by omega) hje dX3_protect_26 ?_
      refine lv_iload_n hx hb dX3_protect_27 rfl (lv_at hl 2 rfl) ?_
      refine lv_icmp_eq (tgt := 35) hx hb dX3_protect_28 (by decide) (fun c_28 => ?_) (fun c_28 => ?_)
      · refine lv_iconst (v := 0) hx hb dX3_protect_35 (by decide +kernel) ?_
        refine lv_istore_n (lv' := [(3, .int 0), (0, .ref (q 0)), (1, .int p0), (2, .int p1)]) hx hb dX3_protect_36 rfl hl (by decide) rfl (fun ls hl => ?_)
        refine lv_aload_n hx hb dX3_protect_37 rfl (lv_at hl 1 rfl) ?_
        refine va_get (ci := 3) (v := .ref (q 7)) (C := RX3) (T := TX3) (N := 18) hx hb hts inX3_protect_RX3 hown hK hP 0 rfl rfl 8 (by decide) (hts _ lkX3_protect_29) (fun _ h9 => h9) rfl dX3_protect_38 ?_
        refine lv_iload_n hx hb dX3_protect_41 rfl (lv_at hl 2 rfl) ?_
        refine lv_iload_n hx hb dX3_protect_42 rfl (lv_at hl 3 rfl) ?_
        refine g_zast (n := 4) (f := (u 6)) (u' := (mS (mS u 14 (fun _ => 0)) 6 (upd (u 6) p0.toNatClampNeg p1))) hx hb hK hP hD hS 7 1 (by rw [MW_get_6, show (mS u 14 (fun _ => 0)) 6 = (u 6) from by simp only [mS_at, ↓reduceIte, Nat.reduceEqDiff]]) rfl p0.toNatClampNeg (by omega) (by omega) hje h2 (MW_set_6 _ _) dX3_protect_43 (fun H locs hP hD hS => ?_)
        refine lv_iload_n hx hb dX3_protect_44 rfl (lv_at hl 0 rfl) ?_
        refine g_zret (u1 := (mS (mS u 14 (fun _ => 0)) 6 (upd (u 6) p0.toNatClampNeg p1))) hx hb hret hlk hQ hP hD hS dX3_protect_45 ?_ ?_ ?_
        · exact rfl
        · exact (by rw [if_pos c_28])
        · exact (MW_ext (by refine ⟨?_, ?_, ?_, ?_, ?_, ?_, ?_, ?_, ?_, ?_, ?_, ?_, ?_, ?_, ?_, ?_, ?_, ?_⟩ <;> simp only [mS_at, ↓reduceIte, Nat.reduceEqDiff] <;> rfl))
      · refine lv_iconst (v := 1) hx hb dX3_protect_31 (by decide +kernel) ?_
        refine lv_goto (tgt := 36) hx hb dX3_protect_32 (by decide) ?_
        refine lv_istore_n (lv' := [(3, .int 1), (0, .ref (q 0)), (1, .int p0), (2, .int p1)]) hx hb dX3_protect_36 rfl hl (by decide) rfl (fun ls hl => ?_)
        refine lv_aload_n hx hb dX3_protect_37 rfl (lv_at hl 1 rfl) ?_
        refine va_get (ci := 3) (v := .ref (q 7)) (C := RX3) (T := TX3) (N := 18) hx hb hts inX3_protect_RX3 hown hK hP 0 rfl rfl 8 (by decide) (hts _ lkX3_protect_29) (fun _ h9 => h9) rfl dX3_protect_38 ?_
        refine lv_iload_n hx hb dX3_protect_41 rfl (lv_at hl 2 rfl) ?_
        refine lv_iload_n hx hb dX3_protect_42 rfl (lv_at hl 3 rfl) ?_
        refine g_zast (n := 4) (f := (u 6)) (u' := (mS (mS u 14 (fun _ => 0)) 6 (upd (u 6) p0.toNatClampNeg p1))) hx hb hK hP hD hS 7 1 (by rw [MW_get_6, show (mS u 14 (fun _ => 0)) 6 = (u 6) from by simp only [mS_at, ↓reduceIte, Nat.reduceEqDiff]]) rfl p0.toNatClampNeg (by omega) (by omega) hje h2 (MW_set_6 _ _) dX3_protect_43 (fun H locs hP hD hS => ?_)
        refine lv_iload_n hx hb dX3_protect_44 rfl (lv_at hl 0 rfl) ?_
        refine g_zret (u1 := (mS (mS u 14 (fun _ => 0)) 6 (upd (u 6) p0.toNatClampNeg p1))) hx hb hret hlk hQ hP hD hS dX3_protect_45 ?_ ?_ ?_
        · exact rfl
        · exact (by rw [if_neg c_28])
        · exact (MW_ext (by refine ⟨?_, ?_, ?_, ?_, ?_, ?_, ?_, ?_, ?_, ?_, ?_, ?_, ?_, ?_, ?_, ?_, ?_, ?_⟩ <;> simp only [mS_at, ↓reduceIte, Nat.reduceEqDiff] <;> rfl))
    · exact absurd (show (0 : Int32) = 0 from rfl) c_16
abbrev rmX3_protect_r : Room := { frames := 2, cells := 0, slots := 0, locals := 42 }
set_option maxHeartbeats 4000000 in
set_option maxRecDepth 100000 in
theorem ctX3_protect_r (l : Launch) (D : va_G) (cI cZ : ClassId) (q : Nat → Nat) (u : SM) (p0 p1 : Int32) (h1 : xRange p0 4 = 0) : gM l yX3_protect wsX3_protect rmX3_protect_r D [(cI, .int), (cZ, .boolean)] (MW cI cZ q) (fun _ => True) [.ref (q 0), .int p0, .int p1] u (some (.int 0)) (mS u 14 (fun _ => 1)) := by
  refine g_start (cc := cX3_protect) (maxL := 4) (ret := (some .boolean)) (by decide) rfl (Nat.le_of_ble_eq_true rfl) ?_
  intro p e s m below meth c A ls Q hx hb hml hret hts hown hlk hE hP hK hD hA hl hQ hS
  have hown : s.vm.findClass RX3 = some m.cls := hown
  have hl : lv_has ls 4 [(0, .ref (q 0)), (1, .int p0), (2, .int p1)] := hl
  refine lv_aload_n hx hb dX3_protect_0 rfl (lv_at hl 0 rfl) ?_
  refine lv_iload_n hx hb dX3_protect_1 rfl (lv_at hl 1 rfl) ?_
  refine g_callS0 (As := [.int p0]) (rest := [.ref (q 0)]) hx hb hml hown hts (ctX3_isRef l D cI cZ q p0) gX3_protect_X3_isRef rfl rfl rfl hdX3_isRef ⟨Nat.le_of_ble_eq_true rfl, Nat.le_of_ble_eq_true rfl⟩ gEM_true trivial hP hK hS hA rfl hl.1 rfl (Nat.le_of_ble_eq_true rfl) dX3_protect_2 ⟨Nat.zero_le _, Nat.zero_le _⟩ (fun H locs hP hS => ?_)
  refine W.eq (g2 := F0 m 5 ls [.int (xRange p0 4), .ref (q 0)]) rfl ?_
  refine lv_if_eq (tgt := 12) hx hb dX3_protect_5 (by decide) (fun c_5 => ?_) (fun c_5 => ?_)
  · refine lv_iconst (v := 1) hx hb dX3_protect_12 (by decide +kernel) ?_
    refine g_callV (As := [.int 1]) (rest := []) hx hb hml hown hts (ctX3_refused l D cI cZ q u 1) gX3_protect_X3_refused rfl rfl rfl hdX3_refused ⟨Nat.le_of_ble_eq_true rfl, Nat.le_of_ble_eq_true rfl⟩ gEM_true trivial hP hK hD hS hA 0 rfl rfl rfl hl.1 rfl (Nat.le_of_ble_eq_true rfl) dX3_protect_13 ⟨Nat.zero_le _, Nat.zero_le _⟩ (fun H locs hP hD hS => ?_)
    obtain ⟨hP, hD⟩ := g_toPD hP hD (MW_ext (Y := (mS u 14 (fun _ => 1))) (by refine ⟨?_, ?_, ?_, ?_, ?_, ?_, ?_, ?_, ?_, ?_, ?_, ?_, ?_, ?_, ?_, ?_, ?_, ?_⟩ <;> simp only [mS_at, ↓reduceIte, Nat.reduceEqDiff] <;> rfl))
    refine W.eq (g2 := F0 m 16 ls [.int (if 1 = 0 then 0 else 1)]) rfl ?_
    refine lv_if_eq (tgt := 21) hx hb dX3_protect_16 (by decide) (fun c_16 => ?_) (fun c_16 => ?_)
    · exact absurd c_16 (by decide)
    · refine lv_iconst (v := 0) hx hb dX3_protect_19 (by decide +kernel) ?_
      refine g_zret (u1 := (mS u 14 (fun _ => 1))) hx hb hret hlk hQ hP hD hS dX3_protect_20 ?_ ?_ ?_
      · exact rfl
      · exact rfl
      · exact rfl
  · exact absurd h1 c_5
theorem lkX3_move_137 : Cond.fieldLink RX3 137 "FetchHouseModel" "waiting" "I" ∈ wsX3_move := List.mem_of_getElem? (i := 1) (by decide +kernel)
theorem lkX3_move_32 : Cond.fieldLink RX3 32 "FetchHouseModel" "moveRefs" "[I" ∈ wsX3_move := List.mem_of_getElem? (i := 2) (by decide +kernel)
theorem lkX3_move_35 : Cond.fieldLink RX3 35 "FetchHouseModel" "moveOlds" "[I" ∈ wsX3_move := List.mem_of_getElem? (i := 3) (by decide +kernel)
theorem lkX3_move_38 : Cond.fieldLink RX3 38 "FetchHouseModel" "moveNews" "[I" ∈ wsX3_move := List.mem_of_getElem? (i := 4) (by decide +kernel)
theorem inX3_move_RX3 : ∀ w ∈ u_ws RX3 TX3 18, w ∈ wsX3_move := fun w h => List.mem_cons_of_mem _ (List.mem_append_right _ h)
abbrev rmX3_move : Room := { frames := 3, cells := 0, slots := 0, locals := 64 }
set_option maxHeartbeats 4000000 in
set_option maxRecDepth 100000 in
theorem ctX3_move (l : Launch) (D : va_G) (cI cZ : ClassId) (q : Nat → Nat) (u : SM) (n : Nat) (hn : u 15 0 = nI n) (h60 : n ≤ 60) (w : Nat) (hw : u 16 0 = nI w) (hw3 : w < 3) (p0 p1 p2 : Int32) (h1 : ¬ xRange p0 4 = 0) (h2 : ¬ mComN n p1 = 0) (h3 : ¬ mComN n p2 = 0) : gM l yX3_move wsX3_move rmX3_move D [(cI, .int), (cZ, .boolean)] (MW cI cZ q) (fun _ => True) [.ref (q 0), .int p0, .int p1, .int p2] u (some (.int (nI w + 1))) (mS (mS (mS (mS (mS u 14 (fun _ => 0)) 7 (upd (u 7) w p0)) 8 (upd (u 8) w p1)) 9 (upd (u 9) w p2)) 16 (fun _ => (nI w + 1))) := by
  refine g_start (cc := cX3_move) (maxL := 5) (ret := (some .int)) (by decide) rfl (Nat.le_of_ble_eq_true rfl) ?_
  intro p e s m below meth c A ls Q hx hb hml hret hts hown hlk hE hP hK hD hA hl hQ hS
  have hown : s.vm.findClass RX3 = some m.cls := hown
  have hl : lv_has ls 5 [(0, .ref (q 0)), (1, .int p0), (2, .int p1), (3, .int p2)] := hl
  refine lv_iload_n hx hb dX3_move_0 rfl (lv_at hl 1 rfl) ?_
  refine g_callS0 (As := [.int p0]) (rest := []) hx hb hml hown hts (ctX3_isRef l D cI cZ q p0) gX3_move_X3_isRef rfl rfl rfl hdX3_isRef ⟨Nat.le_of_ble_eq_true rfl, Nat.le_of_ble_eq_true rfl⟩ gEM_true trivial hP hK hS hA rfl hl.1 rfl (Nat.le_of_ble_eq_true rfl) dX3_move_1 ⟨Nat.zero_le _, Nat.zero_le _⟩ (fun H locs hP hS => ?_)
  refine W.eq (g2 := F0 m 4 ls [.int (xRange p0 4)]) rfl ?_
  refine lv_if_eq (tgt := 27) hx hb dX3_move_4 (by decide) (fun c_4 => ?_) (fun c_4 => ?_)
  · exact absurd c_4 h1
  · refine lv_aload_n hx hb dX3_move_7 rfl (lv_at hl 0 rfl) ?_
    refine lv_iload_n hx hb dX3_move_8 rfl (lv_at hl 2 rfl) ?_
    refine g_callV (As := [.int p1]) (rest := []) hx hb hml hown hts (ctX3_isCommitOrNone l D cI cZ q u n hn h60 p1) gX3_move_X3_isCommitOrNone rfl rfl rfl hdX3_isCommitOrNone ⟨Nat.le_of_ble_eq_true rfl, Nat.le_of_ble_eq_true rfl⟩ gEM_true trivial hP hK hD hS hA 0 rfl rfl rfl hl.1 rfl (Nat.le_of_ble_eq_true rfl) dX3_move_9 ⟨Nat.zero_le _, Nat.zero_le _⟩ (fun H locs hP hD hS => ?_)
    refine W.eq (g2 := F0 m 12 ls [.int (mComN n p1)]) rfl ?_
    refine lv_if_eq (tgt := 27) hx hb dX3_move_12 (by decide) (fun c_12 => ?_) (fun c_12 => ?_)
    · exact absurd c_12 h2
    · refine lv_aload_n hx hb dX3_move_15 rfl (lv_at hl 0 rfl) ?_
      refine lv_iload_n hx hb dX3_move_16 rfl (lv_at hl 3 rfl) ?_
      refine g_callV (As := [.int p2]) (rest := []) hx hb hml hown hts (ctX3_isCommitOrNone l D cI cZ q u n hn h60 p2) gX3_move_X3_isCommitOrNone rfl rfl rfl hdX3_isCommitOrNone ⟨Nat.le_of_ble_eq_true rfl, Nat.le_of_ble_eq_true rfl⟩ gEM_true trivial hP hK hD hS hA 0 rfl rfl rfl hl.1 rfl (Nat.le_of_ble_eq_true rfl) dX3_move_17 ⟨Nat.zero_le _, Nat.zero_le _⟩ (fun H locs hP hD hS => ?_)
      refine W.eq (g2 := F0 m 20 ls [.int (mComN n p2)]) rfl ?_
      refine lv_if_eq (tgt := 27) hx hb dX3_move_20 (by decide) (fun c_20 => ?_) (fun c_20 => ?_)
      · exact absurd c_20 h3
      · refine lv_iconst (v := 1) hx hb dX3_move_23 (by decide +kernel) ?_
        refine lv_goto (tgt := 28) hx hb dX3_move_24 (by decide) ?_
        refine lv_istore (lv' := [(4, .int 1), (0, .ref (q 0)), (1, .int p0), (2, .int p1), (3, .int p2)]) hx hb dX3_move_28 hl (by decide) rfl (fun ls hl => ?_)
        refine lv_aload_n hx hb dX3_move_30 rfl (lv_at hl 1 rfl) ?_
        refine lv_iload hx hb dX3_move_31 (lv_at hl 0 rfl) ?_
        refine lv_if_ne (tgt := 40) hx hb dX3_move_33 (by decide) (fun c_33 => ?_) (fun c_33 => ?_)
        · have n_33 : ¬ 1 = 0 := fun h => c_33 ((g_eqI (a := 1) (b := 0) rfl rfl (by decide) (by decide)).mpr h)
          refine lv_aload_n hx hb dX3_move_40 rfl (lv_at hl 1 rfl) ?_
          refine va_get (ci := 3) (v := .int (nI w)) (C := RX3) (T := TX3) (N := 18) hx hb hts inX3_move_RX3 hown hK hP 0 rfl rfl 9 (by decide) (hts _ lkX3_move_137) (fun _ h9 => h9) (congrArg (fun z => some (Value.int z)) hw) dX3_move_41 ?_
          refine lv_iconst (v := 3) hx hb dX3_move_44 (by decide +kernel) ?_
          refine lv_icmp_ne (tgt := 52) hx hb dX3_move_45 (by decide) (fun c_45 => ?_) (fun c_45 => ?_)
          · have n_45 : ¬ w = 3 := fun h => c_45 ((g_eqI (a := w) (b := 3) rfl rfl (by omega) (by decide)).mpr h)
            refine lv_iconst (v := 0) hx hb dX3_move_52 (by decide +kernel) ?_
            refine g_callV (As := [.int 0]) (rest := []) hx hb hml hown hts (ctX3_refused l D cI cZ q u 0) gX3_move_X3_refused rfl rfl rfl hdX3_refused ⟨Nat.le_of_ble_eq_true rfl, Nat.le_of_ble_eq_true rfl⟩ gEM_true trivial hP hK hD hS hA 0 rfl rfl rfl hl.1 rfl (Nat.le_of_ble_eq_true rfl) dX3_move_53 ⟨Nat.zero_le _, Nat.zero_le _⟩ (fun H locs hP hD hS => ?_)
            obtain ⟨hP, hD⟩ := g_toPD hP hD (MW_ext (Y := (mS u 14 (fun _ => 0))) (by refine ⟨?_, ?_, ?_, ?_, ?_, ?_, ?_, ?_, ?_, ?_, ?_, ?_, ?_, ?_, ?_, ?_, ?_, ?_⟩ <;> simp only [mS_at, ↓reduceIte, Nat.reduceEqDiff] <;> rfl))
            refine W.eq (g2 := F0 m 56 ls [.int (if 0 = 0 then 0 else 1)]) rfl ?_
            refine lv_if_eq (tgt := 61) hx hb dX3_move_56 (by decide) (fun c_56 => ?_) (fun c_56 => ?_)
            · refine lv_aload_n hx hb dX3_move_61 rfl (lv_at hl 1 rfl) ?_
              refine va_get (ci := 3) (v := .ref (q 8)) (C := RX3) (T := TX3) (N := 18) hx hb hts inX3_move_RX3 hown hK hP 0 rfl rfl 10 (by decide) (hts _ lkX3_move_32) (fun _ h9 => h9) rfl dX3_move_62 ?_
              refine lv_aload_n hx hb dX3_move_65 rfl (lv_at hl 1 rfl) ?_
              refine va_get (ci := 3) (v := .int (nI w)) (C := RX3) (T := TX3) (N := 18) hx hb hts inX3_move_RX3 hown hK hP 0 rfl rfl 9 (by decide) (hts _ lkX3_move_137) (fun _ h9 => h9) (congrArg (fun z => some (Value.int z)) hw) dX3_move_66 ?_
              refine lv_iload_n hx hb dX3_move_69 rfl (lv_at hl 2 rfl) ?_
              refine g_iast (n := 3) (f := (u 7)) (u' := (mS (mS u 14 (fun _ => 0)) 7 (upd (u 7) w p0))) hx hb hK hP hD hS 8 0 (by rw [MW_get_7, show (mS u 14 (fun _ => 0)) 7 = (u 7) from by simp only [mS_at, ↓reduceIte, Nat.reduceEqDiff]]) rfl w (by omega) (by omega) rfl (MW_set_7 _ _) dX3_move_70 (fun H locs hP hD hS => ?_)
              refine lv_aload_n hx hb dX3_move_71 rfl (lv_at hl 1 rfl) ?_
              refine va_get (ci := 3) (v := .ref (q 9)) (C := RX3) (T := TX3) (N := 18) hx hb hts inX3_move_RX3 hown hK hP 0 rfl rfl 11 (by decide) (hts _ lkX3_move_35) (fun _ h9 => h9) rfl dX3_move_72 ?_
              refine lv_aload_n hx hb dX3_move_75 rfl (lv_at hl 1 rfl) ?_
              refine va_get (ci := 3) (v := .int (nI w)) (C := RX3) (T := TX3) (N := 18) hx hb hts inX3_move_RX3 hown hK hP 0 rfl rfl 9 (by decide) (hts _ lkX3_move_137) (fun _ h9 => h9) (congrArg (fun z => some (Value.int z)) hw) dX3_move_76 ?_
              refine lv_iload_n hx hb dX3_move_79 rfl (lv_at hl 3 rfl) ?_
              refine g_iast (n := 3) (f := (u 8)) (u' := (mS (mS (mS u 14 (fun _ => 0)) 7 (upd (u 7) w p0)) 8 (upd (u 8) w p1))) hx hb hK hP hD hS 9 0 (by rw [MW_get_8, show (mS (mS u 14 (fun _ => 0)) 7 (upd (u 7) w p0)) 8 = (u 8) from by simp only [mS_at, ↓reduceIte, Nat.reduceEqDiff]]) rfl w (by omega) (by omega) rfl (MW_set_8 _ _) dX3_move_80 (fun H locs hP hD hS => ?_)
              refine lv_aload_n hx hb dX3_move_81 rfl (lv_at hl 1 rfl) ?_
              refine va_get (ci := 3) (v := .ref (q 10)) (C := RX3) (T := TX3) (N := 18) hx hb hts inX3_move_RX3 hown hK hP 0 rfl rfl 12 (by decide) (hts _ lkX3_move_38) (fun _ h9 => h9) rfl dX3_move_82 ?_
              refine lv_aload_n hx hb dX3_move_85 rfl (lv_at hl 1 rfl) ?_
              refine va_get (ci := 3) (v := .int (nI w)) (C := RX3) (T := TX3) (N := 18) hx hb hts inX3_move_RX3 hown hK hP 0 rfl rfl 9 (by decide) (hts _ lkX3_move_137) (fun _ h9 => h9) (congrArg (fun z => some (Value.int z)) hw) dX3_move_86 ?_
              refine lv_iload_n hx hb dX3_move_89 rfl (lv_at hl 4 rfl) ?_
              refine g_iast (n := 3) (f := (u 9)) (u' := (mS (mS (mS (mS u 14 (fun _ => 0)) 7 (upd (u 7) w p0)) 8 (upd (u 8) w p1)) 9 (upd (u 9) w p2))) hx hb hK hP hD hS 10 0 (by rw [MW_get_9, show (mS (mS (mS u 14 (fun _ => 0)) 7 (upd (u 7) w p0)) 8 (upd (u 8) w p1)) 9 = (u 9) from by simp only [mS_at, ↓reduceIte, Nat.reduceEqDiff]]) rfl w (by omega) (by omega) rfl (MW_set_9 _ _) dX3_move_90 (fun H locs hP hD hS => ?_)
              refine lv_aload_n hx hb dX3_move_91 rfl (lv_at hl 1 rfl) ?_
              refine lv_dup hx hb dX3_move_92 rfl ?_
              refine va_get (ci := 3) (v := .int (nI w)) (C := RX3) (T := TX3) (N := 18) hx hb hts inX3_move_RX3 hown hK hP 0 rfl rfl 9 (by decide) (hts _ lkX3_move_137) (fun _ h9 => h9) (congrArg (fun z => some (Value.int z)) hw) dX3_move_93 ?_
              refine lv_iconst (v := 1) hx hb dX3_move_96 (by decide +kernel) ?_
              refine lv_iadd hx hb dX3_move_97 ?_
              refine va_put (ci := 3) (v := .int ((nI w) + 1)) (ty := .int) (C := RX3) (T := TX3) (N := 18) hx hb hts inX3_move_RX3 tyX3 tyX3_ok nmX3 hown hK hP hD hS 0 rfl rfl 9 (by decide) (hts _ lkX3_move_137) (fun _ h9 => h9) rfl (by decide +kernel) rfl rfl (Nat.le_of_ble_eq_true rfl) dX3_move_98 (fun H locs hP hD hS => ?_)
              obtain ⟨hP, hD⟩ := g_toPD hP hD (MW_put_16 (u := (mS (mS (mS (mS u 14 (fun _ => 0)) 7 (upd (u 7) w p0)) 8 (upd (u 8) w p1)) 9 (upd (u 9) w p2))) ((nI w) + 1))
              refine lv_aload_n hx hb dX3_move_101 rfl (lv_at hl 1 rfl) ?_
              refine va_get (ci := 3) (v := .int ((nI w) + 1)) (C := RX3) (T := TX3) (N := 18) hx hb hts inX3_move_RX3 hown hK hP 0 rfl rfl 9 (by decide) (hts _ lkX3_move_137) (fun _ h9 => h9) rfl dX3_move_102 ?_
              refine g_iret (u1 := (mS (mS (mS (mS (mS u 14 (fun _ => 0)) 7 (upd (u 7) w p0)) 8 (upd (u 8) w p1)) 9 (upd (u 9) w p2)) 16 (fun _ => ((nI w) + 1)))) hx hb hret hlk hQ hP hD hS dX3_move_105 ?_ ?_
              · exact rfl
              · exact (MW_ext (by refine ⟨?_, ?_, ?_, ?_, ?_, ?_, ?_, ?_, ?_, ?_, ?_, ?_, ?_, ?_, ?_, ?_, ?_, ?_⟩ <;> simp only [mS_at, ↓reduceIte, Nat.reduceEqDiff] <;> rfl))
            · exact absurd (show (0 : Int32) = 0 from rfl) c_56
          · have n_45 : w = 3 := (g_eqI (a := w) (b := 3) rfl rfl (by omega) (by decide)).mp c_45
            omega
        · have n_33 : 1 = 0 := (g_eqI (a := 1) (b := 0) rfl rfl (by decide) (by decide)).mp c_33
          exact absurd c_33 (by decide)
abbrev rmX3_move_r : Room := { frames := 3, cells := 0, slots := 0, locals := 64 }
set_option maxHeartbeats 4000000 in
set_option maxRecDepth 100000 in
theorem ctX3_move_r (l : Launch) (D : va_G) (cI cZ : ClassId) (q : Nat → Nat) (u : SM) (n : Nat) (hn : u 15 0 = nI n) (h60 : n ≤ 60) (w : Nat) (hw : u 16 0 = nI w) (hw3 : w ≤ 3) (p0 p1 p2 : Int32) (z : Int32) (hz : (mMoveC n w p0 p1 p2) = z) (hz0 : ¬ z = 0) : gM l yX3_move wsX3_move rmX3_move_r D [(cI, .int), (cZ, .boolean)] (MW cI cZ q) (fun _ => True) [.ref (q 0), .int p0, .int p1, .int p2] u (some (.int 0)) (mS u 14 (fun _ => z)) := by
  refine g_start (cc := cX3_move) (maxL := 5) (ret := (some .int)) (by decide) rfl (Nat.le_of_ble_eq_true rfl) ?_
  intro p e s m below meth c A ls Q hx hb hml hret hts hown hlk hE hP hK hD hA hl hQ hS
  have hown : s.vm.findClass RX3 = some m.cls := hown
  have hl : lv_has ls 5 [(0, .ref (q 0)), (1, .int p0), (2, .int p1), (3, .int p2)] := hl
  refine lv_iload_n hx hb dX3_move_0 rfl (lv_at hl 1 rfl) ?_
  refine g_callS0 (As := [.int p0]) (rest := []) hx hb hml hown hts (ctX3_isRef l D cI cZ q p0) gX3_move_X3_isRef rfl rfl rfl hdX3_isRef ⟨Nat.le_of_ble_eq_true rfl, Nat.le_of_ble_eq_true rfl⟩ gEM_true trivial hP hK hS hA rfl hl.1 rfl (Nat.le_of_ble_eq_true rfl) dX3_move_1 ⟨Nat.zero_le _, Nat.zero_le _⟩ (fun H locs hP hS => ?_)
  refine W.eq (g2 := F0 m 4 ls [.int (xRange p0 4)]) rfl ?_
  refine lv_if_eq (tgt := 27) hx hb dX3_move_4 (by decide) (fun c_4 => ?_) (fun c_4 => ?_)
  · refine lv_iconst (v := 0) hx hb dX3_move_27 (by decide +kernel) ?_
    refine lv_istore (lv' := [(4, .int 0), (0, .ref (q 0)), (1, .int p0), (2, .int p1), (3, .int p2)]) hx hb dX3_move_28 hl (by decide) rfl (fun ls hl => ?_)
    refine lv_aload_n hx hb dX3_move_30 rfl (lv_at hl 1 rfl) ?_
    refine lv_iload hx hb dX3_move_31 (lv_at hl 0 rfl) ?_
    refine lv_if_ne (tgt := 40) hx hb dX3_move_33 (by decide) (fun c_33 => ?_) (fun c_33 => ?_)
    · exact absurd c_33 (by decide)
    · refine lv_iconst (v := 1) hx hb dX3_move_36 (by decide +kernel) ?_
      refine lv_goto (tgt := 53) hx hb dX3_move_37 (by decide) ?_
      refine g_callV (As := [.int 1]) (rest := []) hx hb hml hown hts (ctX3_refused l D cI cZ q u 1) gX3_move_X3_refused rfl rfl rfl hdX3_refused ⟨Nat.le_of_ble_eq_true rfl, Nat.le_of_ble_eq_true rfl⟩ gEM_true trivial hP hK hD hS hA 0 rfl rfl rfl hl.1 rfl (Nat.le_of_ble_eq_true rfl) dX3_move_53 ⟨Nat.zero_le _, Nat.zero_le _⟩ (fun H locs hP hD hS => ?_)
      obtain ⟨hP, hD⟩ := g_toPD hP hD (MW_ext (Y := (mS u 14 (fun _ => 1))) (by refine ⟨?_, ?_, ?_, ?_, ?_, ?_, ?_, ?_, ?_, ?_, ?_, ?_, ?_, ?_, ?_, ?_, ?_, ?_⟩ <;> simp only [mS_at, ↓reduceIte, Nat.reduceEqDiff] <;> rfl))
      refine W.eq (g2 := F0 m 56 ls [.int (if 1 = 0 then 0 else 1)]) rfl ?_
      refine lv_if_eq (tgt := 61) hx hb dX3_move_56 (by decide) (fun c_56 => ?_) (fun c_56 => ?_)
      · exact absurd c_56 (by decide)
      · refine lv_iconst (v := 0) hx hb dX3_move_59 (by decide +kernel) ?_
        refine g_iret (u1 := (mS u 14 (fun _ => 1))) hx hb hret hlk hQ hP hD hS dX3_move_60 ?_ ?_
        · exact rfl
        · exact (by rw [← hz, show (mMoveC n w p0 p1 p2) = 1 from by unfold mMoveC; rw [if_pos c_4]])
  · refine lv_aload_n hx hb dX3_move_7 rfl (lv_at hl 0 rfl) ?_
    refine lv_iload_n hx hb dX3_move_8 rfl (lv_at hl 2 rfl) ?_
    refine g_callV (As := [.int p1]) (rest := []) hx hb hml hown hts (ctX3_isCommitOrNone l D cI cZ q u n hn h60 p1) gX3_move_X3_isCommitOrNone rfl rfl rfl hdX3_isCommitOrNone ⟨Nat.le_of_ble_eq_true rfl, Nat.le_of_ble_eq_true rfl⟩ gEM_true trivial hP hK hD hS hA 0 rfl rfl rfl hl.1 rfl (Nat.le_of_ble_eq_true rfl) dX3_move_9 ⟨Nat.zero_le _, Nat.zero_le _⟩ (fun H locs hP hD hS => ?_)
    refine W.eq (g2 := F0 m 12 ls [.int (mComN n p1)]) rfl ?_
    refine lv_if_eq (tgt := 27) hx hb dX3_move_12 (by decide) (fun c_12 => ?_) (fun c_12 => ?_)
    · refine lv_iconst (v := 0) hx hb dX3_move_27 (by decide +kernel) ?_
      refine lv_istore (lv' := [(4, .int 0), (0, .ref (q 0)), (1, .int p0), (2, .int p1), (3, .int p2)]) hx hb dX3_move_28 hl (by decide) rfl (fun ls hl => ?_)
      refine lv_aload_n hx hb dX3_move_30 rfl (lv_at hl 1 rfl) ?_
      refine lv_iload hx hb dX3_move_31 (lv_at hl 0 rfl) ?_
      refine lv_if_ne (tgt := 40) hx hb dX3_move_33 (by decide) (fun c_33 => ?_) (fun c_33 => ?_)
      · exact absurd c_33 (by decide)
      · refine lv_iconst (v := 1) hx hb dX3_move_36 (by decide +kernel) ?_
        refine lv_goto (tgt := 53) hx hb dX3_move_37 (by decide) ?_
        refine g_callV (As := [.int 1]) (rest := []) hx hb hml hown hts (ctX3_refused l D cI cZ q u 1) gX3_move_X3_refused rfl rfl rfl hdX3_refused ⟨Nat.le_of_ble_eq_true rfl, Nat.le_of_ble_eq_true rfl⟩ gEM_true trivial hP hK hD hS hA 0 rfl rfl rfl hl.1 rfl (Nat.le_of_ble_eq_true rfl) dX3_move_53 ⟨Nat.zero_le _, Nat.zero_le _⟩ (fun H locs hP hD hS => ?_)
        obtain ⟨hP, hD⟩ := g_toPD hP hD (MW_ext (Y := (mS u 14 (fun _ => 1))) (by refine ⟨?_, ?_, ?_, ?_, ?_, ?_, ?_, ?_, ?_, ?_, ?_, ?_, ?_, ?_, ?_, ?_, ?_, ?_⟩ <;> simp only [mS_at, ↓reduceIte, Nat.reduceEqDiff] <;> rfl))
        refine W.eq (g2 := F0 m 56 ls [.int (if 1 = 0 then 0 else 1)]) rfl ?_
        refine lv_if_eq (tgt := 61) hx hb dX3_move_56 (by decide) (fun c_56 => ?_) (fun c_56 => ?_)
        · exact absurd c_56 (by decide)
        · refine lv_iconst (v := 0) hx hb dX3_move_59 (by decide +kernel) ?_
          refine g_iret (u1 := (mS u 14 (fun _ => 1))) hx hb hret hlk hQ hP hD hS dX3_move_60 ?_ ?_
          · exact rfl
          · exact (by rw [← hz, show (mMoveC n w p0 p1 p2) = 1 from by unfold mMoveC; rw [if_neg c_4, if_pos c_12]])
    · refine lv_aload_n hx hb dX3_move_15 rfl (lv_at hl 0 rfl) ?_
      refine lv_iload_n hx hb dX3_move_16 rfl (lv_at hl 3 rfl) ?_
      refine g_callV (As := [.int p2]) (rest := []) hx hb hml hown hts (ctX3_isCommitOrNone l D cI cZ q u n hn h60 p2) gX3_move_X3_isCommitOrNone rfl rfl rfl hdX3_isCommitOrNone ⟨Nat.le_of_ble_eq_true rfl, Nat.le_of_ble_eq_true rfl⟩ gEM_true trivial hP hK hD hS hA 0 rfl rfl rfl hl.1 rfl (Nat.le_of_ble_eq_true rfl) dX3_move_17 ⟨Nat.zero_le _, Nat.zero_le _⟩ (fun H locs hP hD hS => ?_)
      refine W.eq (g2 := F0 m 20 ls [.int (mComN n p2)]) rfl ?_
      refine lv_if_eq (tgt := 27) hx hb dX3_move_20 (by decide) (fun c_20 => ?_) (fun c_20 => ?_)
      · refine lv_iconst (v := 0) hx hb dX3_move_27 (by decide +kernel) ?_
        refine lv_istore (lv' := [(4, .int 0), (0, .ref (q 0)), (1, .int p0), (2, .int p1), (3, .int p2)]) hx hb dX3_move_28 hl (by decide) rfl (fun ls hl => ?_)
        refine lv_aload_n hx hb dX3_move_30 rfl (lv_at hl 1 rfl) ?_
        refine lv_iload hx hb dX3_move_31 (lv_at hl 0 rfl) ?_
        refine lv_if_ne (tgt := 40) hx hb dX3_move_33 (by decide) (fun c_33 => ?_) (fun c_33 => ?_)
        · exact absurd c_33 (by decide)
        · refine lv_iconst (v := 1) hx hb dX3_move_36 (by decide +kernel) ?_
          refine lv_goto (tgt := 53) hx hb dX3_move_37 (by decide) ?_
          refine g_callV (As := [.int 1]) (rest := []) hx hb hml hown hts (ctX3_refused l D cI cZ q u 1) gX3_move_X3_refused rfl rfl rfl hdX3_refused ⟨Nat.le_of_ble_eq_true rfl, Nat.le_of_ble_eq_true rfl⟩ gEM_true trivial hP hK hD hS hA 0 rfl rfl rfl hl.1 rfl (Nat.le_of_ble_eq_true rfl) dX3_move_53 ⟨Nat.zero_le _, Nat.zero_le _⟩ (fun H locs hP hD hS => ?_)
          obtain ⟨hP, hD⟩ := g_toPD hP hD (MW_ext (Y := (mS u 14 (fun _ => 1))) (by refine ⟨?_, ?_, ?_, ?_, ?_, ?_, ?_, ?_, ?_, ?_, ?_, ?_, ?_, ?_, ?_, ?_, ?_, ?_⟩ <;> simp only [mS_at, ↓reduceIte, Nat.reduceEqDiff] <;> rfl))
          refine W.eq (g2 := F0 m 56 ls [.int (if 1 = 0 then 0 else 1)]) rfl ?_
          refine lv_if_eq (tgt := 61) hx hb dX3_move_56 (by decide) (fun c_56 => ?_) (fun c_56 => ?_)
          · exact absurd c_56 (by decide)
          · refine lv_iconst (v := 0) hx hb dX3_move_59 (by decide +kernel) ?_
            refine g_iret (u1 := (mS u 14 (fun _ => 1))) hx hb hret hlk hQ hP hD hS dX3_move_60 ?_ ?_
            · exact rfl
            · exact (by rw [← hz, show (mMoveC n w p0 p1 p2) = 1 from by unfold mMoveC; rw [if_neg c_4, if_neg c_12, if_pos c_20]])
      · refine lv_iconst (v := 1) hx hb dX3_move_23 (by decide +kernel) ?_
        refine lv_goto (tgt := 28) hx hb dX3_move_24 (by decide) ?_
        refine lv_istore (lv' := [(4, .int 1), (0, .ref (q 0)), (1, .int p0), (2, .int p1), (3, .int p2)]) hx hb dX3_move_28 hl (by decide) rfl (fun ls hl => ?_)
        refine lv_aload_n hx hb dX3_move_30 rfl (lv_at hl 1 rfl) ?_
        refine lv_iload hx hb dX3_move_31 (lv_at hl 0 rfl) ?_
        refine lv_if_ne (tgt := 40) hx hb dX3_move_33 (by decide) (fun c_33 => ?_) (fun c_33 => ?_)
        · refine lv_aload_n hx hb dX3_move_40 rfl (lv_at hl 1 rfl) ?_
          refine va_get (ci := 3) (v := .int (nI w)) (C := RX3) (T := TX3) (N := 18) hx hb hts inX3_move_RX3 hown hK hP 0 rfl rfl 9 (by decide) (hts _ lkX3_move_137) (fun _ h9 => h9) (congrArg (fun z => some (Value.int z)) hw) dX3_move_41 ?_
          refine lv_iconst (v := 3) hx hb dX3_move_44 (by decide +kernel) ?_
          refine lv_icmp_ne (tgt := 52) hx hb dX3_move_45 (by decide) (fun c_45 => ?_) (fun c_45 => ?_)
          · have n_45 : ¬ w = 3 := fun h => c_45 ((g_eqI (a := w) (b := 3) rfl rfl (by omega) (by decide)).mpr h)
            refine lv_iconst (v := 0) hx hb dX3_move_52 (by decide +kernel) ?_
            refine g_callV (As := [.int 0]) (rest := []) hx hb hml hown hts (ctX3_refused l D cI cZ q u 0) gX3_move_X3_refused rfl rfl rfl hdX3_refused ⟨Nat.le_of_ble_eq_true rfl, Nat.le_of_ble_eq_true rfl⟩ gEM_true trivial hP hK hD hS hA 0 rfl rfl rfl hl.1 rfl (Nat.le_of_ble_eq_true rfl) dX3_move_53 ⟨Nat.zero_le _, Nat.zero_le _⟩ (fun H locs hP hD hS => ?_)
            obtain ⟨hP, hD⟩ := g_toPD hP hD (MW_ext (Y := (mS u 14 (fun _ => 0))) (by refine ⟨?_, ?_, ?_, ?_, ?_, ?_, ?_, ?_, ?_, ?_, ?_, ?_, ?_, ?_, ?_, ?_, ?_, ?_⟩ <;> simp only [mS_at, ↓reduceIte, Nat.reduceEqDiff] <;> rfl))
            refine W.eq (g2 := F0 m 56 ls [.int (if 0 = 0 then 0 else 1)]) rfl ?_
            refine lv_if_eq (tgt := 61) hx hb dX3_move_56 (by decide) (fun c_56 => ?_) (fun c_56 => ?_)
            · exact absurd (hz.symm.trans (by unfold mMoveC; rw [if_neg c_4, if_neg c_12, if_neg c_20, if_neg n_45])) hz0
            · exact absurd (show (0 : Int32) = 0 from rfl) c_56
          · have n_45 : w = 3 := (g_eqI (a := w) (b := 3) rfl rfl (by omega) (by decide)).mp c_45
            refine lv_iconst (v := 2) hx hb dX3_move_48 (by decide +kernel) ?_
            refine lv_goto (tgt := 53) hx hb dX3_move_49 (by decide) ?_
            refine g_callV (As := [.int 2]) (rest := []) hx hb hml hown hts (ctX3_refused l D cI cZ q u 2) gX3_move_X3_refused rfl rfl rfl hdX3_refused ⟨Nat.le_of_ble_eq_true rfl, Nat.le_of_ble_eq_true rfl⟩ gEM_true trivial hP hK hD hS hA 0 rfl rfl rfl hl.1 rfl (Nat.le_of_ble_eq_true rfl) dX3_move_53 ⟨Nat.zero_le _, Nat.zero_le _⟩ (fun H locs hP hD hS => ?_)
            obtain ⟨hP, hD⟩ := g_toPD hP hD (MW_ext (Y := (mS u 14 (fun _ => 2))) (by refine ⟨?_, ?_, ?_, ?_, ?_, ?_, ?_, ?_, ?_, ?_, ?_, ?_, ?_, ?_, ?_, ?_, ?_, ?_⟩ <;> simp only [mS_at, ↓reduceIte, Nat.reduceEqDiff] <;> rfl))
            refine W.eq (g2 := F0 m 56 ls [.int (if 2 = 0 then 0 else 1)]) rfl ?_
            refine lv_if_eq (tgt := 61) hx hb dX3_move_56 (by decide) (fun c_56 => ?_) (fun c_56 => ?_)
            · exact absurd c_56 (by decide)
            · refine lv_iconst (v := 0) hx hb dX3_move_59 (by decide +kernel) ?_
              refine g_iret (u1 := (mS u 14 (fun _ => 2))) hx hb hret hlk hQ hP hD hS dX3_move_60 ?_ ?_
              · exact rfl
              · exact (by rw [← hz, show (mMoveC n w p0 p1 p2) = 2 from by unfold mMoveC; rw [if_neg c_4, if_neg c_12, if_neg c_20, if_pos n_45]])
        · exact absurd c_33 (by decide)
theorem inX3_has_RX3 : ∀ w ∈ u_ws RX3 TX3 18, w ∈ wsX3_has := fun w h => List.mem_cons_of_mem _ (List.mem_append_right _ h)
abbrev rmX3_has_0 : Room := { frames := 3, cells := 0, slots := 0, locals := 65 }
set_option maxHeartbeats 4000000 in
set_option maxRecDepth 100000 in
theorem ctX3_has_0 (l : Launch) (D : va_G) (cI cZ : ClassId) (q : Nat → Nat) (u : SM) (n : Nat) (hn : u 15 0 = nI n) (h60 : n ≤ 60) (p1 : Int32) (h1 : ¬ xRange p1 (nI n) = 0) : gM l yX3_has wsX3_has rmX3_has_0 D [(cI, .int), (cZ, .boolean)] (MW cI cZ q) (fun _ => True) [.ref (q 0), .int 0, .int p1] u (some (.int (mHas n (u 3) 0 p1))) (mS u 14 (fun _ => 0)) := by
  refine g_start (cc := cX3_has) (maxL := 3) (ret := (some .boolean)) (by decide) rfl (Nat.le_of_ble_eq_true rfl) ?_
  intro p e s m below meth c A ls Q hx hb hml hret hts hown hlk hE hP hK hD hA hl hQ hS
  have hown : s.vm.findClass RX3 = some m.cls := hown
  have hl : lv_has ls 3 [(0, .ref (q 0)), (1, .int 0), (2, .int p1)] := hl
  have hs : ¬ xRange 0 2 = 0 := by decide +kernel
  refine lv_aload_n hx hb dX3_has_0 rfl (lv_at hl 0 rfl) ?_
  refine lv_iload_n hx hb dX3_has_1 rfl (lv_at hl 1 rfl) ?_
  refine g_callS0 (As := [.int 0]) (rest := [.ref (q 0)]) hx hb hml hown hts (ctX3_isStore l D cI cZ q 0) gX3_has_X3_isStore rfl rfl rfl hdX3_isStore ⟨Nat.le_of_ble_eq_true rfl, Nat.le_of_ble_eq_true rfl⟩ gEM_true trivial hP hK hS hA rfl hl.1 rfl (Nat.le_of_ble_eq_true rfl) dX3_has_2 ⟨Nat.zero_le _, Nat.zero_le _⟩ (fun H locs hP hS => ?_)
  refine W.eq (g2 := F0 m 5 ls [.int (xRange 0 2), .ref (q 0)]) rfl ?_
  refine lv_if_eq (tgt := 20) hx hb dX3_has_5 (by decide) (fun c_5 => ?_) (fun c_5 => ?_)
  · exact absurd c_5 hs
  · refine lv_aload_n hx hb dX3_has_8 rfl (lv_at hl 0 rfl) ?_
    refine lv_iload_n hx hb dX3_has_9 rfl (lv_at hl 2 rfl) ?_
    refine g_callV (As := [.int p1]) (rest := [.ref (q 0)]) hx hb hml hown hts (ctX3_isCommit l D cI cZ q u n hn h60 p1) gX3_has_X3_isCommit rfl rfl rfl hdX3_isCommit ⟨Nat.le_of_ble_eq_true rfl, Nat.le_of_ble_eq_true rfl⟩ gEM_true trivial hP hK hD hS hA 0 rfl rfl rfl hl.1 rfl (Nat.le_of_ble_eq_true rfl) dX3_has_10 ⟨Nat.zero_le _, Nat.zero_le _⟩ (fun H locs hP hD hS => ?_)
    refine W.eq (g2 := F0 m 13 ls [.int (xRange p1 (nI n)), .ref (q 0)]) rfl ?_
    refine lv_if_eq (tgt := 20) hx hb dX3_has_13 (by decide) (fun c_13 => ?_) (fun c_13 => ?_)
    · exact absurd c_13 h1
    · refine lv_iconst (v := 0) hx hb dX3_has_16 (by decide +kernel) ?_
      refine lv_goto (tgt := 21) hx hb dX3_has_17 (by decide) ?_
      refine g_callV (As := [.int 0]) (rest := []) hx hb hml hown hts (ctX3_refused l D cI cZ q u 0) gX3_has_X3_refused rfl rfl rfl hdX3_refused ⟨Nat.le_of_ble_eq_true rfl, Nat.le_of_ble_eq_true rfl⟩ gEM_true trivial hP hK hD hS hA 0 rfl rfl rfl hl.1 rfl (Nat.le_of_ble_eq_true rfl) dX3_has_21 ⟨Nat.zero_le _, Nat.zero_le _⟩ (fun H locs hP hD hS => ?_)
      obtain ⟨hP, hD⟩ := g_toPD hP hD (MW_ext (Y := (mS u 14 (fun _ => 0))) (by refine ⟨?_, ?_, ?_, ?_, ?_, ?_, ?_, ?_, ?_, ?_, ?_, ?_, ?_, ?_, ?_, ?_, ?_, ?_⟩ <;> simp only [mS_at, ↓reduceIte, Nat.reduceEqDiff] <;> rfl))
      refine W.eq (g2 := F0 m 24 ls [.int (if 0 = 0 then 0 else 1)]) rfl ?_
      refine lv_if_ne (tgt := 40) hx hb dX3_has_24 (by decide) (fun c_24 => ?_) (fun c_24 => ?_)
      · exact absurd rfl c_24
      · refine lv_aload_n hx hb dX3_has_27 rfl (lv_at hl 0 rfl) ?_
        refine lv_iload_n hx hb dX3_has_28 rfl (lv_at hl 1 rfl) ?_
        refine lv_iload_n hx hb dX3_has_29 rfl (lv_at hl 2 rfl) ?_
        refine g_callV (As := [.int 0, .int p1]) (rest := []) hx hb hml hown hts (ctX3_isIn_0 l D cI cZ q (mS u 14 (fun _ => 0)) n hn h60 p1) gX3_has_X3_isIn rfl rfl rfl hdX3_isIn ⟨Nat.le_of_ble_eq_true rfl, Nat.le_of_ble_eq_true rfl⟩ gEM_true trivial hP hK hD hS hA 0 rfl rfl rfl hl.1 rfl (Nat.le_of_ble_eq_true rfl) dX3_has_30 ⟨Nat.zero_le _, Nat.zero_le _⟩ (fun H locs hP hD hS => ?_)
        refine W.eq (g2 := F0 m 33 ls [.int (mHas n (u 3) 0 p1)]) rfl ?_
        refine lv_if_eq (tgt := 40) hx hb dX3_has_33 (by decide) (fun c_33 => ?_) (fun c_33 => ?_)
        · refine lv_iconst (v := 0) hx hb dX3_has_40 (by decide +kernel) ?_
          refine g_zret (u1 := (mS u 14 (fun _ => 0))) hx hb hret hlk hQ hP hD hS dX3_has_41 ?_ ?_ ?_
          · exact rfl
          · exact (by rw [c_33])
          · exact rfl
        · refine lv_iconst (v := 1) hx hb dX3_has_36 (by decide +kernel) ?_
          refine lv_goto (tgt := 41) hx hb dX3_has_37 (by decide) ?_
          refine g_zret (u1 := (mS u 14 (fun _ => 0))) hx hb hret hlk hQ hP hD hS dX3_has_41 ?_ ?_ ?_
          · exact rfl
          · exact (by rw [(mHas_01 _ _ _ _).resolve_left c_33])
          · exact rfl
abbrev rmX3_has_r0 : Room := { frames := 2, cells := 0, slots := 0, locals := 43 }
set_option maxHeartbeats 4000000 in
set_option maxRecDepth 100000 in
theorem ctX3_has_r0 (l : Launch) (D : va_G) (cI cZ : ClassId) (q : Nat → Nat) (u : SM) (n : Nat) (hn : u 15 0 = nI n) (h60 : n ≤ 60) (p1 : Int32) (h1 : xRange p1 (nI n) = 0) : gM l yX3_has wsX3_has rmX3_has_r0 D [(cI, .int), (cZ, .boolean)] (MW cI cZ q) (fun _ => True) [.ref (q 0), .int 0, .int p1] u (some (.int 0)) (mS u 14 (fun _ => 1)) := by
  refine g_start (cc := cX3_has) (maxL := 3) (ret := (some .boolean)) (by decide) rfl (Nat.le_of_ble_eq_true rfl) ?_
  intro p e s m below meth c A ls Q hx hb hml hret hts hown hlk hE hP hK hD hA hl hQ hS
  have hown : s.vm.findClass RX3 = some m.cls := hown
  have hl : lv_has ls 3 [(0, .ref (q 0)), (1, .int 0), (2, .int p1)] := hl
  have hs : ¬ xRange 0 2 = 0 := by decide +kernel
  refine lv_aload_n hx hb dX3_has_0 rfl (lv_at hl 0 rfl) ?_
  refine lv_iload_n hx hb dX3_has_1 rfl (lv_at hl 1 rfl) ?_
  refine g_callS0 (As := [.int 0]) (rest := [.ref (q 0)]) hx hb hml hown hts (ctX3_isStore l D cI cZ q 0) gX3_has_X3_isStore rfl rfl rfl hdX3_isStore ⟨Nat.le_of_ble_eq_true rfl, Nat.le_of_ble_eq_true rfl⟩ gEM_true trivial hP hK hS hA rfl hl.1 rfl (Nat.le_of_ble_eq_true rfl) dX3_has_2 ⟨Nat.zero_le _, Nat.zero_le _⟩ (fun H locs hP hS => ?_)
  refine W.eq (g2 := F0 m 5 ls [.int (xRange 0 2), .ref (q 0)]) rfl ?_
  refine lv_if_eq (tgt := 20) hx hb dX3_has_5 (by decide) (fun c_5 => ?_) (fun c_5 => ?_)
  · exact absurd c_5 hs
  · refine lv_aload_n hx hb dX3_has_8 rfl (lv_at hl 0 rfl) ?_
    refine lv_iload_n hx hb dX3_has_9 rfl (lv_at hl 2 rfl) ?_
    refine g_callV (As := [.int p1]) (rest := [.ref (q 0)]) hx hb hml hown hts (ctX3_isCommit l D cI cZ q u n hn h60 p1) gX3_has_X3_isCommit rfl rfl rfl hdX3_isCommit ⟨Nat.le_of_ble_eq_true rfl, Nat.le_of_ble_eq_true rfl⟩ gEM_true trivial hP hK hD hS hA 0 rfl rfl rfl hl.1 rfl (Nat.le_of_ble_eq_true rfl) dX3_has_10 ⟨Nat.zero_le _, Nat.zero_le _⟩ (fun H locs hP hD hS => ?_)
    refine W.eq (g2 := F0 m 13 ls [.int (xRange p1 (nI n)), .ref (q 0)]) rfl ?_
    refine lv_if_eq (tgt := 20) hx hb dX3_has_13 (by decide) (fun c_13 => ?_) (fun c_13 => ?_)
    · refine lv_iconst (v := 1) hx hb dX3_has_20 (by decide +kernel) ?_
      refine g_callV (As := [.int 1]) (rest := []) hx hb hml hown hts (ctX3_refused l D cI cZ q u 1) gX3_has_X3_refused rfl rfl rfl hdX3_refused ⟨Nat.le_of_ble_eq_true rfl, Nat.le_of_ble_eq_true rfl⟩ gEM_true trivial hP hK hD hS hA 0 rfl rfl rfl hl.1 rfl (Nat.le_of_ble_eq_true rfl) dX3_has_21 ⟨Nat.zero_le _, Nat.zero_le _⟩ (fun H locs hP hD hS => ?_)
      obtain ⟨hP, hD⟩ := g_toPD hP hD (MW_ext (Y := (mS u 14 (fun _ => 1))) (by refine ⟨?_, ?_, ?_, ?_, ?_, ?_, ?_, ?_, ?_, ?_, ?_, ?_, ?_, ?_, ?_, ?_, ?_, ?_⟩ <;> simp only [mS_at, ↓reduceIte, Nat.reduceEqDiff] <;> rfl))
      refine W.eq (g2 := F0 m 24 ls [.int (if 1 = 0 then 0 else 1)]) rfl ?_
      refine lv_if_ne (tgt := 40) hx hb dX3_has_24 (by decide) (fun c_24 => ?_) (fun c_24 => ?_)
      · refine lv_iconst (v := 0) hx hb dX3_has_40 (by decide +kernel) ?_
        refine g_zret (u1 := (mS u 14 (fun _ => 1))) hx hb hret hlk hQ hP hD hS dX3_has_41 ?_ ?_ ?_
        · exact rfl
        · exact rfl
        · exact rfl
      · exact absurd c_24 (by decide)
    · exact absurd h1 c_13
theorem lkX3_hasFile_23 : Cond.fieldLink RX3 23 "FetchHouseModel" "hasFile" "[Z" ∈ wsX3_hasFile := List.mem_of_getElem? (i := 1) (by decide +kernel)
theorem inX3_hasFile_RX3 : ∀ w ∈ u_ws RX3 TX3 18, w ∈ wsX3_hasFile := fun w h => List.mem_cons_of_mem _ (List.mem_append_right _ h)
abbrev rmX3_hasFile_0 : Room := { frames := 2, cells := 0, slots := 0, locals := 42 }
set_option maxHeartbeats 4000000 in
set_option maxRecDepth 100000 in
theorem ctX3_hasFile_0 (l : Launch) (D : va_G) (cI cZ : ClassId) (q : Nat → Nat) (u : SM) (p1 : Int32) (h1 : ¬ xRange p1 100 = 0) : gM l yX3_hasFile wsX3_hasFile rmX3_hasFile_0 D [(cI, .int), (cZ, .boolean)] (MW cI cZ q) (fun _ => True) [.ref (q 0), .int 0, .int p1] u (some (.int (if u 4 (100 * 0 + p1.toNatClampNeg) = 0 then 0 else 1))) (mS u 14 (fun _ => 0)) := by
  refine g_start (cc := cX3_hasFile) (maxL := 3) (ret := (some .boolean)) (by decide) rfl (Nat.le_of_ble_eq_true rfl) ?_
  intro p e s m below meth c A ls Q hx hb hml hret hts hown hlk hE hP hK hD hA hl hQ hS
  have hown : s.vm.findClass RX3 = some m.cls := hown
  have hl : lv_has ls 3 [(0, .ref (q 0)), (1, .int 0), (2, .int p1)] := hl
  have hs : ¬ xRange 0 2 = 0 := by decide +kernel
  obtain ⟨j, hj, hj2⟩ := xRange_ne (n := 100) rfl (by omega) h1
  have hjc : p1.toNatClampNeg = j := by rw [hj2, nI_clamp (by omega)]
  have hje : p1 = nI p1.toNatClampNeg := by rw [hjc]; exact hj2
  refine lv_aload_n hx hb dX3_hasFile_0 rfl (lv_at hl 0 rfl) ?_
  refine lv_iload_n hx hb dX3_hasFile_1 rfl (lv_at hl 1 rfl) ?_
  refine g_callS0 (As := [.int 0]) (rest := [.ref (q 0)]) hx hb hml hown hts (ctX3_isStore l D cI cZ q 0) gX3_hasFile_X3_isStore rfl rfl rfl hdX3_isStore ⟨Nat.le_of_ble_eq_true rfl, Nat.le_of_ble_eq_true rfl⟩ gEM_true trivial hP hK hS hA rfl hl.1 rfl (Nat.le_of_ble_eq_true rfl) dX3_hasFile_2 ⟨Nat.zero_le _, Nat.zero_le _⟩ (fun H locs hP hS => ?_)
  refine W.eq (g2 := F0 m 5 ls [.int (xRange 0 2), .ref (q 0)]) rfl ?_
  refine lv_if_ne (tgt := 12) hx hb dX3_hasFile_5 (by decide) (fun c_5 => ?_) (fun c_5 => ?_)
  · refine lv_iload_n hx hb dX3_hasFile_12 rfl (lv_at hl 2 rfl) ?_
    refine lv_iconst (v := 0) hx hb dX3_hasFile_13 (by decide +kernel) ?_
    refine lv_bipush (v := 99) hx hb dX3_hasFile_14 (by decide +kernel) ?_
    refine g_callS0 (As := [.int p1, .int 0, .int 99]) (rest := [.ref (q 0)]) hx hb hml hown hts (ctX3_in_100 l D cI cZ q p1) gX3_hasFile_X3_in rfl rfl rfl hdX3_in ⟨Nat.le_of_ble_eq_true rfl, Nat.le_of_ble_eq_true rfl⟩ gEM_true trivial hP hK hS hA rfl hl.1 rfl (Nat.le_of_ble_eq_true rfl) dX3_hasFile_16 ⟨Nat.zero_le _, Nat.zero_le _⟩ (fun H locs hP hS => ?_)
    refine W.eq (g2 := F0 m 19 ls [.int (xRange p1 100), .ref (q 0)]) rfl ?_
    refine lv_if_eq (tgt := 26) hx hb dX3_hasFile_19 (by decide) (fun c_19 => ?_) (fun c_19 => ?_)
    · exact absurd c_19 h1
    · refine lv_iconst (v := 0) hx hb dX3_hasFile_22 (by decide +kernel) ?_
      refine lv_goto (tgt := 27) hx hb dX3_hasFile_23 (by decide) ?_
      refine g_callV (As := [.int 0]) (rest := []) hx hb hml hown hts (ctX3_refused l D cI cZ q u 0) gX3_hasFile_X3_refused rfl rfl rfl hdX3_refused ⟨Nat.le_of_ble_eq_true rfl, Nat.le_of_ble_eq_true rfl⟩ gEM_true trivial hP hK hD hS hA 0 rfl rfl rfl hl.1 rfl (Nat.le_of_ble_eq_true rfl) dX3_hasFile_27 ⟨Nat.zero_le _, Nat.zero_le _⟩ (fun H locs hP hD hS => ?_)
      obtain ⟨hP, hD⟩ := g_toPD hP hD (MW_ext (Y := (mS u 14 (fun _ => 0))) (by refine ⟨?_, ?_, ?_, ?_, ?_, ?_, ?_, ?_, ?_, ?_, ?_, ?_, ?_, ?_, ?_, ?_, ?_, ?_⟩ <;> simp only [mS_at, ↓reduceIte, Nat.reduceEqDiff] <;> rfl))
      refine W.eq (g2 := F0 m 30 ls [.int (if 0 = 0 then 0 else 1)]) rfl ?_
      refine lv_if_ne (tgt := 51) hx hb dX3_hasFile_30 (by decide) (fun c_30 => ?_) (fun c_30 => ?_)
      · exact absurd rfl c_30
      · refine lv_aload_n hx hb dX3_hasFile_33 rfl (lv_at hl 0 rfl) ?_
        refine va_get (ci := 3) (v := .ref (q 5)) (C := RX3) (T := TX3) (N := 18) hx hb hts inX3_hasFile_RX3 hown hK hP 0 rfl rfl 6 (by decide) (hts _ lkX3_hasFile_23) (fun _ h9 => h9) rfl dX3_hasFile_34 ?_
        refine lv_bipush (v := 100) hx hb dX3_hasFile_37 (by decide +kernel) ?_
        refine lv_iload_n hx hb dX3_hasFile_39 rfl (lv_at hl 1 rfl) ?_
        refine lv_imul hx hb dX3_hasFile_40 ?_
        refine lv_iload_n hx hb dX3_hasFile_41 rfl (lv_at hl 2 rfl) ?_
        refine lv_iadd hx hb dX3_hasFile_42 ?_
        refine g_zald (n := 200) (f := (u 4)) hx hb hK hP 5 1 (by rw [MW_get_4, show (mS u 14 (fun _ => 0)) 4 = (u 4) from by simp only [mS_at, ↓reduceIte, Nat.reduceEqDiff]]) rfl (100 * 0 + p1.toNatClampNeg) (by omega) (by omega) (g_addE (g_mulE rfl rfl) hje) dX3_hasFile_43 ?_
        refine lv_if_eq (tgt := 51) hx hb dX3_hasFile_44 (by decide) (fun c_44 => ?_) (fun c_44 => ?_)
        · refine lv_iconst (v := 0) hx hb dX3_hasFile_51 (by decide +kernel) ?_
          refine g_zret (u1 := (mS u 14 (fun _ => 0))) hx hb hret hlk hQ hP hD hS dX3_hasFile_52 ?_ ?_ ?_
          · exact rfl
          · exact (by rw [if_pos c_44])
          · exact (MW_ext (by refine ⟨?_, ?_, ?_, ?_, ?_, ?_, ?_, ?_, ?_, ?_, ?_, ?_, ?_, ?_, ?_, ?_, ?_, ?_⟩ <;> simp only [mS_at, ↓reduceIte, Nat.reduceEqDiff] <;> rfl))
        · refine lv_iconst (v := 1) hx hb dX3_hasFile_47 (by decide +kernel) ?_
          refine lv_goto (tgt := 52) hx hb dX3_hasFile_48 (by decide) ?_
          refine g_zret (u1 := (mS u 14 (fun _ => 0))) hx hb hret hlk hQ hP hD hS dX3_hasFile_52 ?_ ?_ ?_
          · exact rfl
          · exact (by rw [if_neg c_44])
          · exact (MW_ext (by refine ⟨?_, ?_, ?_, ?_, ?_, ?_, ?_, ?_, ?_, ?_, ?_, ?_, ?_, ?_, ?_, ?_, ?_, ?_⟩ <;> simp only [mS_at, ↓reduceIte, Nat.reduceEqDiff] <;> rfl))
  · exact absurd c_5 hs
abbrev rmX3_hasFile_r0 : Room := { frames := 2, cells := 0, slots := 0, locals := 42 }
set_option maxHeartbeats 4000000 in
set_option maxRecDepth 100000 in
theorem ctX3_hasFile_r0 (l : Launch) (D : va_G) (cI cZ : ClassId) (q : Nat → Nat) (u : SM) (p1 : Int32) (h1 : xRange p1 100 = 0) : gM l yX3_hasFile wsX3_hasFile rmX3_hasFile_r0 D [(cI, .int), (cZ, .boolean)] (MW cI cZ q) (fun _ => True) [.ref (q 0), .int 0, .int p1] u (some (.int 0)) (mS u 14 (fun _ => 2)) := by
  refine g_start (cc := cX3_hasFile) (maxL := 3) (ret := (some .boolean)) (by decide) rfl (Nat.le_of_ble_eq_true rfl) ?_
  intro p e s m below meth c A ls Q hx hb hml hret hts hown hlk hE hP hK hD hA hl hQ hS
  have hown : s.vm.findClass RX3 = some m.cls := hown
  have hl : lv_has ls 3 [(0, .ref (q 0)), (1, .int 0), (2, .int p1)] := hl
  have hs : ¬ xRange 0 2 = 0 := by decide +kernel
  refine lv_aload_n hx hb dX3_hasFile_0 rfl (lv_at hl 0 rfl) ?_
  refine lv_iload_n hx hb dX3_hasFile_1 rfl (lv_at hl 1 rfl) ?_
  refine g_callS0 (As := [.int 0]) (rest := [.ref (q 0)]) hx hb hml hown hts (ctX3_isStore l D cI cZ q 0) gX3_hasFile_X3_isStore rfl rfl rfl hdX3_isStore ⟨Nat.le_of_ble_eq_true rfl, Nat.le_of_ble_eq_true rfl⟩ gEM_true trivial hP hK hS hA rfl hl.1 rfl (Nat.le_of_ble_eq_true rfl) dX3_hasFile_2 ⟨Nat.zero_le _, Nat.zero_le _⟩ (fun H locs hP hS => ?_)
  refine W.eq (g2 := F0 m 5 ls [.int (xRange 0 2), .ref (q 0)]) rfl ?_
  refine lv_if_ne (tgt := 12) hx hb dX3_hasFile_5 (by decide) (fun c_5 => ?_) (fun c_5 => ?_)
  · refine lv_iload_n hx hb dX3_hasFile_12 rfl (lv_at hl 2 rfl) ?_
    refine lv_iconst (v := 0) hx hb dX3_hasFile_13 (by decide +kernel) ?_
    refine lv_bipush (v := 99) hx hb dX3_hasFile_14 (by decide +kernel) ?_
    refine g_callS0 (As := [.int p1, .int 0, .int 99]) (rest := [.ref (q 0)]) hx hb hml hown hts (ctX3_in_100 l D cI cZ q p1) gX3_hasFile_X3_in rfl rfl rfl hdX3_in ⟨Nat.le_of_ble_eq_true rfl, Nat.le_of_ble_eq_true rfl⟩ gEM_true trivial hP hK hS hA rfl hl.1 rfl (Nat.le_of_ble_eq_true rfl) dX3_hasFile_16 ⟨Nat.zero_le _, Nat.zero_le _⟩ (fun H locs hP hS => ?_)
    refine W.eq (g2 := F0 m 19 ls [.int (xRange p1 100), .ref (q 0)]) rfl ?_
    refine lv_if_eq (tgt := 26) hx hb dX3_hasFile_19 (by decide) (fun c_19 => ?_) (fun c_19 => ?_)
    · refine lv_iconst (v := 2) hx hb dX3_hasFile_26 (by decide +kernel) ?_
      refine g_callV (As := [.int 2]) (rest := []) hx hb hml hown hts (ctX3_refused l D cI cZ q u 2) gX3_hasFile_X3_refused rfl rfl rfl hdX3_refused ⟨Nat.le_of_ble_eq_true rfl, Nat.le_of_ble_eq_true rfl⟩ gEM_true trivial hP hK hD hS hA 0 rfl rfl rfl hl.1 rfl (Nat.le_of_ble_eq_true rfl) dX3_hasFile_27 ⟨Nat.zero_le _, Nat.zero_le _⟩ (fun H locs hP hD hS => ?_)
      obtain ⟨hP, hD⟩ := g_toPD hP hD (MW_ext (Y := (mS u 14 (fun _ => 2))) (by refine ⟨?_, ?_, ?_, ?_, ?_, ?_, ?_, ?_, ?_, ?_, ?_, ?_, ?_, ?_, ?_, ?_, ?_, ?_⟩ <;> simp only [mS_at, ↓reduceIte, Nat.reduceEqDiff] <;> rfl))
      refine W.eq (g2 := F0 m 30 ls [.int (if 2 = 0 then 0 else 1)]) rfl ?_
      refine lv_if_ne (tgt := 51) hx hb dX3_hasFile_30 (by decide) (fun c_30 => ?_) (fun c_30 => ?_)
      · refine lv_iconst (v := 0) hx hb dX3_hasFile_51 (by decide +kernel) ?_
        refine g_zret (u1 := (mS u 14 (fun _ => 2))) hx hb hret hlk hQ hP hD hS dX3_hasFile_52 ?_ ?_ ?_
        · exact rfl
        · exact rfl
        · exact rfl
      · exact absurd c_30 (by decide)
    · exact absurd h1 c_19
  · exact absurd c_5 hs
theorem lkX3_ref_26 : Cond.fieldLink RX3 26 "FetchHouseModel" "refs" "[I" ∈ wsX3_ref := List.mem_of_getElem? (i := 1) (by decide +kernel)
theorem inX3_ref_RX3 : ∀ w ∈ u_ws RX3 TX3 18, w ∈ wsX3_ref := fun w h => List.mem_cons_of_mem _ (List.mem_append_right _ h)
abbrev rmX3_ref_0 : Room := { frames := 2, cells := 0, slots := 0, locals := 42 }
set_option maxHeartbeats 4000000 in
set_option maxRecDepth 100000 in
theorem ctX3_ref_0 (l : Launch) (D : va_G) (cI cZ : ClassId) (q : Nat → Nat) (u : SM) (p1 : Int32) (h1 : ¬ xRange p1 4 = 0) : gM l yX3_ref wsX3_ref rmX3_ref_0 D [(cI, .int), (cZ, .boolean)] (MW cI cZ q) (fun _ => True) [.ref (q 0), .int 0, .int p1] u (some (.int (u 5 (4 * 0 + p1.toNatClampNeg)))) (mS u 14 (fun _ => 0)) := by
  refine g_start (cc := cX3_ref) (maxL := 3) (ret := (some .int)) (by decide) rfl (Nat.le_of_ble_eq_true rfl) ?_
  intro p e s m below meth c A ls Q hx hb hml hret hts hown hlk hE hP hK hD hA hl hQ hS
  have hown : s.vm.findClass RX3 = some m.cls := hown
  have hl : lv_has ls 3 [(0, .ref (q 0)), (1, .int 0), (2, .int p1)] := hl
  have hs : ¬ xRange 0 2 = 0 := by decide +kernel
  obtain ⟨j, hj, hj2⟩ := xRange_ne (n := 4) rfl (by omega) h1
  have hjc : p1.toNatClampNeg = j := by rw [hj2, nI_clamp (by omega)]
  have hje : p1 = nI p1.toNatClampNeg := by rw [hjc]; exact hj2
  refine lv_aload_n hx hb dX3_ref_0 rfl (lv_at hl 0 rfl) ?_
  refine lv_iload_n hx hb dX3_ref_1 rfl (lv_at hl 1 rfl) ?_
  refine g_callS0 (As := [.int 0]) (rest := [.ref (q 0)]) hx hb hml hown hts (ctX3_isStore l D cI cZ q 0) gX3_ref_X3_isStore rfl rfl rfl hdX3_isStore ⟨Nat.le_of_ble_eq_true rfl, Nat.le_of_ble_eq_true rfl⟩ gEM_true trivial hP hK hS hA rfl hl.1 rfl (Nat.le_of_ble_eq_true rfl) dX3_ref_2 ⟨Nat.zero_le _, Nat.zero_le _⟩ (fun H locs hP hS => ?_)
  refine W.eq (g2 := F0 m 5 ls [.int (xRange 0 2), .ref (q 0)]) rfl ?_
  refine lv_if_eq (tgt := 19) hx hb dX3_ref_5 (by decide) (fun c_5 => ?_) (fun c_5 => ?_)
  · exact absurd c_5 hs
  · refine lv_iload_n hx hb dX3_ref_8 rfl (lv_at hl 2 rfl) ?_
    refine g_callS0 (As := [.int p1]) (rest := [.ref (q 0)]) hx hb hml hown hts (ctX3_isRef l D cI cZ q p1) gX3_ref_X3_isRef rfl rfl rfl hdX3_isRef ⟨Nat.le_of_ble_eq_true rfl, Nat.le_of_ble_eq_true rfl⟩ gEM_true trivial hP hK hS hA rfl hl.1 rfl (Nat.le_of_ble_eq_true rfl) dX3_ref_9 ⟨Nat.zero_le _, Nat.zero_le _⟩ (fun H locs hP hS => ?_)
    refine W.eq (g2 := F0 m 12 ls [.int (xRange p1 4), .ref (q 0)]) rfl ?_
    refine lv_if_eq (tgt := 19) hx hb dX3_ref_12 (by decide) (fun c_12 => ?_) (fun c_12 => ?_)
    · exact absurd c_12 h1
    · refine lv_iconst (v := 0) hx hb dX3_ref_15 (by decide +kernel) ?_
      refine lv_goto (tgt := 20) hx hb dX3_ref_16 (by decide) ?_
      refine g_callV (As := [.int 0]) (rest := []) hx hb hml hown hts (ctX3_refused l D cI cZ q u 0) gX3_ref_X3_refused rfl rfl rfl hdX3_refused ⟨Nat.le_of_ble_eq_true rfl, Nat.le_of_ble_eq_true rfl⟩ gEM_true trivial hP hK hD hS hA 0 rfl rfl rfl hl.1 rfl (Nat.le_of_ble_eq_true rfl) dX3_ref_20 ⟨Nat.zero_le _, Nat.zero_le _⟩ (fun H locs hP hD hS => ?_)
      obtain ⟨hP, hD⟩ := g_toPD hP hD (MW_ext (Y := (mS u 14 (fun _ => 0))) (by refine ⟨?_, ?_, ?_, ?_, ?_, ?_, ?_, ?_, ?_, ?_, ?_, ?_, ?_, ?_, ?_, ?_, ?_, ?_⟩ <;> simp only [mS_at, ↓reduceIte, Nat.reduceEqDiff] <;> rfl))
      refine W.eq (g2 := F0 m 23 ls [.int (if 0 = 0 then 0 else 1)]) rfl ?_
      refine lv_if_eq (tgt := 30) hx hb dX3_ref_23 (by decide) (fun c_23 => ?_) (fun c_23 => ?_)
      · refine lv_aload_n hx hb dX3_ref_30 rfl (lv_at hl 0 rfl) ?_
        refine va_get (ci := 3) (v := .ref (q 6)) (C := RX3) (T := TX3) (N := 18) hx hb hts inX3_ref_RX3 hown hK hP 0 rfl rfl 7 (by decide) (hts _ lkX3_ref_26) (fun _ h9 => h9) rfl dX3_ref_31 ?_
        refine lv_iconst (v := 4) hx hb dX3_ref_34 (by decide +kernel) ?_
        refine lv_iload_n hx hb dX3_ref_35 rfl (lv_at hl 1 rfl) ?_
        refine lv_imul hx hb dX3_ref_36 ?_
        refine lv_iload_n hx hb dX3_ref_37 rfl (lv_at hl 2 rfl) ?_
        refine lv_iadd hx hb dX3_ref_38 ?_
        refine g_iald (n := 8) (f := (u 5)) hx hb hK hP 6 0 (by rw [MW_get_5, show (mS u 14 (fun _ => 0)) 5 = (u 5) from by simp only [mS_at, ↓reduceIte, Nat.reduceEqDiff]]) rfl (4 * 0 + p1.toNatClampNeg) (by omega) (by omega) (g_addE (g_mulE rfl rfl) hje) dX3_ref_39 ?_
        refine g_iret (u1 := (mS u 14 (fun _ => 0))) hx hb hret hlk hQ hP hD hS dX3_ref_40 ?_ ?_
        · exact rfl
        · exact rfl
      · exact absurd (show (0 : Int32) = 0 from rfl) c_23
abbrev rmX3_ref_r0 : Room := { frames := 2, cells := 0, slots := 0, locals := 42 }
set_option maxHeartbeats 4000000 in
set_option maxRecDepth 100000 in
theorem ctX3_ref_r0 (l : Launch) (D : va_G) (cI cZ : ClassId) (q : Nat → Nat) (u : SM) (p1 : Int32) (h1 : xRange p1 4 = 0) : gM l yX3_ref wsX3_ref rmX3_ref_r0 D [(cI, .int), (cZ, .boolean)] (MW cI cZ q) (fun _ => True) [.ref (q 0), .int 0, .int p1] u (some (.int 0)) (mS u 14 (fun _ => 1)) := by
  refine g_start (cc := cX3_ref) (maxL := 3) (ret := (some .int)) (by decide) rfl (Nat.le_of_ble_eq_true rfl) ?_
  intro p e s m below meth c A ls Q hx hb hml hret hts hown hlk hE hP hK hD hA hl hQ hS
  have hown : s.vm.findClass RX3 = some m.cls := hown
  have hl : lv_has ls 3 [(0, .ref (q 0)), (1, .int 0), (2, .int p1)] := hl
  have hs : ¬ xRange 0 2 = 0 := by decide +kernel
  refine lv_aload_n hx hb dX3_ref_0 rfl (lv_at hl 0 rfl) ?_
  refine lv_iload_n hx hb dX3_ref_1 rfl (lv_at hl 1 rfl) ?_
  refine g_callS0 (As := [.int 0]) (rest := [.ref (q 0)]) hx hb hml hown hts (ctX3_isStore l D cI cZ q 0) gX3_ref_X3_isStore rfl rfl rfl hdX3_isStore ⟨Nat.le_of_ble_eq_true rfl, Nat.le_of_ble_eq_true rfl⟩ gEM_true trivial hP hK hS hA rfl hl.1 rfl (Nat.le_of_ble_eq_true rfl) dX3_ref_2 ⟨Nat.zero_le _, Nat.zero_le _⟩ (fun H locs hP hS => ?_)
  refine W.eq (g2 := F0 m 5 ls [.int (xRange 0 2), .ref (q 0)]) rfl ?_
  refine lv_if_eq (tgt := 19) hx hb dX3_ref_5 (by decide) (fun c_5 => ?_) (fun c_5 => ?_)
  · exact absurd c_5 hs
  · refine lv_iload_n hx hb dX3_ref_8 rfl (lv_at hl 2 rfl) ?_
    refine g_callS0 (As := [.int p1]) (rest := [.ref (q 0)]) hx hb hml hown hts (ctX3_isRef l D cI cZ q p1) gX3_ref_X3_isRef rfl rfl rfl hdX3_isRef ⟨Nat.le_of_ble_eq_true rfl, Nat.le_of_ble_eq_true rfl⟩ gEM_true trivial hP hK hS hA rfl hl.1 rfl (Nat.le_of_ble_eq_true rfl) dX3_ref_9 ⟨Nat.zero_le _, Nat.zero_le _⟩ (fun H locs hP hS => ?_)
    refine W.eq (g2 := F0 m 12 ls [.int (xRange p1 4), .ref (q 0)]) rfl ?_
    refine lv_if_eq (tgt := 19) hx hb dX3_ref_12 (by decide) (fun c_12 => ?_) (fun c_12 => ?_)
    · refine lv_iconst (v := 1) hx hb dX3_ref_19 (by decide +kernel) ?_
      refine g_callV (As := [.int 1]) (rest := []) hx hb hml hown hts (ctX3_refused l D cI cZ q u 1) gX3_ref_X3_refused rfl rfl rfl hdX3_refused ⟨Nat.le_of_ble_eq_true rfl, Nat.le_of_ble_eq_true rfl⟩ gEM_true trivial hP hK hD hS hA 0 rfl rfl rfl hl.1 rfl (Nat.le_of_ble_eq_true rfl) dX3_ref_20 ⟨Nat.zero_le _, Nat.zero_le _⟩ (fun H locs hP hD hS => ?_)
      obtain ⟨hP, hD⟩ := g_toPD hP hD (MW_ext (Y := (mS u 14 (fun _ => 1))) (by refine ⟨?_, ?_, ?_, ?_, ?_, ?_, ?_, ?_, ?_, ?_, ?_, ?_, ?_, ?_, ?_, ?_, ?_, ?_⟩ <;> simp only [mS_at, ↓reduceIte, Nat.reduceEqDiff] <;> rfl))
      refine W.eq (g2 := F0 m 23 ls [.int (if 1 = 0 then 0 else 1)]) rfl ?_
      refine lv_if_eq (tgt := 30) hx hb dX3_ref_23 (by decide) (fun c_23 => ?_) (fun c_23 => ?_)
      · exact absurd c_23 (by decide)
      · refine lv_iconst (v := 0) hx hb dX3_ref_26 (by decide +kernel) ?_
        refine lv_goto (tgt := 40) hx hb dX3_ref_27 (by decide) ?_
        refine g_iret (u1 := (mS u 14 (fun _ => 1))) hx hb hret hlk hQ hP hD hS dX3_ref_40 ?_ ?_
        · exact rfl
        · exact rfl
    · exact absurd h1 c_12
theorem lkX3_setRef_26 : Cond.fieldLink RX3 26 "FetchHouseModel" "refs" "[I" ∈ wsX3_setRef := List.mem_of_getElem? (i := 1) (by decide +kernel)
theorem inX3_setRef_RX3 : ∀ w ∈ u_ws RX3 TX3 18, w ∈ wsX3_setRef := fun w h => List.mem_cons_of_mem _ (List.mem_append_right _ h)
abbrev rmX3_setRef_0 : Room := { frames := 4, cells := 0, slots := 0, locals := 87 }
set_option maxHeartbeats 4000000 in
set_option maxRecDepth 100000 in
theorem ctX3_setRef_0 (l : Launch) (D : va_G) (cI cZ : ClassId) (q : Nat → Nat) (u : SM) (n : Nat) (hn : u 15 0 = nI n) (h60 : n ≤ 60) (p1 p2 : Int32) (h1 : ¬ xRange p1 4 = 0) (h2 : ¬ mHasN n (u 3) 0 p2 = 0) : gM l yX3_setRef wsX3_setRef rmX3_setRef_0 D [(cI, .int), (cZ, .boolean)] (MW cI cZ q) (fun _ => True) [.ref (q 0), .int 0, .int p1, .int p2] u (some (.int (u 5 (4 * 0 + p1.toNatClampNeg)))) (mS (mS u 14 (fun _ => 0)) 5 (upd (u 5) (4 * 0 + p1.toNatClampNeg) p2)) := by
  refine g_start (cc := cX3_setRef) (maxL := 6) (ret := (some .int)) (by decide) rfl (Nat.le_of_ble_eq_true rfl) ?_
  intro p e s m below meth c A ls Q hx hb hml hret hts hown hlk hE hP hK hD hA hl hQ hS
  have hown : s.vm.findClass RX3 = some m.cls := hown
  have hl : lv_has ls 6 [(0, .ref (q 0)), (1, .int 0), (2, .int p1), (3, .int p2)] := hl
  have hs : ¬ xRange 0 2 = 0 := by decide +kernel
  obtain ⟨j, hj, hj2⟩ := xRange_ne (n := 4) rfl (by omega) h1
  have hjc : p1.toNatClampNeg = j := by rw [hj2, nI_clamp (by omega)]
  have hje : p1 = nI p1.toNatClampNeg := by rw [hjc]; exact hj2
  refine lv_iload_n hx hb dX3_setRef_0 rfl (lv_at hl 1 rfl) ?_
  refine g_callS0 (As := [.int 0]) (rest := []) hx hb hml hown hts (ctX3_isStore l D cI cZ q 0) gX3_setRef_X3_isStore rfl rfl rfl hdX3_isStore ⟨Nat.le_of_ble_eq_true rfl, Nat.le_of_ble_eq_true rfl⟩ gEM_true trivial hP hK hS hA rfl hl.1 rfl (Nat.le_of_ble_eq_true rfl) dX3_setRef_1 ⟨Nat.zero_le _, Nat.zero_le _⟩ (fun H locs hP hS => ?_)
  refine W.eq (g2 := F0 m 4 ls [.int (xRange 0 2)]) rfl ?_
  refine lv_if_eq (tgt := 27) hx hb dX3_setRef_4 (by decide) (fun c_4 => ?_) (fun c_4 => ?_)
  · exact absurd c_4 hs
  · refine lv_iload_n hx hb dX3_setRef_7 rfl (lv_at hl 2 rfl) ?_
    refine g_callS0 (As := [.int p1]) (rest := []) hx hb hml hown hts (ctX3_isRef l D cI cZ q p1) gX3_setRef_X3_isRef rfl rfl rfl hdX3_isRef ⟨Nat.le_of_ble_eq_true rfl, Nat.le_of_ble_eq_true rfl⟩ gEM_true trivial hP hK hS hA rfl hl.1 rfl (Nat.le_of_ble_eq_true rfl) dX3_setRef_8 ⟨Nat.zero_le _, Nat.zero_le _⟩ (fun H locs hP hS => ?_)
    refine W.eq (g2 := F0 m 11 ls [.int (xRange p1 4)]) rfl ?_
    refine lv_if_eq (tgt := 27) hx hb dX3_setRef_11 (by decide) (fun c_11 => ?_) (fun c_11 => ?_)
    · exact absurd c_11 h1
    · refine lv_aload_n hx hb dX3_setRef_14 rfl (lv_at hl 0 rfl) ?_
      refine lv_iload_n hx hb dX3_setRef_15 rfl (lv_at hl 1 rfl) ?_
      refine lv_iload_n hx hb dX3_setRef_16 rfl (lv_at hl 3 rfl) ?_
      refine g_callV (As := [.int 0, .int p2]) (rest := []) hx hb hml hown hts (ctX3_isInOrNone_0 l D cI cZ q u n hn h60 p2) gX3_setRef_X3_isInOrNone rfl rfl rfl hdX3_isInOrNone ⟨Nat.le_of_ble_eq_true rfl, Nat.le_of_ble_eq_true rfl⟩ gEM_true trivial hP hK hD hS hA 0 rfl rfl rfl hl.1 rfl (Nat.le_of_ble_eq_true rfl) dX3_setRef_17 ⟨Nat.zero_le _, Nat.zero_le _⟩ (fun H locs hP hD hS => ?_)
      refine W.eq (g2 := F0 m 20 ls [.int (mHasN n (u 3) 0 p2)]) rfl ?_
      refine lv_if_eq (tgt := 27) hx hb dX3_setRef_20 (by decide) (fun c_20 => ?_) (fun c_20 => ?_)
      · exact absurd c_20 h2
      · refine lv_iconst (v := 1) hx hb dX3_setRef_23 (by decide +kernel) ?_
        refine lv_goto (tgt := 28) hx hb dX3_setRef_24 (by decide) ?_
        refine lv_istore (lv' := [(4, .int 1), (0, .ref (q 0)), (1, .int 0), (2, .int p1), (3, .int p2)]) hx hb dX3_setRef_28 hl (by decide) rfl (fun ls hl => ?_)
        refine lv_aload_n hx hb dX3_setRef_30 rfl (lv_at hl 1 rfl) ?_
        refine lv_iload hx hb dX3_setRef_31 (lv_at hl 0 rfl) ?_
        refine lv_if_eq (tgt := 40) hx hb dX3_setRef_33 (by decide) (fun c_33 => ?_) (fun c_33 => ?_)
        · exact absurd c_33 (by decide)
        · refine lv_iconst (v := 0) hx hb dX3_setRef_36 (by decide +kernel) ?_
          refine lv_goto (tgt := 41) hx hb dX3_setRef_37 (by decide) ?_
          refine g_callV (As := [.int 0]) (rest := []) hx hb hml hown hts (ctX3_refused l D cI cZ q u 0) gX3_setRef_X3_refused rfl rfl rfl hdX3_refused ⟨Nat.le_of_ble_eq_true rfl, Nat.le_of_ble_eq_true rfl⟩ gEM_true trivial hP hK hD hS hA 0 rfl rfl rfl hl.1 rfl (Nat.le_of_ble_eq_true rfl) dX3_setRef_41 ⟨Nat.zero_le _, Nat.zero_le _⟩ (fun H locs hP hD hS => ?_)
          obtain ⟨hP, hD⟩ := g_toPD hP hD (MW_ext (Y := (mS u 14 (fun _ => 0))) (by refine ⟨?_, ?_, ?_, ?_, ?_, ?_, ?_, ?_, ?_, ?_, ?_, ?_, ?_, ?_, ?_, ?_, ?_, ?_⟩ <;> simp only [mS_at, ↓reduceIte, Nat.reduceEqDiff] <;> rfl))
          refine W.eq (g2 := F0 m 44 ls [.int (if 0 = 0 then 0 else 1)]) rfl ?_
          refine lv_if_eq (tgt := 49) hx hb dX3_setRef_44 (by decide) (fun c_44 => ?_) (fun c_44 => ?_)
          · refine lv_aload_n hx hb dX3_setRef_49 rfl (lv_at hl 1 rfl) ?_
            refine va_get (ci := 3) (v := .ref (q 6)) (C := RX3) (T := TX3) (N := 18) hx hb hts inX3_setRef_RX3 hown hK hP 0 rfl rfl 7 (by decide) (hts _ lkX3_setRef_26) (fun _ h9 => h9) rfl dX3_setRef_50 ?_
            refine lv_iconst (v := 4) hx hb dX3_setRef_53 (by decide +kernel) ?_
            refine lv_iload_n hx hb dX3_setRef_54 rfl (lv_at hl 2 rfl) ?_
            refine lv_imul hx hb dX3_setRef_55 ?_
            refine lv_iload_n hx hb dX3_setRef_56 rfl (lv_at hl 3 rfl) ?_
            refine lv_iadd hx hb dX3_setRef_57 ?_
            refine g_iald (n := 8) (f := (u 5)) hx hb hK hP 6 0 (by rw [MW_get_5, show (mS u 14 (fun _ => 0)) 5 = (u 5) from by simp only [mS_at, ↓reduceIte, Nat.reduceEqDiff]]) rfl (4 * 0 + p1.toNatClampNeg) (by omega) (by omega) (g_addE (g_mulE rfl rfl) hje) dX3_setRef_58 ?_
            refine lv_istore (lv' := [(5, .int ((u 5) (4 * 0 + p1.toNatClampNeg))), (4, .int 1), (0, .ref (q 0)), (1, .int 0), (2, .int p1), (3, .int p2)]) hx hb dX3_setRef_59 hl (by decide) rfl (fun ls hl => ?_)
            refine lv_aload_n hx hb dX3_setRef_61 rfl (lv_at hl 2 rfl) ?_
            refine va_get (ci := 3) (v := .ref (q 6)) (C := RX3) (T := TX3) (N := 18) hx hb hts inX3_setRef_RX3 hown hK hP 0 rfl rfl 7 (by decide) (hts _ lkX3_setRef_26) (fun _ h9 => h9) rfl dX3_setRef_62 ?_
            refine lv_iconst (v := 4) hx hb dX3_setRef_65 (by decide +kernel) ?_
            refine lv_iload_n hx hb dX3_setRef_66 rfl (lv_at hl 3 rfl) ?_
            refine lv_imul hx hb dX3_setRef_67 ?_
            refine lv_iload_n hx hb dX3_setRef_68 rfl (lv_at hl 4 rfl) ?_
            refine lv_iadd hx hb dX3_setRef_69 ?_
            refine lv_iload_n hx hb dX3_setRef_70 rfl (lv_at hl 5 rfl) ?_
            refine g_iast (n := 8) (f := (u 5)) (u' := (mS (mS u 14 (fun _ => 0)) 5 (upd (u 5) (4 * 0 + p1.toNatClampNeg) p2))) hx hb hK hP hD hS 6 0 (by rw [MW_get_5, show (mS u 14 (fun _ => 0)) 5 = (u 5) from by simp only [mS_at, ↓reduceIte, Nat.reduceEqDiff]]) rfl (4 * 0 + p1.toNatClampNeg) (by omega) (by omega) (g_addE (g_mulE rfl rfl) hje) (MW_set_5 _ _) dX3_setRef_71 (fun H locs hP hD hS => ?_)
            refine lv_iload hx hb dX3_setRef_72 (lv_at hl 0 rfl) ?_
            refine g_iret (u1 := (mS (mS u 14 (fun _ => 0)) 5 (upd (u 5) (4 * 0 + p1.toNatClampNeg) p2))) hx hb hret hlk hQ hP hD hS dX3_setRef_74 ?_ ?_
            · exact rfl
            · exact rfl
          · exact absurd (show (0 : Int32) = 0 from rfl) c_44
abbrev rmX3_setRef_r0 : Room := { frames := 4, cells := 0, slots := 0, locals := 87 }
set_option maxHeartbeats 4000000 in
set_option maxRecDepth 100000 in
theorem ctX3_setRef_r0 (l : Launch) (D : va_G) (cI cZ : ClassId) (q : Nat → Nat) (u : SM) (n : Nat) (hn : u 15 0 = nI n) (h60 : n ≤ 60) (p1 p2 : Int32) (h : xRange p1 4 = 0 ∨ mHasN n (u 3) 0 p2 = 0) : gM l yX3_setRef wsX3_setRef rmX3_setRef_r0 D [(cI, .int), (cZ, .boolean)] (MW cI cZ q) (fun _ => True) [.ref (q 0), .int 0, .int p1, .int p2] u (some (.int 0)) (mS u 14 (fun _ => 1)) := by
  refine g_start (cc := cX3_setRef) (maxL := 6) (ret := (some .int)) (by decide) rfl (Nat.le_of_ble_eq_true rfl) ?_
  intro p e s m below meth c A ls Q hx hb hml hret hts hown hlk hE hP hK hD hA hl hQ hS
  have hown : s.vm.findClass RX3 = some m.cls := hown
  have hl : lv_has ls 6 [(0, .ref (q 0)), (1, .int 0), (2, .int p1), (3, .int p2)] := hl
  have hs : ¬ xRange 0 2 = 0 := by decide +kernel
  refine lv_iload_n hx hb dX3_setRef_0 rfl (lv_at hl 1 rfl) ?_
  refine g_callS0 (As := [.int 0]) (rest := []) hx hb hml hown hts (ctX3_isStore l D cI cZ q 0) gX3_setRef_X3_isStore rfl rfl rfl hdX3_isStore ⟨Nat.le_of_ble_eq_true rfl, Nat.le_of_ble_eq_true rfl⟩ gEM_true trivial hP hK hS hA rfl hl.1 rfl (Nat.le_of_ble_eq_true rfl) dX3_setRef_1 ⟨Nat.zero_le _, Nat.zero_le _⟩ (fun H locs hP hS => ?_)
  refine W.eq (g2 := F0 m 4 ls [.int (xRange 0 2)]) rfl ?_
  refine lv_if_eq (tgt := 27) hx hb dX3_setRef_4 (by decide) (fun c_4 => ?_) (fun c_4 => ?_)
  · exact absurd c_4 hs
  · refine lv_iload_n hx hb dX3_setRef_7 rfl (lv_at hl 2 rfl) ?_
    refine g_callS0 (As := [.int p1]) (rest := []) hx hb hml hown hts (ctX3_isRef l D cI cZ q p1) gX3_setRef_X3_isRef rfl rfl rfl hdX3_isRef ⟨Nat.le_of_ble_eq_true rfl, Nat.le_of_ble_eq_true rfl⟩ gEM_true trivial hP hK hS hA rfl hl.1 rfl (Nat.le_of_ble_eq_true rfl) dX3_setRef_8 ⟨Nat.zero_le _, Nat.zero_le _⟩ (fun H locs hP hS => ?_)
    refine W.eq (g2 := F0 m 11 ls [.int (xRange p1 4)]) rfl ?_
    refine lv_if_eq (tgt := 27) hx hb dX3_setRef_11 (by decide) (fun c_11 => ?_) (fun c_11 => ?_)
    · refine lv_iconst (v := 0) hx hb dX3_setRef_27 (by decide +kernel) ?_
      refine lv_istore (lv' := [(4, .int 0), (0, .ref (q 0)), (1, .int 0), (2, .int p1), (3, .int p2)]) hx hb dX3_setRef_28 hl (by decide) rfl (fun ls hl => ?_)
      refine lv_aload_n hx hb dX3_setRef_30 rfl (lv_at hl 1 rfl) ?_
      refine lv_iload hx hb dX3_setRef_31 (lv_at hl 0 rfl) ?_
      refine lv_if_eq (tgt := 40) hx hb dX3_setRef_33 (by decide) (fun c_33 => ?_) (fun c_33 => ?_)
      · refine lv_iconst (v := 1) hx hb dX3_setRef_40 (by decide +kernel) ?_
        refine g_callV (As := [.int 1]) (rest := []) hx hb hml hown hts (ctX3_refused l D cI cZ q u 1) gX3_setRef_X3_refused rfl rfl rfl hdX3_refused ⟨Nat.le_of_ble_eq_true rfl, Nat.le_of_ble_eq_true rfl⟩ gEM_true trivial hP hK hD hS hA 0 rfl rfl rfl hl.1 rfl (Nat.le_of_ble_eq_true rfl) dX3_setRef_41 ⟨Nat.zero_le _, Nat.zero_le _⟩ (fun H locs hP hD hS => ?_)
        obtain ⟨hP, hD⟩ := g_toPD hP hD (MW_ext (Y := (mS u 14 (fun _ => 1))) (by refine ⟨?_, ?_, ?_, ?_, ?_, ?_, ?_, ?_, ?_, ?_, ?_, ?_, ?_, ?_, ?_, ?_, ?_, ?_⟩ <;> simp only [mS_at, ↓reduceIte, Nat.reduceEqDiff] <;> rfl))
        refine W.eq (g2 := F0 m 44 ls [.int (if 1 = 0 then 0 else 1)]) rfl ?_
        refine lv_if_eq (tgt := 49) hx hb dX3_setRef_44 (by decide) (fun c_44 => ?_) (fun c_44 => ?_)
        · exact absurd c_44 (by decide)
        · refine lv_iconst (v := 0) hx hb dX3_setRef_47 (by decide +kernel) ?_
          refine g_iret (u1 := (mS u 14 (fun _ => 1))) hx hb hret hlk hQ hP hD hS dX3_setRef_48 ?_ ?_
          · exact rfl
          · exact rfl
      · exact absurd (show (0 : Int32) = 0 from rfl) c_33
    · refine lv_aload_n hx hb dX3_setRef_14 rfl (lv_at hl 0 rfl) ?_
      refine lv_iload_n hx hb dX3_setRef_15 rfl (lv_at hl 1 rfl) ?_
      refine lv_iload_n hx hb dX3_setRef_16 rfl (lv_at hl 3 rfl) ?_
      refine g_callV (As := [.int 0, .int p2]) (rest := []) hx hb hml hown hts (ctX3_isInOrNone_0 l D cI cZ q u n hn h60 p2) gX3_setRef_X3_isInOrNone rfl rfl rfl hdX3_isInOrNone ⟨Nat.le_of_ble_eq_true rfl, Nat.le_of_ble_eq_true rfl⟩ gEM_true trivial hP hK hD hS hA 0 rfl rfl rfl hl.1 rfl (Nat.le_of_ble_eq_true rfl) dX3_setRef_17 ⟨Nat.zero_le _, Nat.zero_le _⟩ (fun H locs hP hD hS => ?_)
      refine W.eq (g2 := F0 m 20 ls [.int (mHasN n (u 3) 0 p2)]) rfl ?_
      refine lv_if_eq (tgt := 27) hx hb dX3_setRef_20 (by decide) (fun c_20 => ?_) (fun c_20 => ?_)
      · refine lv_iconst (v := 0) hx hb dX3_setRef_27 (by decide +kernel) ?_
        refine lv_istore (lv' := [(4, .int 0), (0, .ref (q 0)), (1, .int 0), (2, .int p1), (3, .int p2)]) hx hb dX3_setRef_28 hl (by decide) rfl (fun ls hl => ?_)
        refine lv_aload_n hx hb dX3_setRef_30 rfl (lv_at hl 1 rfl) ?_
        refine lv_iload hx hb dX3_setRef_31 (lv_at hl 0 rfl) ?_
        refine lv_if_eq (tgt := 40) hx hb dX3_setRef_33 (by decide) (fun c_33 => ?_) (fun c_33 => ?_)
        · refine lv_iconst (v := 1) hx hb dX3_setRef_40 (by decide +kernel) ?_
          refine g_callV (As := [.int 1]) (rest := []) hx hb hml hown hts (ctX3_refused l D cI cZ q u 1) gX3_setRef_X3_refused rfl rfl rfl hdX3_refused ⟨Nat.le_of_ble_eq_true rfl, Nat.le_of_ble_eq_true rfl⟩ gEM_true trivial hP hK hD hS hA 0 rfl rfl rfl hl.1 rfl (Nat.le_of_ble_eq_true rfl) dX3_setRef_41 ⟨Nat.zero_le _, Nat.zero_le _⟩ (fun H locs hP hD hS => ?_)
          obtain ⟨hP, hD⟩ := g_toPD hP hD (MW_ext (Y := (mS u 14 (fun _ => 1))) (by refine ⟨?_, ?_, ?_, ?_, ?_, ?_, ?_, ?_, ?_, ?_, ?_, ?_, ?_, ?_, ?_, ?_, ?_, ?_⟩ <;> simp only [mS_at, ↓reduceIte, Nat.reduceEqDiff] <;> rfl))
          refine W.eq (g2 := F0 m 44 ls [.int (if 1 = 0 then 0 else 1)]) rfl ?_
          refine lv_if_eq (tgt := 49) hx hb dX3_setRef_44 (by decide) (fun c_44 => ?_) (fun c_44 => ?_)
          · exact absurd c_44 (by decide)
          · refine lv_iconst (v := 0) hx hb dX3_setRef_47 (by decide +kernel) ?_
            refine g_iret (u1 := (mS u 14 (fun _ => 1))) hx hb hret hlk hQ hP hD hS dX3_setRef_48 ?_ ?_
            · exact rfl
            · exact rfl
        · exact absurd (show (0 : Int32) = 0 from rfl) c_33
      · exact absurd (h.resolve_left c_11) c_20
theorem lkX3_isAncestor_41 : Cond.fieldLink RX3 41 "FetchHouseModel" "marks" "[Z" ∈ wsX3_isAncestor := List.mem_of_getElem? (i := 1) (by decide +kernel)
theorem inX3_isAncestor_RX3 : ∀ w ∈ u_ws RX3 TX3 18, w ∈ wsX3_isAncestor := fun w h => List.mem_cons_of_mem _ (List.mem_append_right _ h)
abbrev rmX3_isAncestor_0 : Room := { frames := 7, cells := 0, slots := 0, locals := 152 }
set_option maxHeartbeats 4000000 in
set_option maxRecDepth 100000 in
theorem ctX3_isAncestor_0 (l : Launch) (D : va_G) (cI cZ : ClassId) (q : Nat → Nat) (u : SM) (n : Nat) (hn : u 15 0 = nI n) (h60 : n ≤ 60) (p1 p2 : Int32) (h1 : ¬ xRange p1 (nI n) = 0) (h2 : ¬ xRange p2 (nI n) = 0) : gM l yX3_isAncestor wsX3_isAncestor rmX3_isAncestor_0 D [(cI, .int), (cZ, .boolean)] (MW cI cZ q) (fun _ => True) [.ref (q 0), .int 0, .int p1, .int p2] u (some (.int (mFrom0 n (u 3) (u 0) (u 1) (u 10) p2 p1.toNatClampNeg))) (mS (mS u 14 (fun _ => 0)) 10 (mFrom0 n (u 3) (u 0) (u 1) (u 10) p2)) := by
  refine g_start (cc := cX3_isAncestor) (maxL := 5) (ret := (some .boolean)) (by decide) rfl (Nat.le_of_ble_eq_true rfl) ?_
  intro p e s m below meth c A ls Q hx hb hml hret hts hown hlk hE hP hK hD hA hl hQ hS
  have hown : s.vm.findClass RX3 = some m.cls := hown
  have hl : lv_has ls 5 [(0, .ref (q 0)), (1, .int 0), (2, .int p1), (3, .int p2)] := hl
  have hs : ¬ xRange 0 2 = 0 := by decide +kernel
  obtain ⟨j, hj, hj2⟩ := xRange_ne rfl (by omega) h1
  have hjc : p1.toNatClampNeg = j := by rw [hj2, nI_clamp (by omega)]
  have hje : p1 = nI p1.toNatClampNeg := by rw [hjc]; exact hj2
  refine lv_iload_n hx hb dX3_isAncestor_0 rfl (lv_at hl 1 rfl) ?_
  refine g_callS0 (As := [.int 0]) (rest := []) hx hb hml hown hts (ctX3_isStore l D cI cZ q 0) gX3_isAncestor_X3_isStore rfl rfl rfl hdX3_isStore ⟨Nat.le_of_ble_eq_true rfl, Nat.le_of_ble_eq_true rfl⟩ gEM_true trivial hP hK hS hA rfl hl.1 rfl (Nat.le_of_ble_eq_true rfl) dX3_isAncestor_1 ⟨Nat.zero_le _, Nat.zero_le _⟩ (fun H locs hP hS => ?_)
  refine W.eq (g2 := F0 m 4 ls [.int (xRange 0 2)]) rfl ?_
  refine lv_if_eq (tgt := 27) hx hb dX3_isAncestor_4 (by decide) (fun c_4 => ?_) (fun c_4 => ?_)
  · exact absurd c_4 hs
  · refine lv_aload_n hx hb dX3_isAncestor_7 rfl (lv_at hl 0 rfl) ?_
    refine lv_iload_n hx hb dX3_isAncestor_8 rfl (lv_at hl 2 rfl) ?_
    refine g_callV (As := [.int p1]) (rest := []) hx hb hml hown hts (ctX3_isCommit l D cI cZ q u n hn h60 p1) gX3_isAncestor_X3_isCommit rfl rfl rfl hdX3_isCommit ⟨Nat.le_of_ble_eq_true rfl, Nat.le_of_ble_eq_true rfl⟩ gEM_true trivial hP hK hD hS hA 0 rfl rfl rfl hl.1 rfl (Nat.le_of_ble_eq_true rfl) dX3_isAncestor_9 ⟨Nat.zero_le _, Nat.zero_le _⟩ (fun H locs hP hD hS => ?_)
    refine W.eq (g2 := F0 m 12 ls [.int (xRange p1 (nI n))]) rfl ?_
    refine lv_if_eq (tgt := 27) hx hb dX3_isAncestor_12 (by decide) (fun c_12 => ?_) (fun c_12 => ?_)
    · exact absurd c_12 h1
    · refine lv_aload_n hx hb dX3_isAncestor_15 rfl (lv_at hl 0 rfl) ?_
      refine lv_iload_n hx hb dX3_isAncestor_16 rfl (lv_at hl 3 rfl) ?_
      refine g_callV (As := [.int p2]) (rest := []) hx hb hml hown hts (ctX3_isCommit l D cI cZ q u n hn h60 p2) gX3_isAncestor_X3_isCommit rfl rfl rfl hdX3_isCommit ⟨Nat.le_of_ble_eq_true rfl, Nat.le_of_ble_eq_true rfl⟩ gEM_true trivial hP hK hD hS hA 0 rfl rfl rfl hl.1 rfl (Nat.le_of_ble_eq_true rfl) dX3_isAncestor_17 ⟨Nat.zero_le _, Nat.zero_le _⟩ (fun H locs hP hD hS => ?_)
      refine W.eq (g2 := F0 m 20 ls [.int (xRange p2 (nI n))]) rfl ?_
      refine lv_if_eq (tgt := 27) hx hb dX3_isAncestor_20 (by decide) (fun c_20 => ?_) (fun c_20 => ?_)
      · exact absurd c_20 h2
      · refine lv_iconst (v := 1) hx hb dX3_isAncestor_23 (by decide +kernel) ?_
        refine lv_goto (tgt := 28) hx hb dX3_isAncestor_24 (by decide) ?_
        refine lv_istore (lv' := [(4, .int 1), (0, .ref (q 0)), (1, .int 0), (2, .int p1), (3, .int p2)]) hx hb dX3_isAncestor_28 hl (by decide) rfl (fun ls hl => ?_)
        refine lv_aload_n hx hb dX3_isAncestor_30 rfl (lv_at hl 1 rfl) ?_
        refine lv_iload hx hb dX3_isAncestor_31 (lv_at hl 0 rfl) ?_
        refine lv_if_eq (tgt := 40) hx hb dX3_isAncestor_33 (by decide) (fun c_33 => ?_) (fun c_33 => ?_)
        · exact absurd c_33 (by decide)
        · refine lv_iconst (v := 0) hx hb dX3_isAncestor_36 (by decide +kernel) ?_
          refine lv_goto (tgt := 41) hx hb dX3_isAncestor_37 (by decide) ?_
          refine g_callV (As := [.int 0]) (rest := []) hx hb hml hown hts (ctX3_refused l D cI cZ q u 0) gX3_isAncestor_X3_refused rfl rfl rfl hdX3_refused ⟨Nat.le_of_ble_eq_true rfl, Nat.le_of_ble_eq_true rfl⟩ gEM_true trivial hP hK hD hS hA 0 rfl rfl rfl hl.1 rfl (Nat.le_of_ble_eq_true rfl) dX3_isAncestor_41 ⟨Nat.zero_le _, Nat.zero_le _⟩ (fun H locs hP hD hS => ?_)
          obtain ⟨hP, hD⟩ := g_toPD hP hD (MW_ext (Y := (mS u 14 (fun _ => 0))) (by refine ⟨?_, ?_, ?_, ?_, ?_, ?_, ?_, ?_, ?_, ?_, ?_, ?_, ?_, ?_, ?_, ?_, ?_, ?_⟩ <;> simp only [mS_at, ↓reduceIte, Nat.reduceEqDiff] <;> rfl))
          refine W.eq (g2 := F0 m 44 ls [.int (if 0 = 0 then 0 else 1)]) rfl ?_
          refine lv_if_eq (tgt := 49) hx hb dX3_isAncestor_44 (by decide) (fun c_44 => ?_) (fun c_44 => ?_)
          · refine lv_aload_n hx hb dX3_isAncestor_49 rfl (lv_at hl 1 rfl) ?_
            refine lv_iload_n hx hb dX3_isAncestor_50 rfl (lv_at hl 2 rfl) ?_
            refine lv_iload_n hx hb dX3_isAncestor_51 rfl (lv_at hl 4 rfl) ?_
            refine g_callV (As := [.int 0, .int p2]) (rest := []) hx hb hml hown hts (ctX3_markFrom_0 l D cI cZ q (mS u 14 (fun _ => 0)) n hn h60 p2) gX3_isAncestor_X3_markFrom rfl rfl rfl hdX3_markFrom ⟨Nat.le_of_ble_eq_true rfl, Nat.le_of_ble_eq_true rfl⟩ gEM_true trivial hP hK hD hS hA 0 rfl rfl rfl hl.1 rfl (Nat.le_of_ble_eq_true rfl) dX3_isAncestor_52 ⟨Nat.zero_le _, Nat.zero_le _⟩ (fun H locs hP hD hS => ?_)
            obtain ⟨hP, hD⟩ := g_toPD hP hD (MW_ext (Y := (mS (mS u 14 (fun _ => 0)) 10 (mFrom0 n (u 3) (u 0) (u 1) (u 10) p2))) (by refine ⟨?_, ?_, ?_, ?_, ?_, ?_, ?_, ?_, ?_, ?_, ?_, ?_, ?_, ?_, ?_, ?_, ?_, ?_⟩ <;> simp only [mS_at, ↓reduceIte, Nat.reduceEqDiff] <;> rfl))
            refine W.eq (g2 := F0 m 55 ls []) rfl ?_
            refine lv_aload_n hx hb dX3_isAncestor_55 rfl (lv_at hl 1 rfl) ?_
            refine va_get (ci := 3) (v := .ref (q 11)) (C := RX3) (T := TX3) (N := 18) hx hb hts inX3_isAncestor_RX3 hown hK hP 0 rfl rfl 14 (by decide) (hts _ lkX3_isAncestor_41) (fun _ h9 => h9) rfl dX3_isAncestor_56 ?_
            refine lv_iload_n hx hb dX3_isAncestor_59 rfl (lv_at hl 3 rfl) ?_
            refine g_zald (n := 60) (f := (mFrom0 n (u 3) (u 0) (u 1) (u 10) p2)) hx hb hK hP 11 1 (by rw [MW_get_10, show (mS (mS u 14 (fun _ => 0)) 10 (mFrom0 n (u 3) (u 0) (u 1) (u 10) p2)) 10 = (mFrom0 n (u 3) (u 0) (u 1) (u 10) p2) from by simp only [mS_at, ↓reduceIte, Nat.reduceEqDiff]]) rfl p1.toNatClampNeg (by omega) (by omega) hje dX3_isAncestor_60 ?_
            refine g_zret (u1 := (mS (mS u 14 (fun _ => 0)) 10 (mFrom0 n (u 3) (u 0) (u 1) (u 10) p2))) hx hb hret hlk hQ hP hD hS dX3_isAncestor_61 ?_ ?_ ?_
            · exact g_nar01 _ (mFrom0_01 n (u 3) (u 0) (u 1) (u 10) p2 _ (by omega))
            · exact rfl
            · exact rfl
          · exact absurd (show (0 : Int32) = 0 from rfl) c_44
abbrev rmX3_isAncestor_r0 : Room := { frames := 2, cells := 0, slots := 0, locals := 43 }
set_option maxHeartbeats 4000000 in
set_option maxRecDepth 100000 in
theorem ctX3_isAncestor_r0 (l : Launch) (D : va_G) (cI cZ : ClassId) (q : Nat → Nat) (u : SM) (n : Nat) (hn : u 15 0 = nI n) (h60 : n ≤ 60) (p1 p2 : Int32) (h : xRange p1 (nI n) = 0 ∨ xRange p2 (nI n) = 0) : gM l yX3_isAncestor wsX3_isAncestor rmX3_isAncestor_r0 D [(cI, .int), (cZ, .boolean)] (MW cI cZ q) (fun _ => True) [.ref (q 0), .int 0, .int p1, .int p2] u (some (.int 0)) (mS u 14 (fun _ => 1)) := by
  refine g_start (cc := cX3_isAncestor) (maxL := 5) (ret := (some .boolean)) (by decide) rfl (Nat.le_of_ble_eq_true rfl) ?_
  intro p e s m below meth c A ls Q hx hb hml hret hts hown hlk hE hP hK hD hA hl hQ hS
  have hown : s.vm.findClass RX3 = some m.cls := hown
  have hl : lv_has ls 5 [(0, .ref (q 0)), (1, .int 0), (2, .int p1), (3, .int p2)] := hl
  have hs : ¬ xRange 0 2 = 0 := by decide +kernel
  refine lv_iload_n hx hb dX3_isAncestor_0 rfl (lv_at hl 1 rfl) ?_
  refine g_callS0 (As := [.int 0]) (rest := []) hx hb hml hown hts (ctX3_isStore l D cI cZ q 0) gX3_isAncestor_X3_isStore rfl rfl rfl hdX3_isStore ⟨Nat.le_of_ble_eq_true rfl, Nat.le_of_ble_eq_true rfl⟩ gEM_true trivial hP hK hS hA rfl hl.1 rfl (Nat.le_of_ble_eq_true rfl) dX3_isAncestor_1 ⟨Nat.zero_le _, Nat.zero_le _⟩ (fun H locs hP hS => ?_)
  refine W.eq (g2 := F0 m 4 ls [.int (xRange 0 2)]) rfl ?_
  refine lv_if_eq (tgt := 27) hx hb dX3_isAncestor_4 (by decide) (fun c_4 => ?_) (fun c_4 => ?_)
  · exact absurd c_4 hs
  · refine lv_aload_n hx hb dX3_isAncestor_7 rfl (lv_at hl 0 rfl) ?_
    refine lv_iload_n hx hb dX3_isAncestor_8 rfl (lv_at hl 2 rfl) ?_
    refine g_callV (As := [.int p1]) (rest := []) hx hb hml hown hts (ctX3_isCommit l D cI cZ q u n hn h60 p1) gX3_isAncestor_X3_isCommit rfl rfl rfl hdX3_isCommit ⟨Nat.le_of_ble_eq_true rfl, Nat.le_of_ble_eq_true rfl⟩ gEM_true trivial hP hK hD hS hA 0 rfl rfl rfl hl.1 rfl (Nat.le_of_ble_eq_true rfl) dX3_isAncestor_9 ⟨Nat.zero_le _, Nat.zero_le _⟩ (fun H locs hP hD hS => ?_)
    refine W.eq (g2 := F0 m 12 ls [.int (xRange p1 (nI n))]) rfl ?_
    refine lv_if_eq (tgt := 27) hx hb dX3_isAncestor_12 (by decide) (fun c_12 => ?_) (fun c_12 => ?_)
    · refine lv_iconst (v := 0) hx hb dX3_isAncestor_27 (by decide +kernel) ?_
      refine lv_istore (lv' := [(4, .int 0), (0, .ref (q 0)), (1, .int 0), (2, .int p1), (3, .int p2)]) hx hb dX3_isAncestor_28 hl (by decide) rfl (fun ls hl => ?_)
      refine lv_aload_n hx hb dX3_isAncestor_30 rfl (lv_at hl 1 rfl) ?_
      refine lv_iload hx hb dX3_isAncestor_31 (lv_at hl 0 rfl) ?_
      refine lv_if_eq (tgt := 40) hx hb dX3_isAncestor_33 (by decide) (fun c_33 => ?_) (fun c_33 => ?_)
      · refine lv_iconst (v := 1) hx hb dX3_isAncestor_40 (by decide +kernel) ?_
        refine g_callV (As := [.int 1]) (rest := []) hx hb hml hown hts (ctX3_refused l D cI cZ q u 1) gX3_isAncestor_X3_refused rfl rfl rfl hdX3_refused ⟨Nat.le_of_ble_eq_true rfl, Nat.le_of_ble_eq_true rfl⟩ gEM_true trivial hP hK hD hS hA 0 rfl rfl rfl hl.1 rfl (Nat.le_of_ble_eq_true rfl) dX3_isAncestor_41 ⟨Nat.zero_le _, Nat.zero_le _⟩ (fun H locs hP hD hS => ?_)
        obtain ⟨hP, hD⟩ := g_toPD hP hD (MW_ext (Y := (mS u 14 (fun _ => 1))) (by refine ⟨?_, ?_, ?_, ?_, ?_, ?_, ?_, ?_, ?_, ?_, ?_, ?_, ?_, ?_, ?_, ?_, ?_, ?_⟩ <;> simp only [mS_at, ↓reduceIte, Nat.reduceEqDiff] <;> rfl))
        refine W.eq (g2 := F0 m 44 ls [.int (if 1 = 0 then 0 else 1)]) rfl ?_
        refine lv_if_eq (tgt := 49) hx hb dX3_isAncestor_44 (by decide) (fun c_44 => ?_) (fun c_44 => ?_)
        · exact absurd c_44 (by decide)
        · refine lv_iconst (v := 0) hx hb dX3_isAncestor_47 (by decide +kernel) ?_
          refine g_zret (u1 := (mS u 14 (fun _ => 1))) hx hb hret hlk hQ hP hD hS dX3_isAncestor_48 ?_ ?_ ?_
          · exact rfl
          · exact rfl
          · exact rfl
      · exact absurd (show (0 : Int32) = 0 from rfl) c_33
    · refine lv_aload_n hx hb dX3_isAncestor_15 rfl (lv_at hl 0 rfl) ?_
      refine lv_iload_n hx hb dX3_isAncestor_16 rfl (lv_at hl 3 rfl) ?_
      refine g_callV (As := [.int p2]) (rest := []) hx hb hml hown hts (ctX3_isCommit l D cI cZ q u n hn h60 p2) gX3_isAncestor_X3_isCommit rfl rfl rfl hdX3_isCommit ⟨Nat.le_of_ble_eq_true rfl, Nat.le_of_ble_eq_true rfl⟩ gEM_true trivial hP hK hD hS hA 0 rfl rfl rfl hl.1 rfl (Nat.le_of_ble_eq_true rfl) dX3_isAncestor_17 ⟨Nat.zero_le _, Nat.zero_le _⟩ (fun H locs hP hD hS => ?_)
      refine W.eq (g2 := F0 m 20 ls [.int (xRange p2 (nI n))]) rfl ?_
      refine lv_if_eq (tgt := 27) hx hb dX3_isAncestor_20 (by decide) (fun c_20 => ?_) (fun c_20 => ?_)
      · refine lv_iconst (v := 0) hx hb dX3_isAncestor_27 (by decide +kernel) ?_
        refine lv_istore (lv' := [(4, .int 0), (0, .ref (q 0)), (1, .int 0), (2, .int p1), (3, .int p2)]) hx hb dX3_isAncestor_28 hl (by decide) rfl (fun ls hl => ?_)
        refine lv_aload_n hx hb dX3_isAncestor_30 rfl (lv_at hl 1 rfl) ?_
        refine lv_iload hx hb dX3_isAncestor_31 (lv_at hl 0 rfl) ?_
        refine lv_if_eq (tgt := 40) hx hb dX3_isAncestor_33 (by decide) (fun c_33 => ?_) (fun c_33 => ?_)
        · refine lv_iconst (v := 1) hx hb dX3_isAncestor_40 (by decide +kernel) ?_
          refine g_callV (As := [.int 1]) (rest := []) hx hb hml hown hts (ctX3_refused l D cI cZ q u 1) gX3_isAncestor_X3_refused rfl rfl rfl hdX3_refused ⟨Nat.le_of_ble_eq_true rfl, Nat.le_of_ble_eq_true rfl⟩ gEM_true trivial hP hK hD hS hA 0 rfl rfl rfl hl.1 rfl (Nat.le_of_ble_eq_true rfl) dX3_isAncestor_41 ⟨Nat.zero_le _, Nat.zero_le _⟩ (fun H locs hP hD hS => ?_)
          obtain ⟨hP, hD⟩ := g_toPD hP hD (MW_ext (Y := (mS u 14 (fun _ => 1))) (by refine ⟨?_, ?_, ?_, ?_, ?_, ?_, ?_, ?_, ?_, ?_, ?_, ?_, ?_, ?_, ?_, ?_, ?_, ?_⟩ <;> simp only [mS_at, ↓reduceIte, Nat.reduceEqDiff] <;> rfl))
          refine W.eq (g2 := F0 m 44 ls [.int (if 1 = 0 then 0 else 1)]) rfl ?_
          refine lv_if_eq (tgt := 49) hx hb dX3_isAncestor_44 (by decide) (fun c_44 => ?_) (fun c_44 => ?_)
          · exact absurd c_44 (by decide)
          · refine lv_iconst (v := 0) hx hb dX3_isAncestor_47 (by decide +kernel) ?_
            refine g_zret (u1 := (mS u 14 (fun _ => 1))) hx hb hret hlk hQ hP hD hS dX3_isAncestor_48 ?_ ?_ ?_
            · exact rfl
            · exact rfl
            · exact rfl
        · exact absurd (show (0 : Int32) = 0 from rfl) c_33
      · exact absurd (h.resolve_left c_12) c_20
abbrev rmX3_has_1 : Room := { frames := 3, cells := 0, slots := 0, locals := 65 }
set_option maxHeartbeats 4000000 in
set_option maxRecDepth 100000 in
theorem ctX3_has_1 (l : Launch) (D : va_G) (cI cZ : ClassId) (q : Nat → Nat) (u : SM) (n : Nat) (hn : u 15 0 = nI n) (h60 : n ≤ 60) (p1 : Int32) (h1 : ¬ xRange p1 (nI n) = 0) : gM l yX3_has wsX3_has rmX3_has_1 D [(cI, .int), (cZ, .boolean)] (MW cI cZ q) (fun _ => True) [.ref (q 0), .int 1, .int p1] u (some (.int (mHas n (u 3) 1 p1))) (mS u 14 (fun _ => 0)) := by
  refine g_start (cc := cX3_has) (maxL := 3) (ret := (some .boolean)) (by decide) rfl (Nat.le_of_ble_eq_true rfl) ?_
  intro p e s m below meth c A ls Q hx hb hml hret hts hown hlk hE hP hK hD hA hl hQ hS
  have hown : s.vm.findClass RX3 = some m.cls := hown
  have hl : lv_has ls 3 [(0, .ref (q 0)), (1, .int 1), (2, .int p1)] := hl
  have hs : ¬ xRange 1 2 = 0 := by decide +kernel
  refine lv_aload_n hx hb dX3_has_0 rfl (lv_at hl 0 rfl) ?_
  refine lv_iload_n hx hb dX3_has_1 rfl (lv_at hl 1 rfl) ?_
  refine g_callS0 (As := [.int 1]) (rest := [.ref (q 0)]) hx hb hml hown hts (ctX3_isStore l D cI cZ q 1) gX3_has_X3_isStore rfl rfl rfl hdX3_isStore ⟨Nat.le_of_ble_eq_true rfl, Nat.le_of_ble_eq_true rfl⟩ gEM_true trivial hP hK hS hA rfl hl.1 rfl (Nat.le_of_ble_eq_true rfl) dX3_has_2 ⟨Nat.zero_le _, Nat.zero_le _⟩ (fun H locs hP hS => ?_)
  refine W.eq (g2 := F0 m 5 ls [.int (xRange 1 2), .ref (q 0)]) rfl ?_
  refine lv_if_eq (tgt := 20) hx hb dX3_has_5 (by decide) (fun c_5 => ?_) (fun c_5 => ?_)
  · exact absurd c_5 hs
  · refine lv_aload_n hx hb dX3_has_8 rfl (lv_at hl 0 rfl) ?_
    refine lv_iload_n hx hb dX3_has_9 rfl (lv_at hl 2 rfl) ?_
    refine g_callV (As := [.int p1]) (rest := [.ref (q 0)]) hx hb hml hown hts (ctX3_isCommit l D cI cZ q u n hn h60 p1) gX3_has_X3_isCommit rfl rfl rfl hdX3_isCommit ⟨Nat.le_of_ble_eq_true rfl, Nat.le_of_ble_eq_true rfl⟩ gEM_true trivial hP hK hD hS hA 0 rfl rfl rfl hl.1 rfl (Nat.le_of_ble_eq_true rfl) dX3_has_10 ⟨Nat.zero_le _, Nat.zero_le _⟩ (fun H locs hP hD hS => ?_)
    refine W.eq (g2 := F0 m 13 ls [.int (xRange p1 (nI n)), .ref (q 0)]) rfl ?_
    refine lv_if_eq (tgt := 20) hx hb dX3_has_13 (by decide) (fun c_13 => ?_) (fun c_13 => ?_)
    · exact absurd c_13 h1
    · refine lv_iconst (v := 0) hx hb dX3_has_16 (by decide +kernel) ?_
      refine lv_goto (tgt := 21) hx hb dX3_has_17 (by decide) ?_
      refine g_callV (As := [.int 0]) (rest := []) hx hb hml hown hts (ctX3_refused l D cI cZ q u 0) gX3_has_X3_refused rfl rfl rfl hdX3_refused ⟨Nat.le_of_ble_eq_true rfl, Nat.le_of_ble_eq_true rfl⟩ gEM_true trivial hP hK hD hS hA 0 rfl rfl rfl hl.1 rfl (Nat.le_of_ble_eq_true rfl) dX3_has_21 ⟨Nat.zero_le _, Nat.zero_le _⟩ (fun H locs hP hD hS => ?_)
      obtain ⟨hP, hD⟩ := g_toPD hP hD (MW_ext (Y := (mS u 14 (fun _ => 0))) (by refine ⟨?_, ?_, ?_, ?_, ?_, ?_, ?_, ?_, ?_, ?_, ?_, ?_, ?_, ?_, ?_, ?_, ?_, ?_⟩ <;> simp only [mS_at, ↓reduceIte, Nat.reduceEqDiff] <;> rfl))
      refine W.eq (g2 := F0 m 24 ls [.int (if 0 = 0 then 0 else 1)]) rfl ?_
      refine lv_if_ne (tgt := 40) hx hb dX3_has_24 (by decide) (fun c_24 => ?_) (fun c_24 => ?_)
      · exact absurd rfl c_24
      · refine lv_aload_n hx hb dX3_has_27 rfl (lv_at hl 0 rfl) ?_
        refine lv_iload_n hx hb dX3_has_28 rfl (lv_at hl 1 rfl) ?_
        refine lv_iload_n hx hb dX3_has_29 rfl (lv_at hl 2 rfl) ?_
        refine g_callV (As := [.int 1, .int p1]) (rest := []) hx hb hml hown hts (ctX3_isIn_1 l D cI cZ q (mS u 14 (fun _ => 0)) n hn h60 p1) gX3_has_X3_isIn rfl rfl rfl hdX3_isIn ⟨Nat.le_of_ble_eq_true rfl, Nat.le_of_ble_eq_true rfl⟩ gEM_true trivial hP hK hD hS hA 0 rfl rfl rfl hl.1 rfl (Nat.le_of_ble_eq_true rfl) dX3_has_30 ⟨Nat.zero_le _, Nat.zero_le _⟩ (fun H locs hP hD hS => ?_)
        refine W.eq (g2 := F0 m 33 ls [.int (mHas n (u 3) 1 p1)]) rfl ?_
        refine lv_if_eq (tgt := 40) hx hb dX3_has_33 (by decide) (fun c_33 => ?_) (fun c_33 => ?_)
        · refine lv_iconst (v := 0) hx hb dX3_has_40 (by decide +kernel) ?_
          refine g_zret (u1 := (mS u 14 (fun _ => 0))) hx hb hret hlk hQ hP hD hS dX3_has_41 ?_ ?_ ?_
          · exact rfl
          · exact (by rw [c_33])
          · exact rfl
        · refine lv_iconst (v := 1) hx hb dX3_has_36 (by decide +kernel) ?_
          refine lv_goto (tgt := 41) hx hb dX3_has_37 (by decide) ?_
          refine g_zret (u1 := (mS u 14 (fun _ => 0))) hx hb hret hlk hQ hP hD hS dX3_has_41 ?_ ?_ ?_
          · exact rfl
          · exact (by rw [(mHas_01 _ _ _ _).resolve_left c_33])
          · exact rfl
abbrev rmX3_has_r1 : Room := { frames := 2, cells := 0, slots := 0, locals := 43 }
set_option maxHeartbeats 4000000 in
set_option maxRecDepth 100000 in
theorem ctX3_has_r1 (l : Launch) (D : va_G) (cI cZ : ClassId) (q : Nat → Nat) (u : SM) (n : Nat) (hn : u 15 0 = nI n) (h60 : n ≤ 60) (p1 : Int32) (h1 : xRange p1 (nI n) = 0) : gM l yX3_has wsX3_has rmX3_has_r1 D [(cI, .int), (cZ, .boolean)] (MW cI cZ q) (fun _ => True) [.ref (q 0), .int 1, .int p1] u (some (.int 0)) (mS u 14 (fun _ => 1)) := by
  refine g_start (cc := cX3_has) (maxL := 3) (ret := (some .boolean)) (by decide) rfl (Nat.le_of_ble_eq_true rfl) ?_
  intro p e s m below meth c A ls Q hx hb hml hret hts hown hlk hE hP hK hD hA hl hQ hS
  have hown : s.vm.findClass RX3 = some m.cls := hown
  have hl : lv_has ls 3 [(0, .ref (q 0)), (1, .int 1), (2, .int p1)] := hl
  have hs : ¬ xRange 1 2 = 0 := by decide +kernel
  refine lv_aload_n hx hb dX3_has_0 rfl (lv_at hl 0 rfl) ?_
  refine lv_iload_n hx hb dX3_has_1 rfl (lv_at hl 1 rfl) ?_
  refine g_callS0 (As := [.int 1]) (rest := [.ref (q 0)]) hx hb hml hown hts (ctX3_isStore l D cI cZ q 1) gX3_has_X3_isStore rfl rfl rfl hdX3_isStore ⟨Nat.le_of_ble_eq_true rfl, Nat.le_of_ble_eq_true rfl⟩ gEM_true trivial hP hK hS hA rfl hl.1 rfl (Nat.le_of_ble_eq_true rfl) dX3_has_2 ⟨Nat.zero_le _, Nat.zero_le _⟩ (fun H locs hP hS => ?_)
  refine W.eq (g2 := F0 m 5 ls [.int (xRange 1 2), .ref (q 0)]) rfl ?_
  refine lv_if_eq (tgt := 20) hx hb dX3_has_5 (by decide) (fun c_5 => ?_) (fun c_5 => ?_)
  · exact absurd c_5 hs
  · refine lv_aload_n hx hb dX3_has_8 rfl (lv_at hl 0 rfl) ?_
    refine lv_iload_n hx hb dX3_has_9 rfl (lv_at hl 2 rfl) ?_
    refine g_callV (As := [.int p1]) (rest := [.ref (q 0)]) hx hb hml hown hts (ctX3_isCommit l D cI cZ q u n hn h60 p1) gX3_has_X3_isCommit rfl rfl rfl hdX3_isCommit ⟨Nat.le_of_ble_eq_true rfl, Nat.le_of_ble_eq_true rfl⟩ gEM_true trivial hP hK hD hS hA 0 rfl rfl rfl hl.1 rfl (Nat.le_of_ble_eq_true rfl) dX3_has_10 ⟨Nat.zero_le _, Nat.zero_le _⟩ (fun H locs hP hD hS => ?_)
    refine W.eq (g2 := F0 m 13 ls [.int (xRange p1 (nI n)), .ref (q 0)]) rfl ?_
    refine lv_if_eq (tgt := 20) hx hb dX3_has_13 (by decide) (fun c_13 => ?_) (fun c_13 => ?_)
    · refine lv_iconst (v := 1) hx hb dX3_has_20 (by decide +kernel) ?_
      refine g_callV (As := [.int 1]) (rest := []) hx hb hml hown hts (ctX3_refused l D cI cZ q u 1) gX3_has_X3_refused rfl rfl rfl hdX3_refused ⟨Nat.le_of_ble_eq_true rfl, Nat.le_of_ble_eq_true rfl⟩ gEM_true trivial hP hK hD hS hA 0 rfl rfl rfl hl.1 rfl (Nat.le_of_ble_eq_true rfl) dX3_has_21 ⟨Nat.zero_le _, Nat.zero_le _⟩ (fun H locs hP hD hS => ?_)
      obtain ⟨hP, hD⟩ := g_toPD hP hD (MW_ext (Y := (mS u 14 (fun _ => 1))) (by refine ⟨?_, ?_, ?_, ?_, ?_, ?_, ?_, ?_, ?_, ?_, ?_, ?_, ?_, ?_, ?_, ?_, ?_, ?_⟩ <;> simp only [mS_at, ↓reduceIte, Nat.reduceEqDiff] <;> rfl))
      refine W.eq (g2 := F0 m 24 ls [.int (if 1 = 0 then 0 else 1)]) rfl ?_
      refine lv_if_ne (tgt := 40) hx hb dX3_has_24 (by decide) (fun c_24 => ?_) (fun c_24 => ?_)
      · refine lv_iconst (v := 0) hx hb dX3_has_40 (by decide +kernel) ?_
        refine g_zret (u1 := (mS u 14 (fun _ => 1))) hx hb hret hlk hQ hP hD hS dX3_has_41 ?_ ?_ ?_
        · exact rfl
        · exact rfl
        · exact rfl
      · exact absurd c_24 (by decide)
    · exact absurd h1 c_13
abbrev rmX3_hasFile_1 : Room := { frames := 2, cells := 0, slots := 0, locals := 42 }
set_option maxHeartbeats 4000000 in
set_option maxRecDepth 100000 in
theorem ctX3_hasFile_1 (l : Launch) (D : va_G) (cI cZ : ClassId) (q : Nat → Nat) (u : SM) (p1 : Int32) (h1 : ¬ xRange p1 100 = 0) : gM l yX3_hasFile wsX3_hasFile rmX3_hasFile_1 D [(cI, .int), (cZ, .boolean)] (MW cI cZ q) (fun _ => True) [.ref (q 0), .int 1, .int p1] u (some (.int (if u 4 (100 * 1 + p1.toNatClampNeg) = 0 then 0 else 1))) (mS u 14 (fun _ => 0)) := by
  refine g_start (cc := cX3_hasFile) (maxL := 3) (ret := (some .boolean)) (by decide) rfl (Nat.le_of_ble_eq_true rfl) ?_
  intro p e s m below meth c A ls Q hx hb hml hret hts hown hlk hE hP hK hD hA hl hQ hS
  have hown : s.vm.findClass RX3 = some m.cls := hown
  have hl : lv_has ls 3 [(0, .ref (q 0)), (1, .int 1), (2, .int p1)] := hl
  have hs : ¬ xRange 1 2 = 0 := by decide +kernel
  obtain ⟨j, hj, hj2⟩ := xRange_ne (n := 100) rfl (by omega) h1
  have hjc : p1.toNatClampNeg = j := by rw [hj2, nI_clamp (by omega)]
  have hje : p1 = nI p1.toNatClampNeg := by rw [hjc]; exact hj2
  refine lv_aload_n hx hb dX3_hasFile_0 rfl (lv_at hl 0 rfl) ?_
  refine lv_iload_n hx hb dX3_hasFile_1 rfl (lv_at hl 1 rfl) ?_
  refine g_callS0 (As := [.int 1]) (rest := [.ref (q 0)]) hx hb hml hown hts (ctX3_isStore l D cI cZ q 1) gX3_hasFile_X3_isStore rfl rfl rfl hdX3_isStore ⟨Nat.le_of_ble_eq_true rfl, Nat.le_of_ble_eq_true rfl⟩ gEM_true trivial hP hK hS hA rfl hl.1 rfl (Nat.le_of_ble_eq_true rfl) dX3_hasFile_2 ⟨Nat.zero_le _, Nat.zero_le _⟩ (fun H locs hP hS => ?_)
  refine W.eq (g2 := F0 m 5 ls [.int (xRange 1 2), .ref (q 0)]) rfl ?_
  refine lv_if_ne (tgt := 12) hx hb dX3_hasFile_5 (by decide) (fun c_5 => ?_) (fun c_5 => ?_)
  · refine lv_iload_n hx hb dX3_hasFile_12 rfl (lv_at hl 2 rfl) ?_
    refine lv_iconst (v := 0) hx hb dX3_hasFile_13 (by decide +kernel) ?_
    refine lv_bipush (v := 99) hx hb dX3_hasFile_14 (by decide +kernel) ?_
    refine g_callS0 (As := [.int p1, .int 0, .int 99]) (rest := [.ref (q 0)]) hx hb hml hown hts (ctX3_in_100 l D cI cZ q p1) gX3_hasFile_X3_in rfl rfl rfl hdX3_in ⟨Nat.le_of_ble_eq_true rfl, Nat.le_of_ble_eq_true rfl⟩ gEM_true trivial hP hK hS hA rfl hl.1 rfl (Nat.le_of_ble_eq_true rfl) dX3_hasFile_16 ⟨Nat.zero_le _, Nat.zero_le _⟩ (fun H locs hP hS => ?_)
    refine W.eq (g2 := F0 m 19 ls [.int (xRange p1 100), .ref (q 0)]) rfl ?_
    refine lv_if_eq (tgt := 26) hx hb dX3_hasFile_19 (by decide) (fun c_19 => ?_) (fun c_19 => ?_)
    · exact absurd c_19 h1
    · refine lv_iconst (v := 0) hx hb dX3_hasFile_22 (by decide +kernel) ?_
      refine lv_goto (tgt := 27) hx hb dX3_hasFile_23 (by decide) ?_
      refine g_callV (As := [.int 0]) (rest := []) hx hb hml hown hts (ctX3_refused l D cI cZ q u 0) gX3_hasFile_X3_refused rfl rfl rfl hdX3_refused ⟨Nat.le_of_ble_eq_true rfl, Nat.le_of_ble_eq_true rfl⟩ gEM_true trivial hP hK hD hS hA 0 rfl rfl rfl hl.1 rfl (Nat.le_of_ble_eq_true rfl) dX3_hasFile_27 ⟨Nat.zero_le _, Nat.zero_le _⟩ (fun H locs hP hD hS => ?_)
      obtain ⟨hP, hD⟩ := g_toPD hP hD (MW_ext (Y := (mS u 14 (fun _ => 0))) (by refine ⟨?_, ?_, ?_, ?_, ?_, ?_, ?_, ?_, ?_, ?_, ?_, ?_, ?_, ?_, ?_, ?_, ?_, ?_⟩ <;> simp only [mS_at, ↓reduceIte, Nat.reduceEqDiff] <;> rfl))
      refine W.eq (g2 := F0 m 30 ls [.int (if 0 = 0 then 0 else 1)]) rfl ?_
      refine lv_if_ne (tgt := 51) hx hb dX3_hasFile_30 (by decide) (fun c_30 => ?_) (fun c_30 => ?_)
      · exact absurd rfl c_30
      · refine lv_aload_n hx hb dX3_hasFile_33 rfl (lv_at hl 0 rfl) ?_
        refine va_get (ci := 3) (v := .ref (q 5)) (C := RX3) (T := TX3) (N := 18) hx hb hts inX3_hasFile_RX3 hown hK hP 0 rfl rfl 6 (by decide) (hts _ lkX3_hasFile_23) (fun _ h9 => h9) rfl dX3_hasFile_34 ?_
        refine lv_bipush (v := 100) hx hb dX3_hasFile_37 (by decide +kernel) ?_
        refine lv_iload_n hx hb dX3_hasFile_39 rfl (lv_at hl 1 rfl) ?_
        refine lv_imul hx hb dX3_hasFile_40 ?_
        refine lv_iload_n hx hb dX3_hasFile_41 rfl (lv_at hl 2 rfl) ?_
        refine lv_iadd hx hb dX3_hasFile_42 ?_
        refine g_zald (n := 200) (f := (u 4)) hx hb hK hP 5 1 (by rw [MW_get_4, show (mS u 14 (fun _ => 0)) 4 = (u 4) from by simp only [mS_at, ↓reduceIte, Nat.reduceEqDiff]]) rfl (100 * 1 + p1.toNatClampNeg) (by omega) (by omega) (g_addE (g_mulE rfl rfl) hje) dX3_hasFile_43 ?_
        refine lv_if_eq (tgt := 51) hx hb dX3_hasFile_44 (by decide) (fun c_44 => ?_) (fun c_44 => ?_)
        · refine lv_iconst (v := 0) hx hb dX3_hasFile_51 (by decide +kernel) ?_
          refine g_zret (u1 := (mS u 14 (fun _ => 0))) hx hb hret hlk hQ hP hD hS dX3_hasFile_52 ?_ ?_ ?_
          · exact rfl
          · exact (by rw [if_pos c_44])
          · exact (MW_ext (by refine ⟨?_, ?_, ?_, ?_, ?_, ?_, ?_, ?_, ?_, ?_, ?_, ?_, ?_, ?_, ?_, ?_, ?_, ?_⟩ <;> simp only [mS_at, ↓reduceIte, Nat.reduceEqDiff] <;> rfl))
        · refine lv_iconst (v := 1) hx hb dX3_hasFile_47 (by decide +kernel) ?_
          refine lv_goto (tgt := 52) hx hb dX3_hasFile_48 (by decide) ?_
          refine g_zret (u1 := (mS u 14 (fun _ => 0))) hx hb hret hlk hQ hP hD hS dX3_hasFile_52 ?_ ?_ ?_
          · exact rfl
          · exact (by rw [if_neg c_44])
          · exact (MW_ext (by refine ⟨?_, ?_, ?_, ?_, ?_, ?_, ?_, ?_, ?_, ?_, ?_, ?_, ?_, ?_, ?_, ?_, ?_, ?_⟩ <;> simp only [mS_at, ↓reduceIte, Nat.reduceEqDiff] <;> rfl))
  · exact absurd c_5 hs
abbrev rmX3_hasFile_r1 : Room := { frames := 2, cells := 0, slots := 0, locals := 42 }
set_option maxHeartbeats 4000000 in
set_option maxRecDepth 100000 in
theorem ctX3_hasFile_r1 (l : Launch) (D : va_G) (cI cZ : ClassId) (q : Nat → Nat) (u : SM) (p1 : Int32) (h1 : xRange p1 100 = 0) : gM l yX3_hasFile wsX3_hasFile rmX3_hasFile_r1 D [(cI, .int), (cZ, .boolean)] (MW cI cZ q) (fun _ => True) [.ref (q 0), .int 1, .int p1] u (some (.int 0)) (mS u 14 (fun _ => 2)) := by
  refine g_start (cc := cX3_hasFile) (maxL := 3) (ret := (some .boolean)) (by decide) rfl (Nat.le_of_ble_eq_true rfl) ?_
  intro p e s m below meth c A ls Q hx hb hml hret hts hown hlk hE hP hK hD hA hl hQ hS
  have hown : s.vm.findClass RX3 = some m.cls := hown
  have hl : lv_has ls 3 [(0, .ref (q 0)), (1, .int 1), (2, .int p1)] := hl
  have hs : ¬ xRange 1 2 = 0 := by decide +kernel
  refine lv_aload_n hx hb dX3_hasFile_0 rfl (lv_at hl 0 rfl) ?_
  refine lv_iload_n hx hb dX3_hasFile_1 rfl (lv_at hl 1 rfl) ?_
  refine g_callS0 (As := [.int 1]) (rest := [.ref (q 0)]) hx hb hml hown hts (ctX3_isStore l D cI cZ q 1) gX3_hasFile_X3_isStore rfl rfl rfl hdX3_isStore ⟨Nat.le_of_ble_eq_true rfl, Nat.le_of_ble_eq_true rfl⟩ gEM_true trivial hP hK hS hA rfl hl.1 rfl (Nat.le_of_ble_eq_true rfl) dX3_hasFile_2 ⟨Nat.zero_le _, Nat.zero_le _⟩ (fun H locs hP hS => ?_)
  refine W.eq (g2 := F0 m 5 ls [.int (xRange 1 2), .ref (q 0)]) rfl ?_
  refine lv_if_ne (tgt := 12) hx hb dX3_hasFile_5 (by decide) (fun c_5 => ?_) (fun c_5 => ?_)
  · refine lv_iload_n hx hb dX3_hasFile_12 rfl (lv_at hl 2 rfl) ?_
    refine lv_iconst (v := 0) hx hb dX3_hasFile_13 (by decide +kernel) ?_
    refine lv_bipush (v := 99) hx hb dX3_hasFile_14 (by decide +kernel) ?_
    refine g_callS0 (As := [.int p1, .int 0, .int 99]) (rest := [.ref (q 0)]) hx hb hml hown hts (ctX3_in_100 l D cI cZ q p1) gX3_hasFile_X3_in rfl rfl rfl hdX3_in ⟨Nat.le_of_ble_eq_true rfl, Nat.le_of_ble_eq_true rfl⟩ gEM_true trivial hP hK hS hA rfl hl.1 rfl (Nat.le_of_ble_eq_true rfl) dX3_hasFile_16 ⟨Nat.zero_le _, Nat.zero_le _⟩ (fun H locs hP hS => ?_)
    refine W.eq (g2 := F0 m 19 ls [.int (xRange p1 100), .ref (q 0)]) rfl ?_
    refine lv_if_eq (tgt := 26) hx hb dX3_hasFile_19 (by decide) (fun c_19 => ?_) (fun c_19 => ?_)
    · refine lv_iconst (v := 2) hx hb dX3_hasFile_26 (by decide +kernel) ?_
      refine g_callV (As := [.int 2]) (rest := []) hx hb hml hown hts (ctX3_refused l D cI cZ q u 2) gX3_hasFile_X3_refused rfl rfl rfl hdX3_refused ⟨Nat.le_of_ble_eq_true rfl, Nat.le_of_ble_eq_true rfl⟩ gEM_true trivial hP hK hD hS hA 0 rfl rfl rfl hl.1 rfl (Nat.le_of_ble_eq_true rfl) dX3_hasFile_27 ⟨Nat.zero_le _, Nat.zero_le _⟩ (fun H locs hP hD hS => ?_)
      obtain ⟨hP, hD⟩ := g_toPD hP hD (MW_ext (Y := (mS u 14 (fun _ => 2))) (by refine ⟨?_, ?_, ?_, ?_, ?_, ?_, ?_, ?_, ?_, ?_, ?_, ?_, ?_, ?_, ?_, ?_, ?_, ?_⟩ <;> simp only [mS_at, ↓reduceIte, Nat.reduceEqDiff] <;> rfl))
      refine W.eq (g2 := F0 m 30 ls [.int (if 2 = 0 then 0 else 1)]) rfl ?_
      refine lv_if_ne (tgt := 51) hx hb dX3_hasFile_30 (by decide) (fun c_30 => ?_) (fun c_30 => ?_)
      · refine lv_iconst (v := 0) hx hb dX3_hasFile_51 (by decide +kernel) ?_
        refine g_zret (u1 := (mS u 14 (fun _ => 2))) hx hb hret hlk hQ hP hD hS dX3_hasFile_52 ?_ ?_ ?_
        · exact rfl
        · exact rfl
        · exact rfl
      · exact absurd c_30 (by decide)
    · exact absurd h1 c_19
  · exact absurd c_5 hs
abbrev rmX3_ref_1 : Room := { frames := 2, cells := 0, slots := 0, locals := 42 }
set_option maxHeartbeats 4000000 in
set_option maxRecDepth 100000 in
theorem ctX3_ref_1 (l : Launch) (D : va_G) (cI cZ : ClassId) (q : Nat → Nat) (u : SM) (p1 : Int32) (h1 : ¬ xRange p1 4 = 0) : gM l yX3_ref wsX3_ref rmX3_ref_1 D [(cI, .int), (cZ, .boolean)] (MW cI cZ q) (fun _ => True) [.ref (q 0), .int 1, .int p1] u (some (.int (u 5 (4 * 1 + p1.toNatClampNeg)))) (mS u 14 (fun _ => 0)) := by
  refine g_start (cc := cX3_ref) (maxL := 3) (ret := (some .int)) (by decide) rfl (Nat.le_of_ble_eq_true rfl) ?_
  intro p e s m below meth c A ls Q hx hb hml hret hts hown hlk hE hP hK hD hA hl hQ hS
  have hown : s.vm.findClass RX3 = some m.cls := hown
  have hl : lv_has ls 3 [(0, .ref (q 0)), (1, .int 1), (2, .int p1)] := hl
  have hs : ¬ xRange 1 2 = 0 := by decide +kernel
  obtain ⟨j, hj, hj2⟩ := xRange_ne (n := 4) rfl (by omega) h1
  have hjc : p1.toNatClampNeg = j := by rw [hj2, nI_clamp (by omega)]
  have hje : p1 = nI p1.toNatClampNeg := by rw [hjc]; exact hj2
  refine lv_aload_n hx hb dX3_ref_0 rfl (lv_at hl 0 rfl) ?_
  refine lv_iload_n hx hb dX3_ref_1 rfl (lv_at hl 1 rfl) ?_
  refine g_callS0 (As := [.int 1]) (rest := [.ref (q 0)]) hx hb hml hown hts (ctX3_isStore l D cI cZ q 1) gX3_ref_X3_isStore rfl rfl rfl hdX3_isStore ⟨Nat.le_of_ble_eq_true rfl, Nat.le_of_ble_eq_true rfl⟩ gEM_true trivial hP hK hS hA rfl hl.1 rfl (Nat.le_of_ble_eq_true rfl) dX3_ref_2 ⟨Nat.zero_le _, Nat.zero_le _⟩ (fun H locs hP hS => ?_)
  refine W.eq (g2 := F0 m 5 ls [.int (xRange 1 2), .ref (q 0)]) rfl ?_
  refine lv_if_eq (tgt := 19) hx hb dX3_ref_5 (by decide) (fun c_5 => ?_) (fun c_5 => ?_)
  · exact absurd c_5 hs
  · refine lv_iload_n hx hb dX3_ref_8 rfl (lv_at hl 2 rfl) ?_
    refine g_callS0 (As := [.int p1]) (rest := [.ref (q 0)]) hx hb hml hown hts (ctX3_isRef l D cI cZ q p1) gX3_ref_X3_isRef rfl rfl rfl hdX3_isRef ⟨Nat.le_of_ble_eq_true rfl, Nat.le_of_ble_eq_true rfl⟩ gEM_true trivial hP hK hS hA rfl hl.1 rfl (Nat.le_of_ble_eq_true rfl) dX3_ref_9 ⟨Nat.zero_le _, Nat.zero_le _⟩ (fun H locs hP hS => ?_)
    refine W.eq (g2 := F0 m 12 ls [.int (xRange p1 4), .ref (q 0)]) rfl ?_
    refine lv_if_eq (tgt := 19) hx hb dX3_ref_12 (by decide) (fun c_12 => ?_) (fun c_12 => ?_)
    · exact absurd c_12 h1
    · refine lv_iconst (v := 0) hx hb dX3_ref_15 (by decide +kernel) ?_
      refine lv_goto (tgt := 20) hx hb dX3_ref_16 (by decide) ?_
      refine g_callV (As := [.int 0]) (rest := []) hx hb hml hown hts (ctX3_refused l D cI cZ q u 0) gX3_ref_X3_refused rfl rfl rfl hdX3_refused ⟨Nat.le_of_ble_eq_true rfl, Nat.le_of_ble_eq_true rfl⟩ gEM_true trivial hP hK hD hS hA 0 rfl rfl rfl hl.1 rfl (Nat.le_of_ble_eq_true rfl) dX3_ref_20 ⟨Nat.zero_le _, Nat.zero_le _⟩ (fun H locs hP hD hS => ?_)
      obtain ⟨hP, hD⟩ := g_toPD hP hD (MW_ext (Y := (mS u 14 (fun _ => 0))) (by refine ⟨?_, ?_, ?_, ?_, ?_, ?_, ?_, ?_, ?_, ?_, ?_, ?_, ?_, ?_, ?_, ?_, ?_, ?_⟩ <;> simp only [mS_at, ↓reduceIte, Nat.reduceEqDiff] <;> rfl))
      refine W.eq (g2 := F0 m 23 ls [.int (if 0 = 0 then 0 else 1)]) rfl ?_
      refine lv_if_eq (tgt := 30) hx hb dX3_ref_23 (by decide) (fun c_23 => ?_) (fun c_23 => ?_)
      · refine lv_aload_n hx hb dX3_ref_30 rfl (lv_at hl 0 rfl) ?_
        refine va_get (ci := 3) (v := .ref (q 6)) (C := RX3) (T := TX3) (N := 18) hx hb hts inX3_ref_RX3 hown hK hP 0 rfl rfl 7 (by decide) (hts _ lkX3_ref_26) (fun _ h9 => h9) rfl dX3_ref_31 ?_
        refine lv_iconst (v := 4) hx hb dX3_ref_34 (by decide +kernel) ?_
        refine lv_iload_n hx hb dX3_ref_35 rfl (lv_at hl 1 rfl) ?_
        refine lv_imul hx hb dX3_ref_36 ?_
        refine lv_iload_n hx hb dX3_ref_37 rfl (lv_at hl 2 rfl) ?_
        refine lv_iadd hx hb dX3_ref_38 ?_
        refine g_iald (n := 8) (f := (u 5)) hx hb hK hP 6 0 (by rw [MW_get_5, show (mS u 14 (fun _ => 0)) 5 = (u 5) from by simp only [mS_at, ↓reduceIte, Nat.reduceEqDiff]]) rfl (4 * 1 + p1.toNatClampNeg) (by omega) (by omega) (g_addE (g_mulE rfl rfl) hje) dX3_ref_39 ?_
        refine g_iret (u1 := (mS u 14 (fun _ => 0))) hx hb hret hlk hQ hP hD hS dX3_ref_40 ?_ ?_
        · exact rfl
        · exact rfl
      · exact absurd (show (0 : Int32) = 0 from rfl) c_23
abbrev rmX3_ref_r1 : Room := { frames := 2, cells := 0, slots := 0, locals := 42 }
set_option maxHeartbeats 4000000 in
set_option maxRecDepth 100000 in
theorem ctX3_ref_r1 (l : Launch) (D : va_G) (cI cZ : ClassId) (q : Nat → Nat) (u : SM) (p1 : Int32) (h1 : xRange p1 4 = 0) : gM l yX3_ref wsX3_ref rmX3_ref_r1 D [(cI, .int), (cZ, .boolean)] (MW cI cZ q) (fun _ => True) [.ref (q 0), .int 1, .int p1] u (some (.int 0)) (mS u 14 (fun _ => 1)) := by
  refine g_start (cc := cX3_ref) (maxL := 3) (ret := (some .int)) (by decide) rfl (Nat.le_of_ble_eq_true rfl) ?_
  intro p e s m below meth c A ls Q hx hb hml hret hts hown hlk hE hP hK hD hA hl hQ hS
  have hown : s.vm.findClass RX3 = some m.cls := hown
  have hl : lv_has ls 3 [(0, .ref (q 0)), (1, .int 1), (2, .int p1)] := hl
  have hs : ¬ xRange 1 2 = 0 := by decide +kernel
  refine lv_aload_n hx hb dX3_ref_0 rfl (lv_at hl 0 rfl) ?_
  refine lv_iload_n hx hb dX3_ref_1 rfl (lv_at hl 1 rfl) ?_
  refine g_callS0 (As := [.int 1]) (rest := [.ref (q 0)]) hx hb hml hown hts (ctX3_isStore l D cI cZ q 1) gX3_ref_X3_isStore rfl rfl rfl hdX3_isStore ⟨Nat.le_of_ble_eq_true rfl, Nat.le_of_ble_eq_true rfl⟩ gEM_true trivial hP hK hS hA rfl hl.1 rfl (Nat.le_of_ble_eq_true rfl) dX3_ref_2 ⟨Nat.zero_le _, Nat.zero_le _⟩ (fun H locs hP hS => ?_)
  refine W.eq (g2 := F0 m 5 ls [.int (xRange 1 2), .ref (q 0)]) rfl ?_
  refine lv_if_eq (tgt := 19) hx hb dX3_ref_5 (by decide) (fun c_5 => ?_) (fun c_5 => ?_)
  · exact absurd c_5 hs
  · refine lv_iload_n hx hb dX3_ref_8 rfl (lv_at hl 2 rfl) ?_
    refine g_callS0 (As := [.int p1]) (rest := [.ref (q 0)]) hx hb hml hown hts (ctX3_isRef l D cI cZ q p1) gX3_ref_X3_isRef rfl rfl rfl hdX3_isRef ⟨Nat.le_of_ble_eq_true rfl, Nat.le_of_ble_eq_true rfl⟩ gEM_true trivial hP hK hS hA rfl hl.1 rfl (Nat.le_of_ble_eq_true rfl) dX3_ref_9 ⟨Nat.zero_le _, Nat.zero_le _⟩ (fun H locs hP hS => ?_)
    refine W.eq (g2 := F0 m 12 ls [.int (xRange p1 4), .ref (q 0)]) rfl ?_
    refine lv_if_eq (tgt := 19) hx hb dX3_ref_12 (by decide) (fun c_12 => ?_) (fun c_12 => ?_)
    · refine lv_iconst (v := 1) hx hb dX3_ref_19 (by decide +kernel) ?_
      refine g_callV (As := [.int 1]) (rest := []) hx hb hml hown hts (ctX3_refused l D cI cZ q u 1) gX3_ref_X3_refused rfl rfl rfl hdX3_refused ⟨Nat.le_of_ble_eq_true rfl, Nat.le_of_ble_eq_true rfl⟩ gEM_true trivial hP hK hD hS hA 0 rfl rfl rfl hl.1 rfl (Nat.le_of_ble_eq_true rfl) dX3_ref_20 ⟨Nat.zero_le _, Nat.zero_le _⟩ (fun H locs hP hD hS => ?_)
      obtain ⟨hP, hD⟩ := g_toPD hP hD (MW_ext (Y := (mS u 14 (fun _ => 1))) (by refine ⟨?_, ?_, ?_, ?_, ?_, ?_, ?_, ?_, ?_, ?_, ?_, ?_, ?_, ?_, ?_, ?_, ?_, ?_⟩ <;> simp only [mS_at, ↓reduceIte, Nat.reduceEqDiff] <;> rfl))
      refine W.eq (g2 := F0 m 23 ls [.int (if 1 = 0 then 0 else 1)]) rfl ?_
      refine lv_if_eq (tgt := 30) hx hb dX3_ref_23 (by decide) (fun c_23 => ?_) (fun c_23 => ?_)
      · exact absurd c_23 (by decide)
      · refine lv_iconst (v := 0) hx hb dX3_ref_26 (by decide +kernel) ?_
        refine lv_goto (tgt := 40) hx hb dX3_ref_27 (by decide) ?_
        refine g_iret (u1 := (mS u 14 (fun _ => 1))) hx hb hret hlk hQ hP hD hS dX3_ref_40 ?_ ?_
        · exact rfl
        · exact rfl
    · exact absurd h1 c_12
abbrev rmX3_setRef_1 : Room := { frames := 4, cells := 0, slots := 0, locals := 87 }
set_option maxHeartbeats 4000000 in
set_option maxRecDepth 100000 in
theorem ctX3_setRef_1 (l : Launch) (D : va_G) (cI cZ : ClassId) (q : Nat → Nat) (u : SM) (n : Nat) (hn : u 15 0 = nI n) (h60 : n ≤ 60) (p1 p2 : Int32) (h1 : ¬ xRange p1 4 = 0) (h2 : ¬ mHasN n (u 3) 1 p2 = 0) : gM l yX3_setRef wsX3_setRef rmX3_setRef_1 D [(cI, .int), (cZ, .boolean)] (MW cI cZ q) (fun _ => True) [.ref (q 0), .int 1, .int p1, .int p2] u (some (.int (u 5 (4 * 1 + p1.toNatClampNeg)))) (mS (mS u 14 (fun _ => 0)) 5 (upd (u 5) (4 * 1 + p1.toNatClampNeg) p2)) := by
  refine g_start (cc := cX3_setRef) (maxL := 6) (ret := (some .int)) (by decide) rfl (Nat.le_of_ble_eq_true rfl) ?_
  intro p e s m below meth c A ls Q hx hb hml hret hts hown hlk hE hP hK hD hA hl hQ hS
  have hown : s.vm.findClass RX3 = some m.cls := hown
  have hl : lv_has ls 6 [(0, .ref (q 0)), (1, .int 1), (2, .int p1), (3, .int p2)] := hl
  have hs : ¬ xRange 1 2 = 0 := by decide +kernel
  obtain ⟨j, hj, hj2⟩ := xRange_ne (n := 4) rfl (by omega) h1
  have hjc : p1.toNatClampNeg = j := by rw [hj2, nI_clamp (by omega)]
  have hje : p1 = nI p1.toNatClampNeg := by rw [hjc]; exact hj2
  refine lv_iload_n hx hb dX3_setRef_0 rfl (lv_at hl 1 rfl) ?_
  refine g_callS0 (As := [.int 1]) (rest := []) hx hb hml hown hts (ctX3_isStore l D cI cZ q 1) gX3_setRef_X3_isStore rfl rfl rfl hdX3_isStore ⟨Nat.le_of_ble_eq_true rfl, Nat.le_of_ble_eq_true rfl⟩ gEM_true trivial hP hK hS hA rfl hl.1 rfl (Nat.le_of_ble_eq_true rfl) dX3_setRef_1 ⟨Nat.zero_le _, Nat.zero_le _⟩ (fun H locs hP hS => ?_)
  refine W.eq (g2 := F0 m 4 ls [.int (xRange 1 2)]) rfl ?_
  refine lv_if_eq (tgt := 27) hx hb dX3_setRef_4 (by decide) (fun c_4 => ?_) (fun c_4 => ?_)
  · exact absurd c_4 hs
  · refine lv_iload_n hx hb dX3_setRef_7 rfl (lv_at hl 2 rfl) ?_
    refine g_callS0 (As := [.int p1]) (rest := []) hx hb hml hown hts (ctX3_isRef l D cI cZ q p1) gX3_setRef_X3_isRef rfl rfl rfl hdX3_isRef ⟨Nat.le_of_ble_eq_true rfl, Nat.le_of_ble_eq_true rfl⟩ gEM_true trivial hP hK hS hA rfl hl.1 rfl (Nat.le_of_ble_eq_true rfl) dX3_setRef_8 ⟨Nat.zero_le _, Nat.zero_le _⟩ (fun H locs hP hS => ?_)
    refine W.eq (g2 := F0 m 11 ls [.int (xRange p1 4)]) rfl ?_
    refine lv_if_eq (tgt := 27) hx hb dX3_setRef_11 (by decide) (fun c_11 => ?_) (fun c_11 => ?_)
    · exact absurd c_11 h1
    · refine lv_aload_n hx hb dX3_setRef_14 rfl (lv_at hl 0 rfl) ?_
      refine lv_iload_n hx hb dX3_setRef_15 rfl (lv_at hl 1 rfl) ?_
      refine lv_iload_n hx hb dX3_setRef_16 rfl (lv_at hl 3 rfl) ?_
      refine g_callV (As := [.int 1, .int p2]) (rest := []) hx hb hml hown hts (ctX3_isInOrNone_1 l D cI cZ q u n hn h60 p2) gX3_setRef_X3_isInOrNone rfl rfl rfl hdX3_isInOrNone ⟨Nat.le_of_ble_eq_true rfl, Nat.le_of_ble_eq_true rfl⟩ gEM_true trivial hP hK hD hS hA 0 rfl rfl rfl hl.1 rfl (Nat.le_of_ble_eq_true rfl) dX3_setRef_17 ⟨Nat.zero_le _, Nat.zero_le _⟩ (fun H locs hP hD hS => ?_)
      refine W.eq (g2 := F0 m 20 ls [.int (mHasN n (u 3) 1 p2)]) rfl ?_
      refine lv_if_eq (tgt := 27) hx hb dX3_setRef_20 (by decide) (fun c_20 => ?_) (fun c_20 => ?_)
      · exact absurd c_20 h2
      · refine lv_iconst (v := 1) hx hb dX3_setRef_23 (by decide +kernel) ?_
        refine lv_goto (tgt := 28) hx hb dX3_setRef_24 (by decide) ?_
        refine lv_istore (lv' := [(4, .int 1), (0, .ref (q 0)), (1, .int 1), (2, .int p1), (3, .int p2)]) hx hb dX3_setRef_28 hl (by decide) rfl (fun ls hl => ?_)
        refine lv_aload_n hx hb dX3_setRef_30 rfl (lv_at hl 1 rfl) ?_
        refine lv_iload hx hb dX3_setRef_31 (lv_at hl 0 rfl) ?_
        refine lv_if_eq (tgt := 40) hx hb dX3_setRef_33 (by decide) (fun c_33 => ?_) (fun c_33 => ?_)
        · exact absurd c_33 (by decide)
        · refine lv_iconst (v := 0) hx hb dX3_setRef_36 (by decide +kernel) ?_
          refine lv_goto (tgt := 41) hx hb dX3_setRef_37 (by decide) ?_
          refine g_callV (As := [.int 0]) (rest := []) hx hb hml hown hts (ctX3_refused l D cI cZ q u 0) gX3_setRef_X3_refused rfl rfl rfl hdX3_refused ⟨Nat.le_of_ble_eq_true rfl, Nat.le_of_ble_eq_true rfl⟩ gEM_true trivial hP hK hD hS hA 0 rfl rfl rfl hl.1 rfl (Nat.le_of_ble_eq_true rfl) dX3_setRef_41 ⟨Nat.zero_le _, Nat.zero_le _⟩ (fun H locs hP hD hS => ?_)
          obtain ⟨hP, hD⟩ := g_toPD hP hD (MW_ext (Y := (mS u 14 (fun _ => 0))) (by refine ⟨?_, ?_, ?_, ?_, ?_, ?_, ?_, ?_, ?_, ?_, ?_, ?_, ?_, ?_, ?_, ?_, ?_, ?_⟩ <;> simp only [mS_at, ↓reduceIte, Nat.reduceEqDiff] <;> rfl))
          refine W.eq (g2 := F0 m 44 ls [.int (if 0 = 0 then 0 else 1)]) rfl ?_
          refine lv_if_eq (tgt := 49) hx hb dX3_setRef_44 (by decide) (fun c_44 => ?_) (fun c_44 => ?_)
          · refine lv_aload_n hx hb dX3_setRef_49 rfl (lv_at hl 1 rfl) ?_
            refine va_get (ci := 3) (v := .ref (q 6)) (C := RX3) (T := TX3) (N := 18) hx hb hts inX3_setRef_RX3 hown hK hP 0 rfl rfl 7 (by decide) (hts _ lkX3_setRef_26) (fun _ h9 => h9) rfl dX3_setRef_50 ?_
            refine lv_iconst (v := 4) hx hb dX3_setRef_53 (by decide +kernel) ?_
            refine lv_iload_n hx hb dX3_setRef_54 rfl (lv_at hl 2 rfl) ?_
            refine lv_imul hx hb dX3_setRef_55 ?_
            refine lv_iload_n hx hb dX3_setRef_56 rfl (lv_at hl 3 rfl) ?_
            refine lv_iadd hx hb dX3_setRef_57 ?_
            refine g_iald (n := 8) (f := (u 5)) hx hb hK hP 6 0 (by rw [MW_get_5, show (mS u 14 (fun _ => 0)) 5 = (u 5) from by simp only [mS_at, ↓reduceIte, Nat.reduceEqDiff]]) rfl (4 * 1 + p1.toNatClampNeg) (by omega) (by omega) (g_addE (g_mulE rfl rfl) hje) dX3_setRef_58 ?_
            refine lv_istore (lv' := [(5, .int ((u 5) (4 * 1 + p1.toNatClampNeg))), (4, .int 1), (0, .ref (q 0)), (1, .int 1), (2, .int p1), (3, .int p2)]) hx hb dX3_setRef_59 hl (by decide) rfl (fun ls hl => ?_)
            refine lv_aload_n hx hb dX3_setRef_61 rfl (lv_at hl 2 rfl) ?_
            refine va_get (ci := 3) (v := .ref (q 6)) (C := RX3) (T := TX3) (N := 18) hx hb hts inX3_setRef_RX3 hown hK hP 0 rfl rfl 7 (by decide) (hts _ lkX3_setRef_26) (fun _ h9 => h9) rfl dX3_setRef_62 ?_
            refine lv_iconst (v := 4) hx hb dX3_setRef_65 (by decide +kernel) ?_
            refine lv_iload_n hx hb dX3_setRef_66 rfl (lv_at hl 3 rfl) ?_
            refine lv_imul hx hb dX3_setRef_67 ?_
            refine lv_iload_n hx hb dX3_setRef_68 rfl (lv_at hl 4 rfl) ?_
            refine lv_iadd hx hb dX3_setRef_69 ?_
            refine lv_iload_n hx hb dX3_setRef_70 rfl (lv_at hl 5 rfl) ?_
            refine g_iast (n := 8) (f := (u 5)) (u' := (mS (mS u 14 (fun _ => 0)) 5 (upd (u 5) (4 * 1 + p1.toNatClampNeg) p2))) hx hb hK hP hD hS 6 0 (by rw [MW_get_5, show (mS u 14 (fun _ => 0)) 5 = (u 5) from by simp only [mS_at, ↓reduceIte, Nat.reduceEqDiff]]) rfl (4 * 1 + p1.toNatClampNeg) (by omega) (by omega) (g_addE (g_mulE rfl rfl) hje) (MW_set_5 _ _) dX3_setRef_71 (fun H locs hP hD hS => ?_)
            refine lv_iload hx hb dX3_setRef_72 (lv_at hl 0 rfl) ?_
            refine g_iret (u1 := (mS (mS u 14 (fun _ => 0)) 5 (upd (u 5) (4 * 1 + p1.toNatClampNeg) p2))) hx hb hret hlk hQ hP hD hS dX3_setRef_74 ?_ ?_
            · exact rfl
            · exact rfl
          · exact absurd (show (0 : Int32) = 0 from rfl) c_44
abbrev rmX3_setRef_r1 : Room := { frames := 4, cells := 0, slots := 0, locals := 87 }
set_option maxHeartbeats 4000000 in
set_option maxRecDepth 100000 in
theorem ctX3_setRef_r1 (l : Launch) (D : va_G) (cI cZ : ClassId) (q : Nat → Nat) (u : SM) (n : Nat) (hn : u 15 0 = nI n) (h60 : n ≤ 60) (p1 p2 : Int32) (h : xRange p1 4 = 0 ∨ mHasN n (u 3) 1 p2 = 0) : gM l yX3_setRef wsX3_setRef rmX3_setRef_r1 D [(cI, .int), (cZ, .boolean)] (MW cI cZ q) (fun _ => True) [.ref (q 0), .int 1, .int p1, .int p2] u (some (.int 0)) (mS u 14 (fun _ => 1)) := by
  refine g_start (cc := cX3_setRef) (maxL := 6) (ret := (some .int)) (by decide) rfl (Nat.le_of_ble_eq_true rfl) ?_
  intro p e s m below meth c A ls Q hx hb hml hret hts hown hlk hE hP hK hD hA hl hQ hS
  have hown : s.vm.findClass RX3 = some m.cls := hown
  have hl : lv_has ls 6 [(0, .ref (q 0)), (1, .int 1), (2, .int p1), (3, .int p2)] := hl
  have hs : ¬ xRange 1 2 = 0 := by decide +kernel
  refine lv_iload_n hx hb dX3_setRef_0 rfl (lv_at hl 1 rfl) ?_
  refine g_callS0 (As := [.int 1]) (rest := []) hx hb hml hown hts (ctX3_isStore l D cI cZ q 1) gX3_setRef_X3_isStore rfl rfl rfl hdX3_isStore ⟨Nat.le_of_ble_eq_true rfl, Nat.le_of_ble_eq_true rfl⟩ gEM_true trivial hP hK hS hA rfl hl.1 rfl (Nat.le_of_ble_eq_true rfl) dX3_setRef_1 ⟨Nat.zero_le _, Nat.zero_le _⟩ (fun H locs hP hS => ?_)
  refine W.eq (g2 := F0 m 4 ls [.int (xRange 1 2)]) rfl ?_
  refine lv_if_eq (tgt := 27) hx hb dX3_setRef_4 (by decide) (fun c_4 => ?_) (fun c_4 => ?_)
  · exact absurd c_4 hs
  · refine lv_iload_n hx hb dX3_setRef_7 rfl (lv_at hl 2 rfl) ?_
    refine g_callS0 (As := [.int p1]) (rest := []) hx hb hml hown hts (ctX3_isRef l D cI cZ q p1) gX3_setRef_X3_isRef rfl rfl rfl hdX3_isRef ⟨Nat.le_of_ble_eq_true rfl, Nat.le_of_ble_eq_true rfl⟩ gEM_true trivial hP hK hS hA rfl hl.1 rfl (Nat.le_of_ble_eq_true rfl) dX3_setRef_8 ⟨Nat.zero_le _, Nat.zero_le _⟩ (fun H locs hP hS => ?_)
    refine W.eq (g2 := F0 m 11 ls [.int (xRange p1 4)]) rfl ?_
    refine lv_if_eq (tgt := 27) hx hb dX3_setRef_11 (by decide) (fun c_11 => ?_) (fun c_11 => ?_)
    · refine lv_iconst (v := 0) hx hb dX3_setRef_27 (by decide +kernel) ?_
      refine lv_istore (lv' := [(4, .int 0), (0, .ref (q 0)), (1, .int 1), (2, .int p1), (3, .int p2)]) hx hb dX3_setRef_28 hl (by decide) rfl (fun ls hl => ?_)
      refine lv_aload_n hx hb dX3_setRef_30 rfl (lv_at hl 1 rfl) ?_
      refine lv_iload hx hb dX3_setRef_31 (lv_at hl 0 rfl) ?_
      refine lv_if_eq (tgt := 40) hx hb dX3_setRef_33 (by decide) (fun c_33 => ?_) (fun c_33 => ?_)
      · refine lv_iconst (v := 1) hx hb dX3_setRef_40 (by decide +kernel) ?_
        refine g_callV (As := [.int 1]) (rest := []) hx hb hml hown hts (ctX3_refused l D cI cZ q u 1) gX3_setRef_X3_refused rfl rfl rfl hdX3_refused ⟨Nat.le_of_ble_eq_true rfl, Nat.le_of_ble_eq_true rfl⟩ gEM_true trivial hP hK hD hS hA 0 rfl rfl rfl hl.1 rfl (Nat.le_of_ble_eq_true rfl) dX3_setRef_41 ⟨Nat.zero_le _, Nat.zero_le _⟩ (fun H locs hP hD hS => ?_)
        obtain ⟨hP, hD⟩ := g_toPD hP hD (MW_ext (Y := (mS u 14 (fun _ => 1))) (by refine ⟨?_, ?_, ?_, ?_, ?_, ?_, ?_, ?_, ?_, ?_, ?_, ?_, ?_, ?_, ?_, ?_, ?_, ?_⟩ <;> simp only [mS_at, ↓reduceIte, Nat.reduceEqDiff] <;> rfl))
        refine W.eq (g2 := F0 m 44 ls [.int (if 1 = 0 then 0 else 1)]) rfl ?_
        refine lv_if_eq (tgt := 49) hx hb dX3_setRef_44 (by decide) (fun c_44 => ?_) (fun c_44 => ?_)
        · exact absurd c_44 (by decide)
        · refine lv_iconst (v := 0) hx hb dX3_setRef_47 (by decide +kernel) ?_
          refine g_iret (u1 := (mS u 14 (fun _ => 1))) hx hb hret hlk hQ hP hD hS dX3_setRef_48 ?_ ?_
          · exact rfl
          · exact rfl
      · exact absurd (show (0 : Int32) = 0 from rfl) c_33
    · refine lv_aload_n hx hb dX3_setRef_14 rfl (lv_at hl 0 rfl) ?_
      refine lv_iload_n hx hb dX3_setRef_15 rfl (lv_at hl 1 rfl) ?_
      refine lv_iload_n hx hb dX3_setRef_16 rfl (lv_at hl 3 rfl) ?_
      refine g_callV (As := [.int 1, .int p2]) (rest := []) hx hb hml hown hts (ctX3_isInOrNone_1 l D cI cZ q u n hn h60 p2) gX3_setRef_X3_isInOrNone rfl rfl rfl hdX3_isInOrNone ⟨Nat.le_of_ble_eq_true rfl, Nat.le_of_ble_eq_true rfl⟩ gEM_true trivial hP hK hD hS hA 0 rfl rfl rfl hl.1 rfl (Nat.le_of_ble_eq_true rfl) dX3_setRef_17 ⟨Nat.zero_le _, Nat.zero_le _⟩ (fun H locs hP hD hS => ?_)
      refine W.eq (g2 := F0 m 20 ls [.int (mHasN n (u 3) 1 p2)]) rfl ?_
      refine lv_if_eq (tgt := 27) hx hb dX3_setRef_20 (by decide) (fun c_20 => ?_) (fun c_20 => ?_)
      · refine lv_iconst (v := 0) hx hb dX3_setRef_27 (by decide +kernel) ?_
        refine lv_istore (lv' := [(4, .int 0), (0, .ref (q 0)), (1, .int 1), (2, .int p1), (3, .int p2)]) hx hb dX3_setRef_28 hl (by decide) rfl (fun ls hl => ?_)
        refine lv_aload_n hx hb dX3_setRef_30 rfl (lv_at hl 1 rfl) ?_
        refine lv_iload hx hb dX3_setRef_31 (lv_at hl 0 rfl) ?_
        refine lv_if_eq (tgt := 40) hx hb dX3_setRef_33 (by decide) (fun c_33 => ?_) (fun c_33 => ?_)
        · refine lv_iconst (v := 1) hx hb dX3_setRef_40 (by decide +kernel) ?_
          refine g_callV (As := [.int 1]) (rest := []) hx hb hml hown hts (ctX3_refused l D cI cZ q u 1) gX3_setRef_X3_refused rfl rfl rfl hdX3_refused ⟨Nat.le_of_ble_eq_true rfl, Nat.le_of_ble_eq_true rfl⟩ gEM_true trivial hP hK hD hS hA 0 rfl rfl rfl hl.1 rfl (Nat.le_of_ble_eq_true rfl) dX3_setRef_41 ⟨Nat.zero_le _, Nat.zero_le _⟩ (fun H locs hP hD hS => ?_)
          obtain ⟨hP, hD⟩ := g_toPD hP hD (MW_ext (Y := (mS u 14 (fun _ => 1))) (by refine ⟨?_, ?_, ?_, ?_, ?_, ?_, ?_, ?_, ?_, ?_, ?_, ?_, ?_, ?_, ?_, ?_, ?_, ?_⟩ <;> simp only [mS_at, ↓reduceIte, Nat.reduceEqDiff] <;> rfl))
          refine W.eq (g2 := F0 m 44 ls [.int (if 1 = 0 then 0 else 1)]) rfl ?_
          refine lv_if_eq (tgt := 49) hx hb dX3_setRef_44 (by decide) (fun c_44 => ?_) (fun c_44 => ?_)
          · exact absurd c_44 (by decide)
          · refine lv_iconst (v := 0) hx hb dX3_setRef_47 (by decide +kernel) ?_
            refine g_iret (u1 := (mS u 14 (fun _ => 1))) hx hb hret hlk hQ hP hD hS dX3_setRef_48 ?_ ?_
            · exact rfl
            · exact rfl
        · exact absurd (show (0 : Int32) = 0 from rfl) c_33
      · exact absurd (h.resolve_left c_11) c_20
abbrev rmX3_isAncestor_1 : Room := { frames := 7, cells := 0, slots := 0, locals := 152 }
set_option maxHeartbeats 4000000 in
set_option maxRecDepth 100000 in
theorem ctX3_isAncestor_1 (l : Launch) (D : va_G) (cI cZ : ClassId) (q : Nat → Nat) (u : SM) (n : Nat) (hn : u 15 0 = nI n) (h60 : n ≤ 60) (p1 p2 : Int32) (h1 : ¬ xRange p1 (nI n) = 0) (h2 : ¬ xRange p2 (nI n) = 0) : gM l yX3_isAncestor wsX3_isAncestor rmX3_isAncestor_1 D [(cI, .int), (cZ, .boolean)] (MW cI cZ q) (fun _ => True) [.ref (q 0), .int 1, .int p1, .int p2] u (some (.int (mFrom1 n (u 3) (u 0) (u 1) (u 10) p2 p1.toNatClampNeg))) (mS (mS u 14 (fun _ => 0)) 10 (mFrom1 n (u 3) (u 0) (u 1) (u 10) p2)) := by
  refine g_start (cc := cX3_isAncestor) (maxL := 5) (ret := (some .boolean)) (by decide) rfl (Nat.le_of_ble_eq_true rfl) ?_
  intro p e s m below meth c A ls Q hx hb hml hret hts hown hlk hE hP hK hD hA hl hQ hS
  have hown : s.vm.findClass RX3 = some m.cls := hown
  have hl : lv_has ls 5 [(0, .ref (q 0)), (1, .int 1), (2, .int p1), (3, .int p2)] := hl
  have hs : ¬ xRange 1 2 = 0 := by decide +kernel
  obtain ⟨j, hj, hj2⟩ := xRange_ne rfl (by omega) h1
  have hjc : p1.toNatClampNeg = j := by rw [hj2, nI_clamp (by omega)]
  have hje : p1 = nI p1.toNatClampNeg := by rw [hjc]; exact hj2
  refine lv_iload_n hx hb dX3_isAncestor_0 rfl (lv_at hl 1 rfl) ?_
  refine g_callS0 (As := [.int 1]) (rest := []) hx hb hml hown hts (ctX3_isStore l D cI cZ q 1) gX3_isAncestor_X3_isStore rfl rfl rfl hdX3_isStore ⟨Nat.le_of_ble_eq_true rfl, Nat.le_of_ble_eq_true rfl⟩ gEM_true trivial hP hK hS hA rfl hl.1 rfl (Nat.le_of_ble_eq_true rfl) dX3_isAncestor_1 ⟨Nat.zero_le _, Nat.zero_le _⟩ (fun H locs hP hS => ?_)
  refine W.eq (g2 := F0 m 4 ls [.int (xRange 1 2)]) rfl ?_
  refine lv_if_eq (tgt := 27) hx hb dX3_isAncestor_4 (by decide) (fun c_4 => ?_) (fun c_4 => ?_)
  · exact absurd c_4 hs
  · refine lv_aload_n hx hb dX3_isAncestor_7 rfl (lv_at hl 0 rfl) ?_
    refine lv_iload_n hx hb dX3_isAncestor_8 rfl (lv_at hl 2 rfl) ?_
    refine g_callV (As := [.int p1]) (rest := []) hx hb hml hown hts (ctX3_isCommit l D cI cZ q u n hn h60 p1) gX3_isAncestor_X3_isCommit rfl rfl rfl hdX3_isCommit ⟨Nat.le_of_ble_eq_true rfl, Nat.le_of_ble_eq_true rfl⟩ gEM_true trivial hP hK hD hS hA 0 rfl rfl rfl hl.1 rfl (Nat.le_of_ble_eq_true rfl) dX3_isAncestor_9 ⟨Nat.zero_le _, Nat.zero_le _⟩ (fun H locs hP hD hS => ?_)
    refine W.eq (g2 := F0 m 12 ls [.int (xRange p1 (nI n))]) rfl ?_
    refine lv_if_eq (tgt := 27) hx hb dX3_isAncestor_12 (by decide) (fun c_12 => ?_) (fun c_12 => ?_)
    · exact absurd c_12 h1
    · refine lv_aload_n hx hb dX3_isAncestor_15 rfl (lv_at hl 0 rfl) ?_
      refine lv_iload_n hx hb dX3_isAncestor_16 rfl (lv_at hl 3 rfl) ?_
      refine g_callV (As := [.int p2]) (rest := []) hx hb hml hown hts (ctX3_isCommit l D cI cZ q u n hn h60 p2) gX3_isAncestor_X3_isCommit rfl rfl rfl hdX3_isCommit ⟨Nat.le_of_ble_eq_true rfl, Nat.le_of_ble_eq_true rfl⟩ gEM_true trivial hP hK hD hS hA 0 rfl rfl rfl hl.1 rfl (Nat.le_of_ble_eq_true rfl) dX3_isAncestor_17 ⟨Nat.zero_le _, Nat.zero_le _⟩ (fun H locs hP hD hS => ?_)
      refine W.eq (g2 := F0 m 20 ls [.int (xRange p2 (nI n))]) rfl ?_
      refine lv_if_eq (tgt := 27) hx hb dX3_isAncestor_20 (by decide) (fun c_20 => ?_) (fun c_20 => ?_)
      · exact absurd c_20 h2
      · refine lv_iconst (v := 1) hx hb dX3_isAncestor_23 (by decide +kernel) ?_
        refine lv_goto (tgt := 28) hx hb dX3_isAncestor_24 (by decide) ?_
        refine lv_istore (lv' := [(4, .int 1), (0, .ref (q 0)), (1, .int 1), (2, .int p1), (3, .int p2)]) hx hb dX3_isAncestor_28 hl (by decide) rfl (fun ls hl => ?_)
        refine lv_aload_n hx hb dX3_isAncestor_30 rfl (lv_at hl 1 rfl) ?_
        refine lv_iload hx hb dX3_isAncestor_31 (lv_at hl 0 rfl) ?_
        refine lv_if_eq (tgt := 40) hx hb dX3_isAncestor_33 (by decide) (fun c_33 => ?_) (fun c_33 => ?_)
        · exact absurd c_33 (by decide)
        · refine lv_iconst (v := 0) hx hb dX3_isAncestor_36 (by decide +kernel) ?_
          refine lv_goto (tgt := 41) hx hb dX3_isAncestor_37 (by decide) ?_
          refine g_callV (As := [.int 0]) (rest := []) hx hb hml hown hts (ctX3_refused l D cI cZ q u 0) gX3_isAncestor_X3_refused rfl rfl rfl hdX3_refused ⟨Nat.le_of_ble_eq_true rfl, Nat.le_of_ble_eq_true rfl⟩ gEM_true trivial hP hK hD hS hA 0 rfl rfl rfl hl.1 rfl (Nat.le_of_ble_eq_true rfl) dX3_isAncestor_41 ⟨Nat.zero_le _, Nat.zero_le _⟩ (fun H locs hP hD hS => ?_)
          obtain ⟨hP, hD⟩ := g_toPD hP hD (MW_ext (Y := (mS u 14 (fun _ => 0))) (by refine ⟨?_, ?_, ?_, ?_, ?_, ?_, ?_, ?_, ?_, ?_, ?_, ?_, ?_, ?_, ?_, ?_, ?_, ?_⟩ <;> simp only [mS_at, ↓reduceIte, Nat.reduceEqDiff] <;> rfl))
          refine W.eq (g2 := F0 m 44 ls [.int (if 0 = 0 then 0 else 1)]) rfl ?_
          refine lv_if_eq (tgt := 49) hx hb dX3_isAncestor_44 (by decide) (fun c_44 => ?_) (fun c_44 => ?_)
          · refine lv_aload_n hx hb dX3_isAncestor_49 rfl (lv_at hl 1 rfl) ?_
            refine lv_iload_n hx hb dX3_isAncestor_50 rfl (lv_at hl 2 rfl) ?_
            refine lv_iload_n hx hb dX3_isAncestor_51 rfl (lv_at hl 4 rfl) ?_
            refine g_callV (As := [.int 1, .int p2]) (rest := []) hx hb hml hown hts (ctX3_markFrom_1 l D cI cZ q (mS u 14 (fun _ => 0)) n hn h60 p2) gX3_isAncestor_X3_markFrom rfl rfl rfl hdX3_markFrom ⟨Nat.le_of_ble_eq_true rfl, Nat.le_of_ble_eq_true rfl⟩ gEM_true trivial hP hK hD hS hA 0 rfl rfl rfl hl.1 rfl (Nat.le_of_ble_eq_true rfl) dX3_isAncestor_52 ⟨Nat.zero_le _, Nat.zero_le _⟩ (fun H locs hP hD hS => ?_)
            obtain ⟨hP, hD⟩ := g_toPD hP hD (MW_ext (Y := (mS (mS u 14 (fun _ => 0)) 10 (mFrom1 n (u 3) (u 0) (u 1) (u 10) p2))) (by refine ⟨?_, ?_, ?_, ?_, ?_, ?_, ?_, ?_, ?_, ?_, ?_, ?_, ?_, ?_, ?_, ?_, ?_, ?_⟩ <;> simp only [mS_at, ↓reduceIte, Nat.reduceEqDiff] <;> rfl))
            refine W.eq (g2 := F0 m 55 ls []) rfl ?_
            refine lv_aload_n hx hb dX3_isAncestor_55 rfl (lv_at hl 1 rfl) ?_
            refine va_get (ci := 3) (v := .ref (q 11)) (C := RX3) (T := TX3) (N := 18) hx hb hts inX3_isAncestor_RX3 hown hK hP 0 rfl rfl 14 (by decide) (hts _ lkX3_isAncestor_41) (fun _ h9 => h9) rfl dX3_isAncestor_56 ?_
            refine lv_iload_n hx hb dX3_isAncestor_59 rfl (lv_at hl 3 rfl) ?_
            refine g_zald (n := 60) (f := (mFrom1 n (u 3) (u 0) (u 1) (u 10) p2)) hx hb hK hP 11 1 (by rw [MW_get_10, show (mS (mS u 14 (fun _ => 0)) 10 (mFrom1 n (u 3) (u 0) (u 1) (u 10) p2)) 10 = (mFrom1 n (u 3) (u 0) (u 1) (u 10) p2) from by simp only [mS_at, ↓reduceIte, Nat.reduceEqDiff]]) rfl p1.toNatClampNeg (by omega) (by omega) hje dX3_isAncestor_60 ?_
            refine g_zret (u1 := (mS (mS u 14 (fun _ => 0)) 10 (mFrom1 n (u 3) (u 0) (u 1) (u 10) p2))) hx hb hret hlk hQ hP hD hS dX3_isAncestor_61 ?_ ?_ ?_
            · exact g_nar01 _ (mFrom1_01 n (u 3) (u 0) (u 1) (u 10) p2 _ (by omega))
            · exact rfl
            · exact rfl
          · exact absurd (show (0 : Int32) = 0 from rfl) c_44
abbrev rmX3_isAncestor_r1 : Room := { frames := 2, cells := 0, slots := 0, locals := 43 }
set_option maxHeartbeats 4000000 in
set_option maxRecDepth 100000 in
theorem ctX3_isAncestor_r1 (l : Launch) (D : va_G) (cI cZ : ClassId) (q : Nat → Nat) (u : SM) (n : Nat) (hn : u 15 0 = nI n) (h60 : n ≤ 60) (p1 p2 : Int32) (h : xRange p1 (nI n) = 0 ∨ xRange p2 (nI n) = 0) : gM l yX3_isAncestor wsX3_isAncestor rmX3_isAncestor_r1 D [(cI, .int), (cZ, .boolean)] (MW cI cZ q) (fun _ => True) [.ref (q 0), .int 1, .int p1, .int p2] u (some (.int 0)) (mS u 14 (fun _ => 1)) := by
  refine g_start (cc := cX3_isAncestor) (maxL := 5) (ret := (some .boolean)) (by decide) rfl (Nat.le_of_ble_eq_true rfl) ?_
  intro p e s m below meth c A ls Q hx hb hml hret hts hown hlk hE hP hK hD hA hl hQ hS
  have hown : s.vm.findClass RX3 = some m.cls := hown
  have hl : lv_has ls 5 [(0, .ref (q 0)), (1, .int 1), (2, .int p1), (3, .int p2)] := hl
  have hs : ¬ xRange 1 2 = 0 := by decide +kernel
  refine lv_iload_n hx hb dX3_isAncestor_0 rfl (lv_at hl 1 rfl) ?_
  refine g_callS0 (As := [.int 1]) (rest := []) hx hb hml hown hts (ctX3_isStore l D cI cZ q 1) gX3_isAncestor_X3_isStore rfl rfl rfl hdX3_isStore ⟨Nat.le_of_ble_eq_true rfl, Nat.le_of_ble_eq_true rfl⟩ gEM_true trivial hP hK hS hA rfl hl.1 rfl (Nat.le_of_ble_eq_true rfl) dX3_isAncestor_1 ⟨Nat.zero_le _, Nat.zero_le _⟩ (fun H locs hP hS => ?_)
  refine W.eq (g2 := F0 m 4 ls [.int (xRange 1 2)]) rfl ?_
  refine lv_if_eq (tgt := 27) hx hb dX3_isAncestor_4 (by decide) (fun c_4 => ?_) (fun c_4 => ?_)
  · exact absurd c_4 hs
  · refine lv_aload_n hx hb dX3_isAncestor_7 rfl (lv_at hl 0 rfl) ?_
    refine lv_iload_n hx hb dX3_isAncestor_8 rfl (lv_at hl 2 rfl) ?_
    refine g_callV (As := [.int p1]) (rest := []) hx hb hml hown hts (ctX3_isCommit l D cI cZ q u n hn h60 p1) gX3_isAncestor_X3_isCommit rfl rfl rfl hdX3_isCommit ⟨Nat.le_of_ble_eq_true rfl, Nat.le_of_ble_eq_true rfl⟩ gEM_true trivial hP hK hD hS hA 0 rfl rfl rfl hl.1 rfl (Nat.le_of_ble_eq_true rfl) dX3_isAncestor_9 ⟨Nat.zero_le _, Nat.zero_le _⟩ (fun H locs hP hD hS => ?_)
    refine W.eq (g2 := F0 m 12 ls [.int (xRange p1 (nI n))]) rfl ?_
    refine lv_if_eq (tgt := 27) hx hb dX3_isAncestor_12 (by decide) (fun c_12 => ?_) (fun c_12 => ?_)
    · refine lv_iconst (v := 0) hx hb dX3_isAncestor_27 (by decide +kernel) ?_
      refine lv_istore (lv' := [(4, .int 0), (0, .ref (q 0)), (1, .int 1), (2, .int p1), (3, .int p2)]) hx hb dX3_isAncestor_28 hl (by decide) rfl (fun ls hl => ?_)
      refine lv_aload_n hx hb dX3_isAncestor_30 rfl (lv_at hl 1 rfl) ?_
      refine lv_iload hx hb dX3_isAncestor_31 (lv_at hl 0 rfl) ?_
      refine lv_if_eq (tgt := 40) hx hb dX3_isAncestor_33 (by decide) (fun c_33 => ?_) (fun c_33 => ?_)
      · refine lv_iconst (v := 1) hx hb dX3_isAncestor_40 (by decide +kernel) ?_
        refine g_callV (As := [.int 1]) (rest := []) hx hb hml hown hts (ctX3_refused l D cI cZ q u 1) gX3_isAncestor_X3_refused rfl rfl rfl hdX3_refused ⟨Nat.le_of_ble_eq_true rfl, Nat.le_of_ble_eq_true rfl⟩ gEM_true trivial hP hK hD hS hA 0 rfl rfl rfl hl.1 rfl (Nat.le_of_ble_eq_true rfl) dX3_isAncestor_41 ⟨Nat.zero_le _, Nat.zero_le _⟩ (fun H locs hP hD hS => ?_)
        obtain ⟨hP, hD⟩ := g_toPD hP hD (MW_ext (Y := (mS u 14 (fun _ => 1))) (by refine ⟨?_, ?_, ?_, ?_, ?_, ?_, ?_, ?_, ?_, ?_, ?_, ?_, ?_, ?_, ?_, ?_, ?_, ?_⟩ <;> simp only [mS_at, ↓reduceIte, Nat.reduceEqDiff] <;> rfl))
        refine W.eq (g2 := F0 m 44 ls [.int (if 1 = 0 then 0 else 1)]) rfl ?_
        refine lv_if_eq (tgt := 49) hx hb dX3_isAncestor_44 (by decide) (fun c_44 => ?_) (fun c_44 => ?_)
        · exact absurd c_44 (by decide)
        · refine lv_iconst (v := 0) hx hb dX3_isAncestor_47 (by decide +kernel) ?_
          refine g_zret (u1 := (mS u 14 (fun _ => 1))) hx hb hret hlk hQ hP hD hS dX3_isAncestor_48 ?_ ?_ ?_
          · exact rfl
          · exact rfl
          · exact rfl
      · exact absurd (show (0 : Int32) = 0 from rfl) c_33
    · refine lv_aload_n hx hb dX3_isAncestor_15 rfl (lv_at hl 0 rfl) ?_
      refine lv_iload_n hx hb dX3_isAncestor_16 rfl (lv_at hl 3 rfl) ?_
      refine g_callV (As := [.int p2]) (rest := []) hx hb hml hown hts (ctX3_isCommit l D cI cZ q u n hn h60 p2) gX3_isAncestor_X3_isCommit rfl rfl rfl hdX3_isCommit ⟨Nat.le_of_ble_eq_true rfl, Nat.le_of_ble_eq_true rfl⟩ gEM_true trivial hP hK hD hS hA 0 rfl rfl rfl hl.1 rfl (Nat.le_of_ble_eq_true rfl) dX3_isAncestor_17 ⟨Nat.zero_le _, Nat.zero_le _⟩ (fun H locs hP hD hS => ?_)
      refine W.eq (g2 := F0 m 20 ls [.int (xRange p2 (nI n))]) rfl ?_
      refine lv_if_eq (tgt := 27) hx hb dX3_isAncestor_20 (by decide) (fun c_20 => ?_) (fun c_20 => ?_)
      · refine lv_iconst (v := 0) hx hb dX3_isAncestor_27 (by decide +kernel) ?_
        refine lv_istore (lv' := [(4, .int 0), (0, .ref (q 0)), (1, .int 1), (2, .int p1), (3, .int p2)]) hx hb dX3_isAncestor_28 hl (by decide) rfl (fun ls hl => ?_)
        refine lv_aload_n hx hb dX3_isAncestor_30 rfl (lv_at hl 1 rfl) ?_
        refine lv_iload hx hb dX3_isAncestor_31 (lv_at hl 0 rfl) ?_
        refine lv_if_eq (tgt := 40) hx hb dX3_isAncestor_33 (by decide) (fun c_33 => ?_) (fun c_33 => ?_)
        · refine lv_iconst (v := 1) hx hb dX3_isAncestor_40 (by decide +kernel) ?_
          refine g_callV (As := [.int 1]) (rest := []) hx hb hml hown hts (ctX3_refused l D cI cZ q u 1) gX3_isAncestor_X3_refused rfl rfl rfl hdX3_refused ⟨Nat.le_of_ble_eq_true rfl, Nat.le_of_ble_eq_true rfl⟩ gEM_true trivial hP hK hD hS hA 0 rfl rfl rfl hl.1 rfl (Nat.le_of_ble_eq_true rfl) dX3_isAncestor_41 ⟨Nat.zero_le _, Nat.zero_le _⟩ (fun H locs hP hD hS => ?_)
          obtain ⟨hP, hD⟩ := g_toPD hP hD (MW_ext (Y := (mS u 14 (fun _ => 1))) (by refine ⟨?_, ?_, ?_, ?_, ?_, ?_, ?_, ?_, ?_, ?_, ?_, ?_, ?_, ?_, ?_, ?_, ?_, ?_⟩ <;> simp only [mS_at, ↓reduceIte, Nat.reduceEqDiff] <;> rfl))
          refine W.eq (g2 := F0 m 44 ls [.int (if 1 = 0 then 0 else 1)]) rfl ?_
          refine lv_if_eq (tgt := 49) hx hb dX3_isAncestor_44 (by decide) (fun c_44 => ?_) (fun c_44 => ?_)
          · exact absurd c_44 (by decide)
          · refine lv_iconst (v := 0) hx hb dX3_isAncestor_47 (by decide +kernel) ?_
            refine g_zret (u1 := (mS u 14 (fun _ => 1))) hx hb hret hlk hQ hP hD hS dX3_isAncestor_48 ?_ ?_ ?_
            · exact rfl
            · exact rfl
            · exact rfl
        · exact absurd (show (0 : Int32) = 0 from rfl) c_33
      · exact absurd (h.resolve_left c_12) c_20
abbrev rmX3_has_ns : Room := { frames := 2, cells := 0, slots := 0, locals := 42 }
set_option maxHeartbeats 4000000 in
set_option maxRecDepth 100000 in
theorem ctX3_has_ns (l : Launch) (D : va_G) (cI cZ : ClassId) (q : Nat → Nat) (u : SM) (p0 p1 : Int32) (h : xRange p0 2 = 0) : gM l yX3_has wsX3_has rmX3_has_ns D [(cI, .int), (cZ, .boolean)] (MW cI cZ q) (fun _ => True) [.ref (q 0), .int p0, .int p1] u (some (.int 0)) (mS u 14 (fun _ => 1)) := by
  refine g_start (cc := cX3_has) (maxL := 3) (ret := (some .boolean)) (by decide) rfl (Nat.le_of_ble_eq_true rfl) ?_
  intro p e s m below meth c A ls Q hx hb hml hret hts hown hlk hE hP hK hD hA hl hQ hS
  have hown : s.vm.findClass RX3 = some m.cls := hown
  have hl : lv_has ls 3 [(0, .ref (q 0)), (1, .int p0), (2, .int p1)] := hl
  refine lv_aload_n hx hb dX3_has_0 rfl (lv_at hl 0 rfl) ?_
  refine lv_iload_n hx hb dX3_has_1 rfl (lv_at hl 1 rfl) ?_
  refine g_callS0 (As := [.int p0]) (rest := [.ref (q 0)]) hx hb hml hown hts (ctX3_isStore l D cI cZ q p0) gX3_has_X3_isStore rfl rfl rfl hdX3_isStore ⟨Nat.le_of_ble_eq_true rfl, Nat.le_of_ble_eq_true rfl⟩ gEM_true trivial hP hK hS hA rfl hl.1 rfl (Nat.le_of_ble_eq_true rfl) dX3_has_2 ⟨Nat.zero_le _, Nat.zero_le _⟩ (fun H locs hP hS => ?_)
  refine W.eq (g2 := F0 m 5 ls [.int (xRange p0 2), .ref (q 0)]) rfl ?_
  refine lv_if_eq (tgt := 20) hx hb dX3_has_5 (by decide) (fun c_5 => ?_) (fun c_5 => ?_)
  · refine lv_iconst (v := 1) hx hb dX3_has_20 (by decide +kernel) ?_
    refine g_callV (As := [.int 1]) (rest := []) hx hb hml hown hts (ctX3_refused l D cI cZ q u 1) gX3_has_X3_refused rfl rfl rfl hdX3_refused ⟨Nat.le_of_ble_eq_true rfl, Nat.le_of_ble_eq_true rfl⟩ gEM_true trivial hP hK hD hS hA 0 rfl rfl rfl hl.1 rfl (Nat.le_of_ble_eq_true rfl) dX3_has_21 ⟨Nat.zero_le _, Nat.zero_le _⟩ (fun H locs hP hD hS => ?_)
    obtain ⟨hP, hD⟩ := g_toPD hP hD (MW_ext (Y := (mS u 14 (fun _ => 1))) (by refine ⟨?_, ?_, ?_, ?_, ?_, ?_, ?_, ?_, ?_, ?_, ?_, ?_, ?_, ?_, ?_, ?_, ?_, ?_⟩ <;> simp only [mS_at, ↓reduceIte, Nat.reduceEqDiff] <;> rfl))
    refine W.eq (g2 := F0 m 24 ls [.int (if 1 = 0 then 0 else 1)]) rfl ?_
    refine lv_if_ne (tgt := 40) hx hb dX3_has_24 (by decide) (fun c_24 => ?_) (fun c_24 => ?_)
    · refine lv_iconst (v := 0) hx hb dX3_has_40 (by decide +kernel) ?_
      refine g_zret (u1 := (mS u 14 (fun _ => 1))) hx hb hret hlk hQ hP hD hS dX3_has_41 ?_ ?_ ?_
      · exact rfl
      · exact rfl
      · exact rfl
    · exact absurd c_24 (by decide)
  · exact absurd h c_5
abbrev rmX3_hasFile_ns : Room := { frames := 2, cells := 0, slots := 0, locals := 42 }
set_option maxHeartbeats 4000000 in
set_option maxRecDepth 100000 in
theorem ctX3_hasFile_ns (l : Launch) (D : va_G) (cI cZ : ClassId) (q : Nat → Nat) (u : SM) (p0 p1 : Int32) (h : xRange p0 2 = 0) : gM l yX3_hasFile wsX3_hasFile rmX3_hasFile_ns D [(cI, .int), (cZ, .boolean)] (MW cI cZ q) (fun _ => True) [.ref (q 0), .int p0, .int p1] u (some (.int 0)) (mS u 14 (fun _ => 1)) := by
  refine g_start (cc := cX3_hasFile) (maxL := 3) (ret := (some .boolean)) (by decide) rfl (Nat.le_of_ble_eq_true rfl) ?_
  intro p e s m below meth c A ls Q hx hb hml hret hts hown hlk hE hP hK hD hA hl hQ hS
  have hown : s.vm.findClass RX3 = some m.cls := hown
  have hl : lv_has ls 3 [(0, .ref (q 0)), (1, .int p0), (2, .int p1)] := hl
  refine lv_aload_n hx hb dX3_hasFile_0 rfl (lv_at hl 0 rfl) ?_
  refine lv_iload_n hx hb dX3_hasFile_1 rfl (lv_at hl 1 rfl) ?_
  refine g_callS0 (As := [.int p0]) (rest := [.ref (q 0)]) hx hb hml hown hts (ctX3_isStore l D cI cZ q p0) gX3_hasFile_X3_isStore rfl rfl rfl hdX3_isStore ⟨Nat.le_of_ble_eq_true rfl, Nat.le_of_ble_eq_true rfl⟩ gEM_true trivial hP hK hS hA rfl hl.1 rfl (Nat.le_of_ble_eq_true rfl) dX3_hasFile_2 ⟨Nat.zero_le _, Nat.zero_le _⟩ (fun H locs hP hS => ?_)
  refine W.eq (g2 := F0 m 5 ls [.int (xRange p0 2), .ref (q 0)]) rfl ?_
  refine lv_if_ne (tgt := 12) hx hb dX3_hasFile_5 (by decide) (fun c_5 => ?_) (fun c_5 => ?_)
  · exact absurd h c_5
  · refine lv_iconst (v := 1) hx hb dX3_hasFile_8 (by decide +kernel) ?_
    refine lv_goto (tgt := 27) hx hb dX3_hasFile_9 (by decide) ?_
    refine g_callV (As := [.int 1]) (rest := []) hx hb hml hown hts (ctX3_refused l D cI cZ q u 1) gX3_hasFile_X3_refused rfl rfl rfl hdX3_refused ⟨Nat.le_of_ble_eq_true rfl, Nat.le_of_ble_eq_true rfl⟩ gEM_true trivial hP hK hD hS hA 0 rfl rfl rfl hl.1 rfl (Nat.le_of_ble_eq_true rfl) dX3_hasFile_27 ⟨Nat.zero_le _, Nat.zero_le _⟩ (fun H locs hP hD hS => ?_)
    obtain ⟨hP, hD⟩ := g_toPD hP hD (MW_ext (Y := (mS u 14 (fun _ => 1))) (by refine ⟨?_, ?_, ?_, ?_, ?_, ?_, ?_, ?_, ?_, ?_, ?_, ?_, ?_, ?_, ?_, ?_, ?_, ?_⟩ <;> simp only [mS_at, ↓reduceIte, Nat.reduceEqDiff] <;> rfl))
    refine W.eq (g2 := F0 m 30 ls [.int (if 1 = 0 then 0 else 1)]) rfl ?_
    refine lv_if_ne (tgt := 51) hx hb dX3_hasFile_30 (by decide) (fun c_30 => ?_) (fun c_30 => ?_)
    · refine lv_iconst (v := 0) hx hb dX3_hasFile_51 (by decide +kernel) ?_
      refine g_zret (u1 := (mS u 14 (fun _ => 1))) hx hb hret hlk hQ hP hD hS dX3_hasFile_52 ?_ ?_ ?_
      · exact rfl
      · exact rfl
      · exact rfl
    · exact absurd c_30 (by decide)
abbrev rmX3_ref_ns : Room := { frames := 2, cells := 0, slots := 0, locals := 42 }
set_option maxHeartbeats 4000000 in
set_option maxRecDepth 100000 in
theorem ctX3_ref_ns (l : Launch) (D : va_G) (cI cZ : ClassId) (q : Nat → Nat) (u : SM) (p0 p1 : Int32) (h : xRange p0 2 = 0) : gM l yX3_ref wsX3_ref rmX3_ref_ns D [(cI, .int), (cZ, .boolean)] (MW cI cZ q) (fun _ => True) [.ref (q 0), .int p0, .int p1] u (some (.int 0)) (mS u 14 (fun _ => 1)) := by
  refine g_start (cc := cX3_ref) (maxL := 3) (ret := (some .int)) (by decide) rfl (Nat.le_of_ble_eq_true rfl) ?_
  intro p e s m below meth c A ls Q hx hb hml hret hts hown hlk hE hP hK hD hA hl hQ hS
  have hown : s.vm.findClass RX3 = some m.cls := hown
  have hl : lv_has ls 3 [(0, .ref (q 0)), (1, .int p0), (2, .int p1)] := hl
  refine lv_aload_n hx hb dX3_ref_0 rfl (lv_at hl 0 rfl) ?_
  refine lv_iload_n hx hb dX3_ref_1 rfl (lv_at hl 1 rfl) ?_
  refine g_callS0 (As := [.int p0]) (rest := [.ref (q 0)]) hx hb hml hown hts (ctX3_isStore l D cI cZ q p0) gX3_ref_X3_isStore rfl rfl rfl hdX3_isStore ⟨Nat.le_of_ble_eq_true rfl, Nat.le_of_ble_eq_true rfl⟩ gEM_true trivial hP hK hS hA rfl hl.1 rfl (Nat.le_of_ble_eq_true rfl) dX3_ref_2 ⟨Nat.zero_le _, Nat.zero_le _⟩ (fun H locs hP hS => ?_)
  refine W.eq (g2 := F0 m 5 ls [.int (xRange p0 2), .ref (q 0)]) rfl ?_
  refine lv_if_eq (tgt := 19) hx hb dX3_ref_5 (by decide) (fun c_5 => ?_) (fun c_5 => ?_)
  · refine lv_iconst (v := 1) hx hb dX3_ref_19 (by decide +kernel) ?_
    refine g_callV (As := [.int 1]) (rest := []) hx hb hml hown hts (ctX3_refused l D cI cZ q u 1) gX3_ref_X3_refused rfl rfl rfl hdX3_refused ⟨Nat.le_of_ble_eq_true rfl, Nat.le_of_ble_eq_true rfl⟩ gEM_true trivial hP hK hD hS hA 0 rfl rfl rfl hl.1 rfl (Nat.le_of_ble_eq_true rfl) dX3_ref_20 ⟨Nat.zero_le _, Nat.zero_le _⟩ (fun H locs hP hD hS => ?_)
    obtain ⟨hP, hD⟩ := g_toPD hP hD (MW_ext (Y := (mS u 14 (fun _ => 1))) (by refine ⟨?_, ?_, ?_, ?_, ?_, ?_, ?_, ?_, ?_, ?_, ?_, ?_, ?_, ?_, ?_, ?_, ?_, ?_⟩ <;> simp only [mS_at, ↓reduceIte, Nat.reduceEqDiff] <;> rfl))
    refine W.eq (g2 := F0 m 23 ls [.int (if 1 = 0 then 0 else 1)]) rfl ?_
    refine lv_if_eq (tgt := 30) hx hb dX3_ref_23 (by decide) (fun c_23 => ?_) (fun c_23 => ?_)
    · exact absurd c_23 (by decide)
    · refine lv_iconst (v := 0) hx hb dX3_ref_26 (by decide +kernel) ?_
      refine lv_goto (tgt := 40) hx hb dX3_ref_27 (by decide) ?_
      refine g_iret (u1 := (mS u 14 (fun _ => 1))) hx hb hret hlk hQ hP hD hS dX3_ref_40 ?_ ?_
      · exact rfl
      · exact rfl
  · exact absurd h c_5
abbrev rmX3_setRef_ns : Room := { frames := 2, cells := 0, slots := 0, locals := 42 }
set_option maxHeartbeats 4000000 in
set_option maxRecDepth 100000 in
theorem ctX3_setRef_ns (l : Launch) (D : va_G) (cI cZ : ClassId) (q : Nat → Nat) (u : SM) (p0 p1 p2 : Int32) (h : xRange p0 2 = 0) : gM l yX3_setRef wsX3_setRef rmX3_setRef_ns D [(cI, .int), (cZ, .boolean)] (MW cI cZ q) (fun _ => True) [.ref (q 0), .int p0, .int p1, .int p2] u (some (.int 0)) (mS u 14 (fun _ => 1)) := by
  refine g_start (cc := cX3_setRef) (maxL := 6) (ret := (some .int)) (by decide) rfl (Nat.le_of_ble_eq_true rfl) ?_
  intro p e s m below meth c A ls Q hx hb hml hret hts hown hlk hE hP hK hD hA hl hQ hS
  have hown : s.vm.findClass RX3 = some m.cls := hown
  have hl : lv_has ls 6 [(0, .ref (q 0)), (1, .int p0), (2, .int p1), (3, .int p2)] := hl
  refine lv_iload_n hx hb dX3_setRef_0 rfl (lv_at hl 1 rfl) ?_
  refine g_callS0 (As := [.int p0]) (rest := []) hx hb hml hown hts (ctX3_isStore l D cI cZ q p0) gX3_setRef_X3_isStore rfl rfl rfl hdX3_isStore ⟨Nat.le_of_ble_eq_true rfl, Nat.le_of_ble_eq_true rfl⟩ gEM_true trivial hP hK hS hA rfl hl.1 rfl (Nat.le_of_ble_eq_true rfl) dX3_setRef_1 ⟨Nat.zero_le _, Nat.zero_le _⟩ (fun H locs hP hS => ?_)
  refine W.eq (g2 := F0 m 4 ls [.int (xRange p0 2)]) rfl ?_
  refine lv_if_eq (tgt := 27) hx hb dX3_setRef_4 (by decide) (fun c_4 => ?_) (fun c_4 => ?_)
  · refine lv_iconst (v := 0) hx hb dX3_setRef_27 (by decide +kernel) ?_
    refine lv_istore (lv' := [(4, .int 0), (0, .ref (q 0)), (1, .int p0), (2, .int p1), (3, .int p2)]) hx hb dX3_setRef_28 hl (by decide) rfl (fun ls hl => ?_)
    refine lv_aload_n hx hb dX3_setRef_30 rfl (lv_at hl 1 rfl) ?_
    refine lv_iload hx hb dX3_setRef_31 (lv_at hl 0 rfl) ?_
    refine lv_if_eq (tgt := 40) hx hb dX3_setRef_33 (by decide) (fun c_33 => ?_) (fun c_33 => ?_)
    · refine lv_iconst (v := 1) hx hb dX3_setRef_40 (by decide +kernel) ?_
      refine g_callV (As := [.int 1]) (rest := []) hx hb hml hown hts (ctX3_refused l D cI cZ q u 1) gX3_setRef_X3_refused rfl rfl rfl hdX3_refused ⟨Nat.le_of_ble_eq_true rfl, Nat.le_of_ble_eq_true rfl⟩ gEM_true trivial hP hK hD hS hA 0 rfl rfl rfl hl.1 rfl (Nat.le_of_ble_eq_true rfl) dX3_setRef_41 ⟨Nat.zero_le _, Nat.zero_le _⟩ (fun H locs hP hD hS => ?_)
      obtain ⟨hP, hD⟩ := g_toPD hP hD (MW_ext (Y := (mS u 14 (fun _ => 1))) (by refine ⟨?_, ?_, ?_, ?_, ?_, ?_, ?_, ?_, ?_, ?_, ?_, ?_, ?_, ?_, ?_, ?_, ?_, ?_⟩ <;> simp only [mS_at, ↓reduceIte, Nat.reduceEqDiff] <;> rfl))
      refine W.eq (g2 := F0 m 44 ls [.int (if 1 = 0 then 0 else 1)]) rfl ?_
      refine lv_if_eq (tgt := 49) hx hb dX3_setRef_44 (by decide) (fun c_44 => ?_) (fun c_44 => ?_)
      · exact absurd c_44 (by decide)
      · refine lv_iconst (v := 0) hx hb dX3_setRef_47 (by decide +kernel) ?_
        refine g_iret (u1 := (mS u 14 (fun _ => 1))) hx hb hret hlk hQ hP hD hS dX3_setRef_48 ?_ ?_
        · exact rfl
        · exact rfl
    · exact absurd (show (0 : Int32) = 0 from rfl) c_33
  · exact absurd h c_4
abbrev rmX3_isAncestor_ns : Room := { frames := 2, cells := 0, slots := 0, locals := 42 }
set_option maxHeartbeats 4000000 in
set_option maxRecDepth 100000 in
theorem ctX3_isAncestor_ns (l : Launch) (D : va_G) (cI cZ : ClassId) (q : Nat → Nat) (u : SM) (p0 p1 p2 : Int32) (h : xRange p0 2 = 0) : gM l yX3_isAncestor wsX3_isAncestor rmX3_isAncestor_ns D [(cI, .int), (cZ, .boolean)] (MW cI cZ q) (fun _ => True) [.ref (q 0), .int p0, .int p1, .int p2] u (some (.int 0)) (mS u 14 (fun _ => 1)) := by
  refine g_start (cc := cX3_isAncestor) (maxL := 5) (ret := (some .boolean)) (by decide) rfl (Nat.le_of_ble_eq_true rfl) ?_
  intro p e s m below meth c A ls Q hx hb hml hret hts hown hlk hE hP hK hD hA hl hQ hS
  have hown : s.vm.findClass RX3 = some m.cls := hown
  have hl : lv_has ls 5 [(0, .ref (q 0)), (1, .int p0), (2, .int p1), (3, .int p2)] := hl
  refine lv_iload_n hx hb dX3_isAncestor_0 rfl (lv_at hl 1 rfl) ?_
  refine g_callS0 (As := [.int p0]) (rest := []) hx hb hml hown hts (ctX3_isStore l D cI cZ q p0) gX3_isAncestor_X3_isStore rfl rfl rfl hdX3_isStore ⟨Nat.le_of_ble_eq_true rfl, Nat.le_of_ble_eq_true rfl⟩ gEM_true trivial hP hK hS hA rfl hl.1 rfl (Nat.le_of_ble_eq_true rfl) dX3_isAncestor_1 ⟨Nat.zero_le _, Nat.zero_le _⟩ (fun H locs hP hS => ?_)
  refine W.eq (g2 := F0 m 4 ls [.int (xRange p0 2)]) rfl ?_
  refine lv_if_eq (tgt := 27) hx hb dX3_isAncestor_4 (by decide) (fun c_4 => ?_) (fun c_4 => ?_)
  · refine lv_iconst (v := 0) hx hb dX3_isAncestor_27 (by decide +kernel) ?_
    refine lv_istore (lv' := [(4, .int 0), (0, .ref (q 0)), (1, .int p0), (2, .int p1), (3, .int p2)]) hx hb dX3_isAncestor_28 hl (by decide) rfl (fun ls hl => ?_)
    refine lv_aload_n hx hb dX3_isAncestor_30 rfl (lv_at hl 1 rfl) ?_
    refine lv_iload hx hb dX3_isAncestor_31 (lv_at hl 0 rfl) ?_
    refine lv_if_eq (tgt := 40) hx hb dX3_isAncestor_33 (by decide) (fun c_33 => ?_) (fun c_33 => ?_)
    · refine lv_iconst (v := 1) hx hb dX3_isAncestor_40 (by decide +kernel) ?_
      refine g_callV (As := [.int 1]) (rest := []) hx hb hml hown hts (ctX3_refused l D cI cZ q u 1) gX3_isAncestor_X3_refused rfl rfl rfl hdX3_refused ⟨Nat.le_of_ble_eq_true rfl, Nat.le_of_ble_eq_true rfl⟩ gEM_true trivial hP hK hD hS hA 0 rfl rfl rfl hl.1 rfl (Nat.le_of_ble_eq_true rfl) dX3_isAncestor_41 ⟨Nat.zero_le _, Nat.zero_le _⟩ (fun H locs hP hD hS => ?_)
      obtain ⟨hP, hD⟩ := g_toPD hP hD (MW_ext (Y := (mS u 14 (fun _ => 1))) (by refine ⟨?_, ?_, ?_, ?_, ?_, ?_, ?_, ?_, ?_, ?_, ?_, ?_, ?_, ?_, ?_, ?_, ?_, ?_⟩ <;> simp only [mS_at, ↓reduceIte, Nat.reduceEqDiff] <;> rfl))
      refine W.eq (g2 := F0 m 44 ls [.int (if 1 = 0 then 0 else 1)]) rfl ?_
      refine lv_if_eq (tgt := 49) hx hb dX3_isAncestor_44 (by decide) (fun c_44 => ?_) (fun c_44 => ?_)
      · exact absurd c_44 (by decide)
      · refine lv_iconst (v := 0) hx hb dX3_isAncestor_47 (by decide +kernel) ?_
        refine g_zret (u1 := (mS u 14 (fun _ => 1))) hx hb hret hlk hQ hP hD hS dX3_isAncestor_48 ?_ ?_ ?_
        · exact rfl
        · exact rfl
        · exact rfl
    · exact absurd (show (0 : Int32) = 0 from rfl) c_33
  · exact absurd h c_4
theorem inX3_collect_RX3 : ∀ w ∈ u_ws RX3 TX3 18, w ∈ wsX3_collect := fun w h => List.mem_cons_of_mem _ (List.mem_append_right _ h)
abbrev rmX3_collect_ns : Room := { frames := 2, cells := 0, slots := 0, locals := 42 }
set_option maxHeartbeats 4000000 in
set_option maxRecDepth 100000 in
theorem ctX3_collect_ns (l : Launch) (D : va_G) (cI cZ : ClassId) (q : Nat → Nat) (u : SM) (p0 : Int32) (h : xRange p0 2 = 0) : gM l yX3_collect wsX3_collect rmX3_collect_ns D [(cI, .int), (cZ, .boolean)] (MW cI cZ q) (fun _ => True) [.ref (q 0), .int p0] u (some (.int 0)) (mS u 14 (fun _ => 1)) := by
  refine g_start (cc := cX3_collect) (maxL := 4) (ret := (some .int)) (by decide) rfl (Nat.le_of_ble_eq_true rfl) ?_
  intro p e s m below meth c A ls Q hx hb hml hret hts hown hlk hE hP hK hD hA hl hQ hS
  have hown : s.vm.findClass RX3 = some m.cls := hown
  have hl : lv_has ls 4 [(0, .ref (q 0)), (1, .int p0)] := hl
  refine lv_aload_n hx hb dX3_collect_0 rfl (lv_at hl 0 rfl) ?_
  refine lv_iload_n hx hb dX3_collect_1 rfl (lv_at hl 1 rfl) ?_
  refine g_callS0 (As := [.int p0]) (rest := [.ref (q 0)]) hx hb hml hown hts (ctX3_isStore l D cI cZ q p0) gX3_collect_X3_isStore rfl rfl rfl hdX3_isStore ⟨Nat.le_of_ble_eq_true rfl, Nat.le_of_ble_eq_true rfl⟩ gEM_true trivial hP hK hS hA rfl hl.1 rfl (Nat.le_of_ble_eq_true rfl) dX3_collect_2 ⟨Nat.zero_le _, Nat.zero_le _⟩ (fun H locs hP hS => ?_)
  refine W.eq (g2 := F0 m 5 ls [.int (xRange p0 2), .ref (q 0)]) rfl ?_
  refine lv_if_eq (tgt := 12) hx hb dX3_collect_5 (by decide) (fun c_5 => ?_) (fun c_5 => ?_)
  · refine lv_iconst (v := 1) hx hb dX3_collect_12 (by decide +kernel) ?_
    refine g_callV (As := [.int 1]) (rest := []) hx hb hml hown hts (ctX3_refused l D cI cZ q u 1) gX3_collect_X3_refused rfl rfl rfl hdX3_refused ⟨Nat.le_of_ble_eq_true rfl, Nat.le_of_ble_eq_true rfl⟩ gEM_true trivial hP hK hD hS hA 0 rfl rfl rfl hl.1 rfl (Nat.le_of_ble_eq_true rfl) dX3_collect_13 ⟨Nat.zero_le _, Nat.zero_le _⟩ (fun H locs hP hD hS => ?_)
    obtain ⟨hP, hD⟩ := g_toPD hP hD (MW_ext (Y := (mS u 14 (fun _ => 1))) (by refine ⟨?_, ?_, ?_, ?_, ?_, ?_, ?_, ?_, ?_, ?_, ?_, ?_, ?_, ?_, ?_, ?_, ?_, ?_⟩ <;> simp only [mS_at, ↓reduceIte, Nat.reduceEqDiff] <;> rfl))
    refine W.eq (g2 := F0 m 16 ls [.int (if 1 = 0 then 0 else 1)]) rfl ?_
    refine lv_if_eq (tgt := 21) hx hb dX3_collect_16 (by decide) (fun c_16 => ?_) (fun c_16 => ?_)
    · exact absurd c_16 (by decide)
    · refine lv_iconst (v := 0) hx hb dX3_collect_19 (by decide +kernel) ?_
      refine g_iret (u1 := (mS u 14 (fun _ => 1))) hx hb hret hlk hQ hP hD hS dX3_collect_20 ?_ ?_
      · exact rfl
      · exact rfl
  · exact absurd h c_5
theorem lkX3_fileAt_16 : Cond.fieldLink RX3 16 "FetchHouseModel" "slots" "[I" ∈ wsX3_fileAt := List.mem_of_getElem? (i := 1) (by decide +kernel)
theorem inX3_fileAt_RX3 : ∀ w ∈ u_ws RX3 TX3 18, w ∈ wsX3_fileAt := fun w h => List.mem_cons_of_mem _ (List.mem_append_right _ h)
abbrev rmX3_fileAt : Room := { frames := 2, cells := 0, slots := 0, locals := 43 }
set_option maxHeartbeats 4000000 in
set_option maxRecDepth 100000 in
theorem ctX3_fileAt (l : Launch) (D : va_G) (cI cZ : ClassId) (q : Nat → Nat) (u : SM) (n : Nat) (hn : u 15 0 = nI n) (h60 : n ≤ 60) (p0 p1 : Int32) (h1 : ¬ xRange p0 (nI n) = 0) (h2 : ¬ xRange p1 4 = 0) : gM l yX3_fileAt wsX3_fileAt rmX3_fileAt D [(cI, .int), (cZ, .boolean)] (MW cI cZ q) (fun _ => True) [.ref (q 0), .int p0, .int p1] u (some (.int (u 2 (4 * p0.toNatClampNeg + p1.toNatClampNeg)))) (mS u 14 (fun _ => 0)) := by
  refine g_start (cc := cX3_fileAt) (maxL := 3) (ret := (some .int)) (by decide) rfl (Nat.le_of_ble_eq_true rfl) ?_
  intro p e s m below meth c A ls Q hx hb hml hret hts hown hlk hE hP hK hD hA hl hQ hS
  have hown : s.vm.findClass RX3 = some m.cls := hown
  have hl : lv_has ls 3 [(0, .ref (q 0)), (1, .int p0), (2, .int p1)] := hl
  obtain ⟨j, hj, hj2⟩ := xRange_ne rfl (by omega) h1
  have hjc : p0.toNatClampNeg = j := by rw [hj2, nI_clamp (by omega)]
  have hje : p0 = nI p0.toNatClampNeg := by rw [hjc]; exact hj2
  obtain ⟨t, ht, ht2⟩ := xRange_ne (n := 4) rfl (by omega) h2
  have htc : p1.toNatClampNeg = t := by rw [ht2, nI_clamp (by omega)]
  have hte : p1 = nI p1.toNatClampNeg := by rw [htc]; exact ht2
  refine lv_aload_n hx hb dX3_fileAt_0 rfl (lv_at hl 0 rfl) ?_
  refine lv_aload_n hx hb dX3_fileAt_1 rfl (lv_at hl 0 rfl) ?_
  refine lv_iload_n hx hb dX3_fileAt_2 rfl (lv_at hl 1 rfl) ?_
  refine g_callV (As := [.int p0]) (rest := [.ref (q 0)]) hx hb hml hown hts (ctX3_isCommit l D cI cZ q u n hn h60 p0) gX3_fileAt_X3_isCommit rfl rfl rfl hdX3_isCommit ⟨Nat.le_of_ble_eq_true rfl, Nat.le_of_ble_eq_true rfl⟩ gEM_true trivial hP hK hD hS hA 0 rfl rfl rfl hl.1 rfl (Nat.le_of_ble_eq_true rfl) dX3_fileAt_3 ⟨Nat.zero_le _, Nat.zero_le _⟩ (fun H locs hP hD hS => ?_)
  refine W.eq (g2 := F0 m 6 ls [.int (xRange p0 (nI n)), .ref (q 0)]) rfl ?_
  refine lv_if_eq (tgt := 22) hx hb dX3_fileAt_6 (by decide) (fun c_6 => ?_) (fun c_6 => ?_)
  · exact absurd c_6 h1
  · refine lv_iload_n hx hb dX3_fileAt_9 rfl (lv_at hl 2 rfl) ?_
    refine lv_iconst (v := 0) hx hb dX3_fileAt_10 (by decide +kernel) ?_
    refine lv_iconst (v := 3) hx hb dX3_fileAt_11 (by decide +kernel) ?_
    refine g_callS0 (As := [.int p1, .int 0, .int 3]) (rest := [.ref (q 0)]) hx hb hml hown hts (ctX3_in_4 l D cI cZ q p1) gX3_fileAt_X3_in rfl rfl rfl hdX3_in ⟨Nat.le_of_ble_eq_true rfl, Nat.le_of_ble_eq_true rfl⟩ gEM_true trivial hP hK hS hA rfl hl.1 rfl (Nat.le_of_ble_eq_true rfl) dX3_fileAt_12 ⟨Nat.zero_le _, Nat.zero_le _⟩ (fun H locs hP hS => ?_)
    refine W.eq (g2 := F0 m 15 ls [.int (xRange p1 4), .ref (q 0)]) rfl ?_
    refine lv_if_eq (tgt := 22) hx hb dX3_fileAt_15 (by decide) (fun c_15 => ?_) (fun c_15 => ?_)
    · exact absurd c_15 h2
    · refine lv_iconst (v := 0) hx hb dX3_fileAt_18 (by decide +kernel) ?_
      refine lv_goto (tgt := 23) hx hb dX3_fileAt_19 (by decide) ?_
      refine g_callV (As := [.int 0]) (rest := []) hx hb hml hown hts (ctX3_refused l D cI cZ q u 0) gX3_fileAt_X3_refused rfl rfl rfl hdX3_refused ⟨Nat.le_of_ble_eq_true rfl, Nat.le_of_ble_eq_true rfl⟩ gEM_true trivial hP hK hD hS hA 0 rfl rfl rfl hl.1 rfl (Nat.le_of_ble_eq_true rfl) dX3_fileAt_23 ⟨Nat.zero_le _, Nat.zero_le _⟩ (fun H locs hP hD hS => ?_)
      obtain ⟨hP, hD⟩ := g_toPD hP hD (MW_ext (Y := (mS u 14 (fun _ => 0))) (by refine ⟨?_, ?_, ?_, ?_, ?_, ?_, ?_, ?_, ?_, ?_, ?_, ?_, ?_, ?_, ?_, ?_, ?_, ?_⟩ <;> simp only [mS_at, ↓reduceIte, Nat.reduceEqDiff] <;> rfl))
      refine W.eq (g2 := F0 m 26 ls [.int (if 0 = 0 then 0 else 1)]) rfl ?_
      refine lv_if_eq (tgt := 33) hx hb dX3_fileAt_26 (by decide) (fun c_26 => ?_) (fun c_26 => ?_)
      · refine lv_aload_n hx hb dX3_fileAt_33 rfl (lv_at hl 0 rfl) ?_
        refine va_get (ci := 3) (v := .ref (q 3)) (C := RX3) (T := TX3) (N := 18) hx hb hts inX3_fileAt_RX3 hown hK hP 0 rfl rfl 4 (by decide) (hts _ lkX3_fileAt_16) (fun _ h9 => h9) rfl dX3_fileAt_34 ?_
        refine lv_iconst (v := 4) hx hb dX3_fileAt_37 (by decide +kernel) ?_
        refine lv_iload_n hx hb dX3_fileAt_38 rfl (lv_at hl 1 rfl) ?_
        refine lv_imul hx hb dX3_fileAt_39 ?_
        refine lv_iload_n hx hb dX3_fileAt_40 rfl (lv_at hl 2 rfl) ?_
        refine lv_iadd hx hb dX3_fileAt_41 ?_
        refine g_iald (n := 240) (f := (u 2)) hx hb hK hP 3 0 (by rw [MW_get_2, show (mS u 14 (fun _ => 0)) 2 = (u 2) from by simp only [mS_at, ↓reduceIte, Nat.reduceEqDiff]]) rfl (4 * p0.toNatClampNeg + p1.toNatClampNeg) (by omega) (by omega) (g_addE (g_mulE rfl hje) hte) dX3_fileAt_42 ?_
        refine g_iret (u1 := (mS u 14 (fun _ => 0))) hx hb hret hlk hQ hP hD hS dX3_fileAt_43 ?_ ?_
        · exact rfl
        · exact rfl
      · exact absurd (show (0 : Int32) = 0 from rfl) c_26
abbrev rmX3_fileAt_r : Room := { frames := 2, cells := 0, slots := 0, locals := 43 }
set_option maxHeartbeats 4000000 in
set_option maxRecDepth 100000 in
theorem ctX3_fileAt_r (l : Launch) (D : va_G) (cI cZ : ClassId) (q : Nat → Nat) (u : SM) (n : Nat) (hn : u 15 0 = nI n) (h60 : n ≤ 60) (p0 p1 : Int32) (h : xRange p0 (nI n) = 0 ∨ xRange p1 4 = 0) : gM l yX3_fileAt wsX3_fileAt rmX3_fileAt_r D [(cI, .int), (cZ, .boolean)] (MW cI cZ q) (fun _ => True) [.ref (q 0), .int p0, .int p1] u (some (.int 0)) (mS u 14 (fun _ => 1)) := by
  refine g_start (cc := cX3_fileAt) (maxL := 3) (ret := (some .int)) (by decide) rfl (Nat.le_of_ble_eq_true rfl) ?_
  intro p e s m below meth c A ls Q hx hb hml hret hts hown hlk hE hP hK hD hA hl hQ hS
  have hown : s.vm.findClass RX3 = some m.cls := hown
  have hl : lv_has ls 3 [(0, .ref (q 0)), (1, .int p0), (2, .int p1)] := hl
  refine lv_aload_n hx hb dX3_fileAt_0 rfl (lv_at hl 0 rfl) ?_
  refine lv_aload_n hx hb dX3_fileAt_1 rfl (lv_at hl 0 rfl) ?_
  refine lv_iload_n hx hb dX3_fileAt_2 rfl (lv_at hl 1 rfl) ?_
  refine g_callV (As := [.int p0]) (rest := [.ref (q 0)]) hx hb hml hown hts (ctX3_isCommit l D cI cZ q u n hn h60 p0) gX3_fileAt_X3_isCommit rfl rfl rfl hdX3_isCommit ⟨Nat.le_of_ble_eq_true rfl, Nat.le_of_ble_eq_true rfl⟩ gEM_true trivial hP hK hD hS hA 0 rfl rfl rfl hl.1 rfl (Nat.le_of_ble_eq_true rfl) dX3_fileAt_3 ⟨Nat.zero_le _, Nat.zero_le _⟩ (fun H locs hP hD hS => ?_)
  refine W.eq (g2 := F0 m 6 ls [.int (xRange p0 (nI n)), .ref (q 0)]) rfl ?_
  refine lv_if_eq (tgt := 22) hx hb dX3_fileAt_6 (by decide) (fun c_6 => ?_) (fun c_6 => ?_)
  · refine lv_iconst (v := 1) hx hb dX3_fileAt_22 (by decide +kernel) ?_
    refine g_callV (As := [.int 1]) (rest := []) hx hb hml hown hts (ctX3_refused l D cI cZ q u 1) gX3_fileAt_X3_refused rfl rfl rfl hdX3_refused ⟨Nat.le_of_ble_eq_true rfl, Nat.le_of_ble_eq_true rfl⟩ gEM_true trivial hP hK hD hS hA 0 rfl rfl rfl hl.1 rfl (Nat.le_of_ble_eq_true rfl) dX3_fileAt_23 ⟨Nat.zero_le _, Nat.zero_le _⟩ (fun H locs hP hD hS => ?_)
    obtain ⟨hP, hD⟩ := g_toPD hP hD (MW_ext (Y := (mS u 14 (fun _ => 1))) (by refine ⟨?_, ?_, ?_, ?_, ?_, ?_, ?_, ?_, ?_, ?_, ?_, ?_, ?_, ?_, ?_, ?_, ?_, ?_⟩ <;> simp only [mS_at, ↓reduceIte, Nat.reduceEqDiff] <;> rfl))
    refine W.eq (g2 := F0 m 26 ls [.int (if 1 = 0 then 0 else 1)]) rfl ?_
    refine lv_if_eq (tgt := 33) hx hb dX3_fileAt_26 (by decide) (fun c_26 => ?_) (fun c_26 => ?_)
    · exact absurd c_26 (by decide)
    · refine lv_iconst (v := 0) hx hb dX3_fileAt_29 (by decide +kernel) ?_
      refine lv_goto (tgt := 43) hx hb dX3_fileAt_30 (by decide) ?_
      refine g_iret (u1 := (mS u 14 (fun _ => 1))) hx hb hret hlk hQ hP hD hS dX3_fileAt_43 ?_ ?_
      · exact rfl
      · exact rfl
  · refine lv_iload_n hx hb dX3_fileAt_9 rfl (lv_at hl 2 rfl) ?_
    refine lv_iconst (v := 0) hx hb dX3_fileAt_10 (by decide +kernel) ?_
    refine lv_iconst (v := 3) hx hb dX3_fileAt_11 (by decide +kernel) ?_
    refine g_callS0 (As := [.int p1, .int 0, .int 3]) (rest := [.ref (q 0)]) hx hb hml hown hts (ctX3_in_4 l D cI cZ q p1) gX3_fileAt_X3_in rfl rfl rfl hdX3_in ⟨Nat.le_of_ble_eq_true rfl, Nat.le_of_ble_eq_true rfl⟩ gEM_true trivial hP hK hS hA rfl hl.1 rfl (Nat.le_of_ble_eq_true rfl) dX3_fileAt_12 ⟨Nat.zero_le _, Nat.zero_le _⟩ (fun H locs hP hS => ?_)
    refine W.eq (g2 := F0 m 15 ls [.int (xRange p1 4), .ref (q 0)]) rfl ?_
    refine lv_if_eq (tgt := 22) hx hb dX3_fileAt_15 (by decide) (fun c_15 => ?_) (fun c_15 => ?_)
    · refine lv_iconst (v := 1) hx hb dX3_fileAt_22 (by decide +kernel) ?_
      refine g_callV (As := [.int 1]) (rest := []) hx hb hml hown hts (ctX3_refused l D cI cZ q u 1) gX3_fileAt_X3_refused rfl rfl rfl hdX3_refused ⟨Nat.le_of_ble_eq_true rfl, Nat.le_of_ble_eq_true rfl⟩ gEM_true trivial hP hK hD hS hA 0 rfl rfl rfl hl.1 rfl (Nat.le_of_ble_eq_true rfl) dX3_fileAt_23 ⟨Nat.zero_le _, Nat.zero_le _⟩ (fun H locs hP hD hS => ?_)
      obtain ⟨hP, hD⟩ := g_toPD hP hD (MW_ext (Y := (mS u 14 (fun _ => 1))) (by refine ⟨?_, ?_, ?_, ?_, ?_, ?_, ?_, ?_, ?_, ?_, ?_, ?_, ?_, ?_, ?_, ?_, ?_, ?_⟩ <;> simp only [mS_at, ↓reduceIte, Nat.reduceEqDiff] <;> rfl))
      refine W.eq (g2 := F0 m 26 ls [.int (if 1 = 0 then 0 else 1)]) rfl ?_
      refine lv_if_eq (tgt := 33) hx hb dX3_fileAt_26 (by decide) (fun c_26 => ?_) (fun c_26 => ?_)
      · exact absurd c_26 (by decide)
      · refine lv_iconst (v := 0) hx hb dX3_fileAt_29 (by decide +kernel) ?_
        refine lv_goto (tgt := 43) hx hb dX3_fileAt_30 (by decide) ?_
        refine g_iret (u1 := (mS u 14 (fun _ => 1))) hx hb hret hlk hQ hP hD hS dX3_fileAt_43 ?_ ?_
        · exact rfl
        · exact rfl
    · exact absurd (h.resolve_left c_6) c_15
theorem inX3_isShallow_RX3 : ∀ w ∈ u_ws RX3 TX3 18, w ∈ wsX3_isShallow := fun w h => List.mem_cons_of_mem _ (List.mem_append_right _ h)
abbrev rmX3_isShallow : Room := { frames := 5, cells := 0, slots := 0, locals := 108 }
set_option maxHeartbeats 4000000 in
set_option maxRecDepth 100000 in
theorem ctX3_isShallow (l : Launch) (D : va_G) (cI cZ : ClassId) (q : Nat → Nat) (u : SM) (n : Nat) (hn : u 15 0 = nI n) (h60 : n ≤ 60) (p0 : Int32) (h1 : ¬ xRange p0 (nI n) = 0) : gM l yX3_isShallow wsX3_isShallow rmX3_isShallow D [(cI, .int), (cZ, .boolean)] (MW cI cZ q) (fun _ => True) [.ref (q 0), .int p0] u (some (.int (mShal n (u 3) (u 0) (u 1) p0.toNatClampNeg))) (mS u 14 (fun _ => 0)) := by
  refine g_start (cc := cX3_isShallow) (maxL := 2) (ret := (some .boolean)) (by decide) rfl (Nat.le_of_ble_eq_true rfl) ?_
  intro p e s m below meth c A ls Q hx hb hml hret hts hown hlk hE hP hK hD hA hl hQ hS
  have hown : s.vm.findClass RX3 = some m.cls := hown
  have hl : lv_has ls 2 [(0, .ref (q 0)), (1, .int p0)] := hl
  obtain ⟨j, hj, hj2⟩ := xRange_ne rfl (by omega) h1
  have hjc : p0.toNatClampNeg = j := by rw [hj2, nI_clamp (by omega)]
  rw [hj2] at hl
  have hl : lv_has ls 2 [(0, .ref (q 0)), (1, .int (nI j))] := hl
  rw [← hj2] at hl
  refine lv_aload_n hx hb dX3_isShallow_0 rfl (lv_at hl 0 rfl) ?_
  refine lv_aload_n hx hb dX3_isShallow_1 rfl (lv_at hl 0 rfl) ?_
  refine lv_iload_n hx hb dX3_isShallow_2 rfl (lv_at hl 1 rfl) ?_
  refine g_callV (As := [.int p0]) (rest := [.ref (q 0)]) hx hb hml hown hts (ctX3_isCommit l D cI cZ q u n hn h60 p0) gX3_isShallow_X3_isCommit rfl rfl rfl hdX3_isCommit ⟨Nat.le_of_ble_eq_true rfl, Nat.le_of_ble_eq_true rfl⟩ gEM_true trivial hP hK hD hS hA 0 rfl rfl rfl hl.1 rfl (Nat.le_of_ble_eq_true rfl) dX3_isShallow_3 ⟨Nat.zero_le _, Nat.zero_le _⟩ (fun H locs hP hD hS => ?_)
  refine W.eq (g2 := F0 m 6 ls [.int (xRange p0 (nI n)), .ref (q 0)]) rfl ?_
  refine lv_if_eq (tgt := 13) hx hb dX3_isShallow_6 (by decide) (fun c_6 => ?_) (fun c_6 => ?_)
  · exact absurd c_6 h1
  · refine lv_iconst (v := 0) hx hb dX3_isShallow_9 (by decide +kernel) ?_
    refine lv_goto (tgt := 14) hx hb dX3_isShallow_10 (by decide) ?_
    refine g_callV (As := [.int 0]) (rest := []) hx hb hml hown hts (ctX3_refused l D cI cZ q u 0) gX3_isShallow_X3_refused rfl rfl rfl hdX3_refused ⟨Nat.le_of_ble_eq_true rfl, Nat.le_of_ble_eq_true rfl⟩ gEM_true trivial hP hK hD hS hA 0 rfl rfl rfl hl.1 rfl (Nat.le_of_ble_eq_true rfl) dX3_isShallow_14 ⟨Nat.zero_le _, Nat.zero_le _⟩ (fun H locs hP hD hS => ?_)
    obtain ⟨hP, hD⟩ := g_toPD hP hD (MW_ext (Y := (mS u 14 (fun _ => 0))) (by refine ⟨?_, ?_, ?_, ?_, ?_, ?_, ?_, ?_, ?_, ?_, ?_, ?_, ?_, ?_, ?_, ?_, ?_, ?_⟩ <;> simp only [mS_at, ↓reduceIte, Nat.reduceEqDiff] <;> rfl))
    refine W.eq (g2 := F0 m 17 ls [.int (if 0 = 0 then 0 else 1)]) rfl ?_
    refine lv_if_ne (tgt := 32) hx hb dX3_isShallow_17 (by decide) (fun c_17 => ?_) (fun c_17 => ?_)
    · exact absurd rfl c_17
    · refine lv_aload_n hx hb dX3_isShallow_20 rfl (lv_at hl 0 rfl) ?_
      rw [hj2] at hl
      refine lv_iload_n hx hb dX3_isShallow_21 rfl (lv_at hl 1 rfl) ?_
      refine g_callV (As := [.int (nI j)]) (rest := []) hx hb hml hown hts (ctX3_shallow l D cI cZ q (mS u 14 (fun _ => 0)) n hn h60 j (by omega)) gX3_isShallow_X3_shallow rfl rfl rfl hdX3_shallow ⟨Nat.le_of_ble_eq_true rfl, Nat.le_of_ble_eq_true rfl⟩ gEM_true trivial hP hK hD hS hA 0 rfl rfl rfl hl.1 rfl (Nat.le_of_ble_eq_true rfl) dX3_isShallow_22 ⟨Nat.zero_le _, Nat.zero_le _⟩ (fun H locs hP hD hS => ?_)
      refine W.eq (g2 := F0 m 25 ls [.int (mShal n (u 3) (u 0) (u 1) j)]) rfl ?_
      refine lv_if_eq (tgt := 32) hx hb dX3_isShallow_25 (by decide) (fun c_25 => ?_) (fun c_25 => ?_)
      · refine lv_iconst (v := 0) hx hb dX3_isShallow_32 (by decide +kernel) ?_
        refine g_zret (u1 := (mS u 14 (fun _ => 0))) hx hb hret hlk hQ hP hD hS dX3_isShallow_33 ?_ ?_ ?_
        · exact rfl
        · exact (by rw [hjc, c_25])
        · exact rfl
      · refine lv_iconst (v := 1) hx hb dX3_isShallow_28 (by decide +kernel) ?_
        refine lv_goto (tgt := 33) hx hb dX3_isShallow_29 (by decide) ?_
        refine g_zret (u1 := (mS u 14 (fun _ => 0))) hx hb hret hlk hQ hP hD hS dX3_isShallow_33 ?_ ?_ ?_
        · exact rfl
        · exact (by rw [hjc, (mShal_01 _ _ _ _ _).resolve_left c_25])
        · exact rfl
abbrev rmX3_isShallow_r : Room := { frames := 2, cells := 0, slots := 0, locals := 43 }
set_option maxHeartbeats 4000000 in
set_option maxRecDepth 100000 in
theorem ctX3_isShallow_r (l : Launch) (D : va_G) (cI cZ : ClassId) (q : Nat → Nat) (u : SM) (n : Nat) (hn : u 15 0 = nI n) (h60 : n ≤ 60) (p0 : Int32) (h1 : xRange p0 (nI n) = 0) : gM l yX3_isShallow wsX3_isShallow rmX3_isShallow_r D [(cI, .int), (cZ, .boolean)] (MW cI cZ q) (fun _ => True) [.ref (q 0), .int p0] u (some (.int 0)) (mS u 14 (fun _ => 1)) := by
  refine g_start (cc := cX3_isShallow) (maxL := 2) (ret := (some .boolean)) (by decide) rfl (Nat.le_of_ble_eq_true rfl) ?_
  intro p e s m below meth c A ls Q hx hb hml hret hts hown hlk hE hP hK hD hA hl hQ hS
  have hown : s.vm.findClass RX3 = some m.cls := hown
  have hl : lv_has ls 2 [(0, .ref (q 0)), (1, .int p0)] := hl
  refine lv_aload_n hx hb dX3_isShallow_0 rfl (lv_at hl 0 rfl) ?_
  refine lv_aload_n hx hb dX3_isShallow_1 rfl (lv_at hl 0 rfl) ?_
  refine lv_iload_n hx hb dX3_isShallow_2 rfl (lv_at hl 1 rfl) ?_
  refine g_callV (As := [.int p0]) (rest := [.ref (q 0)]) hx hb hml hown hts (ctX3_isCommit l D cI cZ q u n hn h60 p0) gX3_isShallow_X3_isCommit rfl rfl rfl hdX3_isCommit ⟨Nat.le_of_ble_eq_true rfl, Nat.le_of_ble_eq_true rfl⟩ gEM_true trivial hP hK hD hS hA 0 rfl rfl rfl hl.1 rfl (Nat.le_of_ble_eq_true rfl) dX3_isShallow_3 ⟨Nat.zero_le _, Nat.zero_le _⟩ (fun H locs hP hD hS => ?_)
  refine W.eq (g2 := F0 m 6 ls [.int (xRange p0 (nI n)), .ref (q 0)]) rfl ?_
  refine lv_if_eq (tgt := 13) hx hb dX3_isShallow_6 (by decide) (fun c_6 => ?_) (fun c_6 => ?_)
  · refine lv_iconst (v := 1) hx hb dX3_isShallow_13 (by decide +kernel) ?_
    refine g_callV (As := [.int 1]) (rest := []) hx hb hml hown hts (ctX3_refused l D cI cZ q u 1) gX3_isShallow_X3_refused rfl rfl rfl hdX3_refused ⟨Nat.le_of_ble_eq_true rfl, Nat.le_of_ble_eq_true rfl⟩ gEM_true trivial hP hK hD hS hA 0 rfl rfl rfl hl.1 rfl (Nat.le_of_ble_eq_true rfl) dX3_isShallow_14 ⟨Nat.zero_le _, Nat.zero_le _⟩ (fun H locs hP hD hS => ?_)
    obtain ⟨hP, hD⟩ := g_toPD hP hD (MW_ext (Y := (mS u 14 (fun _ => 1))) (by refine ⟨?_, ?_, ?_, ?_, ?_, ?_, ?_, ?_, ?_, ?_, ?_, ?_, ?_, ?_, ?_, ?_, ?_, ?_⟩ <;> simp only [mS_at, ↓reduceIte, Nat.reduceEqDiff] <;> rfl))
    refine W.eq (g2 := F0 m 17 ls [.int (if 1 = 0 then 0 else 1)]) rfl ?_
    refine lv_if_ne (tgt := 32) hx hb dX3_isShallow_17 (by decide) (fun c_17 => ?_) (fun c_17 => ?_)
    · refine lv_iconst (v := 0) hx hb dX3_isShallow_32 (by decide +kernel) ?_
      refine g_zret (u1 := (mS u 14 (fun _ => 1))) hx hb hret hlk hQ hP hD hS dX3_isShallow_33 ?_ ?_ ?_
      · exact rfl
      · exact rfl
      · exact rfl
    · exact absurd c_17 (by decide)
  · exact absurd h1 c_6
