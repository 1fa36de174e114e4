/-! THE REFERENCE'S FUNCTIONS (whole's), a ghost beside the class's state: they carry what always holds of it -/
/-- the reference's: arrays 0 firsts, 1 seconds, 2 slots, 3 hasCommit, 4 hasFile, 5 refs, 6 isProtected, 7 moveRefs, 8 moveOlds, 9 moveNews, 10 marks, 11 isCommon, 12 wasTold, 13 steps; ints 14 refusal, 15 made, 16 waiting, 17 rounds -/
abbrev SM : Type := Nat → Nat → Int32
def mS (u : SM) (k : Nat) (f : Nat → Int32) : SM := va_up u k f
theorem mS_at (u : SM) (k : Nat) (f : Nat → Int32) (j : Nat) : mS u k f j = if j = k then f else u j := by
  unfold mS va_up
  by_cases h : j = k <;> simp [h]
def mIn (v lo hi : Int32) : Int32 := if v < lo then 0 else if hi < v then 0 else 1
theorem mIn_01 (v lo hi : Int32) : mIn v lo hi = 0 ∨ mIn v lo hi = 1 := by unfold mIn; split; exact Or.inl rfl; split; exact Or.inl rfl; exact Or.inr rfl
theorem mIn_x (c hi : Int32) (k : Nat) (h : hi = nI k - 1) (hk : k < 2 ^ 31) : mIn c 0 hi = xRange c (nI k) := by
  unfold mIn xRange
  by_cases h0 : c < 0
  · rw [if_pos h0, if_pos h0]
  · rw [if_neg h0, if_neg h0]
    obtain ⟨j, hj, rfl⟩ := nI_of h0
    subst h
    cases k with
    | zero =>
      rw [if_pos (show nI 0 - 1 < nI j from Int32.lt_of_lt_of_le (b := 0) (by decide +kernel) (nI_pos' hj)), if_pos (nI_le (Nat.zero_le j) hj)]
    | succ k =>
      rw [nI_pred]
      by_cases h1 : k < j
      · rw [if_pos (nI_lt h1 hj), if_pos (nI_le h1 hj)]
      · rw [if_neg (nI_nlt (by omega) (by omega)), if_neg (nI_ge (by omega) hk)]
def mHas (n : Nat) (hc : Nat → Int32) (b : Nat) (c : Int32) : Int32 := if xRange c (nI n) = 0 then 0 else if hc (60 * b + c.toNatClampNeg) = 0 then 0 else 1
theorem mHas_01 (n : Nat) (hc : Nat → Int32) (b : Nat) (c : Int32) : mHas n hc b c = 0 ∨ mHas n hc b c = 1 := by unfold mHas; split; exact Or.inl rfl; split; exact Or.inl rfl; exact Or.inr rfl
theorem mHas_ne {n : Nat} {hc : Nat → Int32} {b : Nat} {c : Int32} (hn : n < 2 ^ 31) (h : ¬ mHas n hc b c = 0) : ∃ j : Nat, j < n ∧ c = nI j := by
  unfold mHas at h
  by_cases h1 : xRange c (nI n) = 0
  · rw [if_pos h1] at h; exact absurd rfl h
  · exact xRange_ne rfl hn h1
def mHasN (n : Nat) (hc : Nat → Int32) (b : Nat) (c : Int32) : Int32 := if c = -1 then 1 else if mHas n hc b c = 0 then 0 else 1
def mComN (n : Nat) (c : Int32) : Int32 := if c = -1 then 1 else if xRange c (nI n) = 0 then 0 else 1
def mLack2 (n : Nat) (hc : Nat → Int32) (b : Nat) (se : Nat → Int32) (j : Nat) : Int32 := if se j = -1 then 0 else if mHas n hc b (se j) = 0 then 1 else 0
def mLack (n : Nat) (hc : Nat → Int32) (b : Nat) (fi se : Nat → Int32) (j : Nat) : Int32 := if fi j = -1 then mLack2 n hc b se j else if mHas n hc b (fi j) = 0 then 1 else mLack2 n hc b se j
def mShal (n : Nat) (hc fi se : Nat → Int32) (j : Nat) : Int32 := if mHas n hc 1 (nI j) = 0 then 0 else if mLack n hc 1 fi se j = 0 then 0 else 1
def mMark (n : Nat) (hc : Nat → Int32) (b : Nat) (mk : Nat → Int32) (c : Int32) : Nat → Int32 := if mHas n hc b c = 0 then mk else upd mk c.toNatClampNeg 1
noncomputable def opq {α : Type} (a : α) : α := Classical.choose (⟨a, rfl⟩ : ∃ b, b = a)
theorem opq_eq {α : Type} (a : α) : opq a = a := Classical.choose_spec (⟨a, rfl⟩ : ∃ b, b = a)
noncomputable def mClr (mk : Nat → Int32) : Nat → Int32 := opq (itU xClrStep 60 0 mk)
def mOnStep0 (n : Nat) (hc fi se : Nat → Int32) (k : Nat) (mk : Nat → Int32) : Nat → Int32 := if mk k = 0 then mk else mMark n hc 0 (mMark n hc 0 mk (fi k)) (se k)
def mOnStep1 (n : Nat) (hc fi se : Nat → Int32) (k : Nat) (mk : Nat → Int32) : Nat → Int32 := if mk k = 0 then mk else if mShal n hc fi se k = 0 then mMark n hc 1 (mMark n hc 1 mk (fi k)) (se k) else mk
def mOn0 (n : Nat) (hc fi se mk : Nat → Int32) : Nat → Int32 := itD (mOnStep0 n hc fi se) n mk
def mOn1 (n : Nat) (hc fi se mk : Nat → Int32) : Nat → Int32 := itD (mOnStep1 n hc fi se) n mk
noncomputable def mFrom0 (n : Nat) (hc fi se mk : Nat → Int32) (c : Int32) : Nat → Int32 := mOn0 n hc fi se (mMark n hc 0 (mClr mk) c)
noncomputable def mFrom1 (n : Nat) (hc fi se mk : Nat → Int32) (c : Int32) : Nat → Int32 := mOn1 n hc fi se (mMark n hc 1 (mClr mk) c)
def mNear (st : Nat → Int32) (c s : Int32) : Nat → Int32 := if c = -1 then st else if st c.toNatClampNeg ≤ s then st else upd st c.toNatClampNeg s
def mS60Step (k : Nat) (st : Nat → Int32) : Nat → Int32 := upd st k 60
noncomputable def mS60 (st : Nat → Int32) : Nat → Int32 := opq (itU mS60Step 60 0 st)
def mReachStep (fi se : Nat → Int32) (depth : Int32) (k : Nat) (z : (Nat → Int32) × (Nat → Int32)) : (Nat → Int32) × (Nat → Int32) :=
  if z.1 k = 0 then (upd z.1 k 0, mNear (mNear z.2 (fi k) (z.2 k + 1)) (se k) (mNear z.2 (fi k) (z.2 k + 1) k + 1))
  else if depth = 0 then (upd z.1 k 1, mNear (mNear z.2 (fi k) (z.2 k + 1)) (se k) (mNear z.2 (fi k) (z.2 k + 1) k + 1))
  else if depth ≤ mNear (mNear z.2 (fi k) (z.2 k + 1)) (se k) (mNear z.2 (fi k) (z.2 k + 1) k + 1) k then (upd z.1 k 0, mNear (mNear z.2 (fi k) (z.2 k + 1)) (se k) (mNear z.2 (fi k) (z.2 k + 1) k + 1))
  else (upd z.1 k 1, mNear (mNear z.2 (fi k) (z.2 k + 1)) (se k) (mNear z.2 (fi k) (z.2 k + 1) k + 1))
noncomputable def mReach (n : Nat) (hc fi se mk ss : Nat → Int32) (j0 : Nat) (depth : Int32) : (Nat → Int32) × (Nat → Int32) := itD (mReachStep fi se depth) (j0 + 1) (mFrom0 n hc fi se mk (nI j0), upd (mS60 ss) j0 0)
theorem g_vn01 (v : Int32) (h : v = 0 ∨ v = 1) : vp_nar .boolean v = v := by rcases h with h | h <;> subst h <;> rfl
def gCnt (p : Nat → Bool) : Nat → Nat
  | 0 => 0
  | n + 1 => gCnt p n + (if p n = true then 1 else 0)
theorem gCnt_le (p : Nat → Bool) : ∀ n, gCnt p n ≤ n
  | 0 => Nat.le_refl _
  | n + 1 => by
    have := gCnt_le p n
    unfold gCnt
    split <;> omega
theorem gCnt_congr {p p' : Nat → Bool} : ∀ n, (∀ i, i < n → p i = p' i) → gCnt p n = gCnt p' n
  | 0, _ => rfl
  | n + 1, h => by
    unfold gCnt
    rw [gCnt_congr n (fun i hi => h i (by omega)), h n (by omega)]
theorem gCnt_off {p p' : Nat → Bool} {k : Nat} (hk : p k = true) (hk' : p' k = false) (ho : ∀ i, i ≠ k → p' i = p i) : ∀ n, k < n → gCnt p' n + 1 = gCnt p n
  | 0, h => absurd h (Nat.not_lt_zero _)
  | n + 1, h => by
    unfold gCnt
    by_cases hkn : k = n
    · subst hkn
      rw [hk, hk', gCnt_congr k (fun i hi => ho i (by omega))]
      simp
    · have ih := gCnt_off hk hk' ho n (by omega)
      rw [ho n (fun e => hkn e.symm)]
      omega
/-- how many of 60 are not told yet -/
def mUnt (wt : Nat → Int32) : Nat := gCnt (fun k => decide (wt k = 0)) 60
theorem mUnt_le (wt : Nat → Int32) : mUnt wt ≤ 60 := gCnt_le _ 60
def mTellL (n : Nat) (hc cm : Nat → Int32) : Nat → Nat → (Nat → Int32) → (Nat → Int32) → Nat × ((Nat → Int32) × (Nat → Int32))
  | 0, c, ma, wt => (c, ma, wt)
  | d + 1, c, ma, wt => if 4 ≤ c then (c, ma, wt) else if mHas n hc 1 (nI d) = 0 then mTellL n hc cm d c ma wt
    else if cm d = 0 then (if wt d = 0 then mTellL n hc cm d (c + 1) (upd ma d (mHas n hc 0 (nI d))) (upd wt d 1) else mTellL n hc cm d c ma wt) else mTellL n hc cm d c ma wt
theorem mTell_unt (n : Nat) (hc cm : Nat → Int32) : ∀ (d c : Nat) (mk wt : Nat → Int32), d ≤ 60 → (mTellL n hc cm d c mk wt).1 + mUnt (mTellL n hc cm d c mk wt).2.2 = c + mUnt wt
  | 0, c, ma, wt, _ => rfl
  | d + 1, c, ma, wt, h => by
    unfold mTellL
    split
    · rfl
    · split
      · exact mTell_unt n hc cm d c ma wt (by omega)
      · split
        · split
          · rename_i h4
            rw [mTell_unt n hc cm d (c + 1) _ _ (by omega)]
            have := gCnt_off (p := fun k => decide (wt k = 0)) (p' := fun k => decide (upd wt d 1 k = 0)) (k := d) (by simp [h4]) (by simp [upd]) (fun i hi => by simp [upd, hi]) 60 (by omega)
            unfold mUnt
            omega
          · exact mTell_unt n hc cm d c ma wt (by omega)
        · exact mTell_unt n hc cm d c ma wt (by omega)
theorem tk0 {a b c : Nat} (h : a + b = 0 + c) (hc : c ≤ 0) : a ≤ 0 := by omega
theorem tk1 {a b c d : Nat} (h : a + b = 0 + c) (hc : c ≤ d + 1) (ha : ¬ a ≤ 0) : b ≤ d := by omega
theorem tk2 {r d : Nat} (h : r + (d + 1) ≤ 60) : r + 1 + d ≤ 60 := by omega
theorem tk3 {a b c : Nat} (h : a + b = 0 + c) (hc : c ≤ 60) : a < 2 ^ 31 := by omega
def mCmStep (mk : Nat → Int32) (k : Nat) (cm : Nat → Int32) : Nat → Int32 := if cm k = 0 then (if mk k = 0 then upd cm k 0 else upd cm k 1) else upd cm k 1
noncomputable def mCm (mk cm : Nat → Int32) : Nat → Int32 := opq (itU (mCmStep mk) 60 0 cm)
def mClr2Step (k : Nat) (z : (Nat → Int32) × (Nat → Int32)) : (Nat → Int32) × (Nat → Int32) := (upd z.1 k 0, upd z.2 k 0)
noncomputable def mClr2 (cm wt : Nat → Int32) : (Nat → Int32) × (Nat → Int32) := opq (itU mClr2Step 60 0 (cm, wt))
noncomputable def mTalkL (n : Nat) (hc fi se : Nat → Int32) : Nat → Nat → (Nat → Int32) → (Nat → Int32) → (Nat → Int32) → Nat × ((Nat → Int32) × ((Nat → Int32) × (Nat → Int32)))
  | 0, r, ma, cm, wt => (r, mOn1 n hc fi se (mTellL n hc cm n 0 (mClr ma) wt).2.1, mCm (mOn1 n hc fi se (mTellL n hc cm n 0 (mClr ma) wt).2.1) cm, (mTellL n hc cm n 0 (mClr ma) wt).2.2)
  | d + 1, r, ma, cm, wt => if (mTellL n hc cm n 0 (mClr ma) wt).1 = 0 then (r, mOn1 n hc fi se (mTellL n hc cm n 0 (mClr ma) wt).2.1, mCm (mOn1 n hc fi se (mTellL n hc cm n 0 (mClr ma) wt).2.1) cm, (mTellL n hc cm n 0 (mClr ma) wt).2.2)
    else mTalkL n hc fi se d (r + 1) (mOn1 n hc fi se (mTellL n hc cm n 0 (mClr ma) wt).2.1) (mCm (mOn1 n hc fi se (mTellL n hc cm n 0 (mClr ma) wt).2.1) cm) (mTellL n hc cm n 0 (mClr ma) wt).2.2
noncomputable def mTalk (n : Nat) (hc fi se mk cm wt : Nat → Int32) : Nat × ((Nat → Int32) × ((Nat → Int32) × (Nat → Int32))) := opq (mTalkL n hc fi se 60 0 mk (mClr2 cm wt).1 (mClr2 cm wt).2)
theorem mTalk_eq (n : Nat) (hc fi se ma cm wt : Nat → Int32) : mTalk n hc fi se ma cm wt = mTalkL n hc fi se 60 0 ma (mClr2 cm wt).1 (mClr2 cm wt).2 := opq_eq _
def mBringStep (sl : Nat → Int32) (fr to : Nat) (p3 : Int32) (k : Nat) (hf : Nat → Int32) : Nat → Int32 := if p3 = 0 then hf else if sl k = -1 then hf else if hf (100 * fr + (sl k).toNatClampNeg) = 0 then hf else upd hf (100 * to + (sl k).toNatClampNeg) 1
def mBring (sl : Nat → Int32) (fr to j : Nat) (p3 : Int32) (hf : Nat → Int32) : Nat → Int32 := itU (mBringStep sl fr to p3) 4 (4 * j) hf
def mNoF (p0 p1 : Int32) (rf : Nat → Int32) : Int32 := if xRange p0 4 = 0 then 1 else if mIn p1 0 60 = 0 then 2 else if rf p0.toNatClampNeg = -1 then 3 else 0
def mFetchStep (n : Nat) (mk cm sl : Nat → Int32) (p2 : Int32) (k : Nat) (z : Int32 × ((Nat → Int32) × (Nat → Int32))) : Int32 × ((Nat → Int32) × (Nat → Int32)) :=
  if mk k = 0 then z else if cm k = 0 then (if mHas n z.2.1 1 (nI k) = 0 then (z.1 + 1, upd z.2.1 (60 + k) 1, mBring sl 0 1 k p2 z.2.2) else (z.1 + 0, upd z.2.1 (60 + k) 1, mBring sl 0 1 k p2 z.2.2)) else z
def mFetch (n : Nat) (mk cm sl : Nat → Int32) (p2 : Int32) (hc hf : Nat → Int32) : Int32 × ((Nat → Int32) × (Nat → Int32)) := itU (mFetchStep n mk cm sl p2) n 0 (0, hc, hf)
def mWouldStep (n : Nat) (mk hc : Nat → Int32) (k : Nat) (c : Int32) : Int32 := if mk k = 0 then c + 0 else if mHas n hc 1 (nI k) = 0 then c + 1 else c + 0
def mWould (n : Nat) (mk hc : Nat → Int32) : Int32 := itU (mWouldStep n mk hc) n 0 0
def mLoadC (p0 : Int32) (hf : Nat → Int32) : Int32 := if xRange p0 100 = 0 then 1 else if hf p0.toNatClampNeg = 0 then 2 else 0
def mNeedStep (n : Nat) (hc : Nat → Int32) (b : Nat) (sl : Nat → Int32) (f : Int32) (k : Nat) (t : Int32) : Int32 := if t = 0 then (if sl k = f then (if mHas n hc b (nI (k / 4)) = 0 then 0 else 1) else 0) else 1
def mNeed (n : Nat) (hc : Nat → Int32) (b : Nat) (sl : Nat → Int32) (f : Int32) : Int32 := itU (mNeedStep n hc b sl f) (4 * n) 0 0
def mMissStep (n : Nat) (hc sl hf : Nat → Int32) (k : Nat) (cn : Int32) : Int32 := if hf (100 + k) = 0 then (if mNeed n hc 1 sl (nI k) = 0 then cn + 0 else cn + 1) else cn + 0
noncomputable def mMiss (n : Nat) (hc sl hf : Nat → Int32) : Int32 := opq (itU (mMissStep n hc sl hf) 100 0 0)
def mMoveC (n w : Nat) (p0 p1 p2 : Int32) : Int32 := if xRange p0 4 = 0 then 1 else if mComN n p1 = 0 then 1 else if mComN n p2 = 0 then 1 else if w = 3 then 2 else 0
theorem mShal_01 (n : Nat) (hc fi se : Nat → Int32) (j : Nat) : mShal n hc fi se j = 0 ∨ mShal n hc fi se j = 1 := by unfold mShal; split; exact Or.inl rfl; split; exact Or.inl rfl; exact Or.inr rfl
/-- marks are 0 or 1 -/
def m01 (mk : Nat → Int32) : Prop := ∀ k, k < 60 → mk k = 0 ∨ mk k = 1
theorem itU_clr : ∀ (d i : Nat) (f : Nat → Int32) (k : Nat), i ≤ k → k < i + d → itU xClrStep d i f k = 0
  | 0, i, f, k, h1, h2 => by omega
  | d + 1, i, f, k, h1, h2 => by
    show itU xClrStep d (i + 1) (upd f i 0) k = 0
    by_cases h : k = i
    · subst h
      have key : ∀ (d i : Nat) (f : Nat → Int32), k < i → itU xClrStep d i f k = f k := by
        intro d
        induction d with
        | zero => intro i f _; rfl
        | succ d ih =>
          intro i f hk
          show itU xClrStep d (i + 1) (upd f i 0) k = f k
          rw [ih (i + 1) _ (by omega)]
          unfold upd
          rw [if_neg (by omega)]
      rw [key d (k + 1) _ (by omega)]
      unfold upd
      rw [if_pos rfl]
    · exact itU_clr d (i + 1) _ k (by omega) (by omega)
theorem mClr_0 (mk : Nat → Int32) {k : Nat} (h : k < 60) : mClr mk k = 0 := by
  unfold mClr
  rw [opq_eq]
  exact itU_clr 60 0 mk k (Nat.zero_le _) (by omega)
theorem m01_clr (mk : Nat → Int32) : m01 (mClr mk) := fun _ h => Or.inl (mClr_0 mk h)
theorem m01_mark {n : Nat} {hc : Nat → Int32} {b : Nat} {mk : Nat → Int32} (c : Int32) (h : m01 mk) : m01 (mMark n hc b mk c) := by
  unfold mMark
  split
  · exact h
  · intro k hk
    unfold upd
    split
    · exact Or.inr rfl
    · exact h k hk
theorem m01_on0 {n : Nat} {hc fi se : Nat → Int32} : ∀ (d : Nat) (mk : Nat → Int32), m01 mk → m01 (itD (mOnStep0 n hc fi se) d mk)
  | 0, _, h => h
  | d + 1, ma, h => by
    show m01 (itD (mOnStep0 n hc fi se) d (mOnStep0 n hc fi se d ma))
    refine m01_on0 d _ ?_
    unfold mOnStep0
    split
    · exact h
    · exact m01_mark _ (m01_mark _ h)
theorem m01_on1 {n : Nat} {hc fi se : Nat → Int32} : ∀ (d : Nat) (mk : Nat → Int32), m01 mk → m01 (itD (mOnStep1 n hc fi se) d mk)
  | 0, _, h => h
  | d + 1, ma, h => by
    show m01 (itD (mOnStep1 n hc fi se) d (mOnStep1 n hc fi se d ma))
    refine m01_on1 d _ ?_
    unfold mOnStep1
    split
    · exact h
    · split
      · exact m01_mark _ (m01_mark _ h)
      · exact h
theorem mFrom0_01 (n : Nat) (hc fi se mk : Nat → Int32) (c : Int32) (k : Nat) (hk : k < 60) : mFrom0 n hc fi se mk c k = 0 ∨ mFrom0 n hc fi se mk c k = 1 := m01_on0 n _ (m01_mark c (m01_clr mk)) k hk
theorem mFrom1_01 (n : Nat) (hc fi se mk : Nat → Int32) (c : Int32) (k : Nat) (hk : k < 60) : mFrom1 n hc fi se mk c k = 0 ∨ mFrom1 n hc fi se mk c k = 1 := m01_on1 n _ (m01_mark c (m01_clr mk)) k hk
def mBar0 (n : Nat) (hc : Nat → Int32) (nw : Int32) : Int32 := if nw = -1 then 0 else if mHas n hc 1 nw = 0 then 1 else 0
def mBarStep (n : Nat) (hc fi se ma : Nat → Int32) (k : Nat) (t : Int32) : Int32 := if t = 0 then (if ma k = 0 then 0 else if mShal n hc fi se k = 0 then 0 else if mHas n hc 0 (nI k) = 0 then 1 else 0) else 1
def mBarT (n : Nat) (hc fi se ma : Nat → Int32) (nw : Int32) : Int32 := itU (mBarStep n hc fi se ma) n 0 (mBar0 n hc nw)
def mBarB (n : Nat) (hc fi se ma : Nat → Int32) (nw : Int32) : Int32 := if mBarT n hc fi se ma nw = 0 then 0 else -4
def mBarP (n : Nat) (hc fi se pr mr mo mw ma : Nat → Int32) (i : Nat) : Int32 := if pr (mr i).toNatClampNeg = 0 then mBarB n hc fi se ma (mw i) else if mo i = -1 then mBarB n hc fi se ma (mw i) else if ma (mo i).toNatClampNeg = 0 then -3 else mBarB n hc fi se ma (mw i)
noncomputable def mBar (n : Nat) (hc fi se rf pr mr mo mw ma : Nat → Int32) (i : Nat) : Int32 × (Nat → Int32) := if rf (mr i).toNatClampNeg = mo i then (mBarP n hc fi se pr mr mo mw (mFrom1 n hc fi se ma (mw i)) i, mFrom1 n hc fi se ma (mw i)) else (-2, ma)
noncomputable def mBars (n : Nat) (hc fi se rf pr mr mo mw : Nat → Int32) : Nat → Nat → (Nat → Int32) → Int32 × (Nat → Int32)
  | 0, _, ma => (0, ma)
  | d + 1, i, ma => if (mBar n hc fi se rf pr mr mo mw ma i).1 = 0 then mBars n hc fi se rf pr mr mo mw d (i + 1) (mBar n hc fi se rf pr mr mo mw ma i).2 else mBar n hc fi se rf pr mr mo mw ma i
def mPushI (n : Nat) (ma sl : Nat → Int32) (k : Nat) (z : Int32 × ((Nat → Int32) × (Nat → Int32))) : Int32 × ((Nat → Int32) × (Nat → Int32)) :=
  if ma k = 0 then z else if mHas n z.2.1 0 (nI k) = 0 then (z.1 + 1, upd z.2.1 k 1, mBring sl 1 0 k 1 z.2.2) else (z.1 + 0, upd z.2.1 k 1, mBring sl 1 0 k 1 z.2.2)
noncomputable def mPushO (n : Nat) (fi se sl mr mw : Nat → Int32) (i : Nat) (z : Int32 × ((Nat → Int32) × ((Nat → Int32) × ((Nat → Int32) × (Nat → Int32))))) : Int32 × ((Nat → Int32) × ((Nat → Int32) × ((Nat → Int32) × (Nat → Int32)))) :=
  ((itU (mPushI n (mFrom1 n z.2.2.1 fi se z.2.1 (mw i)) sl) n 0 (z.1, z.2.2.1, z.2.2.2.1)).1, mFrom1 n z.2.2.1 fi se z.2.1 (mw i), (itU (mPushI n (mFrom1 n z.2.2.1 fi se z.2.1 (mw i)) sl) n 0 (z.1, z.2.2.1, z.2.2.2.1)).2.1, (itU (mPushI n (mFrom1 n z.2.2.1 fi se z.2.1 (mw i)) sl) n 0 (z.1, z.2.2.1, z.2.2.2.1)).2.2, upd z.2.2.2.2 (mr i).toNatClampNeg (mw i))
def mColStep (n : Nat) (hc : Nat → Int32) (b : Nat) (rf : Nat → Int32) (k : Nat) (ma : Nat → Int32) : Nat → Int32 := mMark n hc b ma (rf (4 * b + k))
noncomputable def mColM (n : Nat) (hc : Nat → Int32) (b : Nat) (rf ma : Nat → Int32) : Nat → Int32 := opq (itU (mColStep n hc b rf) 4 0 (mClr ma))
theorem m01_itm {n : Nat} {hc : Nat → Int32} {b : Nat} {rf : Nat → Int32} : ∀ (d i : Nat) (ma : Nat → Int32), m01 ma → m01 (itU (mColStep n hc b rf) d i ma)
  | 0, _, _, h => h
  | d + 1, i, ma, h => m01_itm d (i + 1) _ (m01_mark _ h)
theorem m01_col (n : Nat) (hc : Nat → Int32) (b : Nat) (rf ma : Nat → Int32) : m01 (mColM n hc b rf ma) := by
  unfold mColM
  rw [opq_eq]
  exact m01_itm 4 0 _ (m01_clr ma)
def mColC (n : Nat) (b : Nat) (ma : Nat → Int32) (k : Nat) (z : Int32 × (Nat → Int32)) : Int32 × (Nat → Int32) :=
  if mHas n z.2 b (nI k) = 0 then (z.1 + 0, upd z.2 (60 * b + k) (ma k)) else if ma k = 0 then (z.1 + 1, upd z.2 (60 * b + k) (ma k)) else (z.1 + 0, upd z.2 (60 * b + k) (ma k))
def mColF (n : Nat) (hc : Nat → Int32) (b : Nat) (sl : Nat → Int32) (k : Nat) (hf : Nat → Int32) : Nat → Int32 := if hf (100 * b + k) = 0 then upd hf (100 * b + k) 0 else if mNeed n hc b sl (nI k) = 0 then upd hf (100 * b + k) 0 else upd hf (100 * b + k) 1
noncomputable def mColFs (n : Nat) (hc : Nat → Int32) (b : Nat) (sl hf : Nat → Int32) : Nat → Int32 := opq (itU (mColF n hc b sl) 100 0 hf)
def mMkA (n : Nat) (hc : Nat → Int32) (b : Nat) (p1 p2 p3 : Int32) : Int32 := if xRange p3 4 = 0 then 0 else if mHasN n hc b p1 = 0 then 0 else if mHasN n hc b p2 = 0 then 0 else 1
def mMkF (p1 p2 p4 : Int32) : Int32 := if mIn p4 (-1) 99 = 0 then 0 else if p2 = -1 then 1 else if p1 = -1 then 0 else if p1 = p2 then 0 else 1
def mMakeC (n : Nat) (hc : Nat → Int32) (b : Nat) (p1 p2 p3 p4 : Int32) : Int32 := if mMkA n hc b p1 p2 p3 = 0 then 1 else if mMkF p1 p2 p4 = 0 then 2 else if n = 60 then 3 else 0
def mMakeStep (n : Nat) (p1 p3 p4 : Int32) (k : Nat) (sl : Nat → Int32) : Nat → Int32 := if nI k = p3 then upd sl (4 * n + k) p4 else if p1 = -1 then upd sl (4 * n + k) (-1) else upd sl (4 * n + k) (sl (4 * p1.toNatClampNeg + k))
noncomputable def mMakeS (n : Nat) (p1 p3 p4 : Int32) (sl : Nat → Int32) : Nat → Int32 := opq (itU (mMakeStep n p1 p3 p4) 4 0 sl)
def mMakeF (b : Nat) (p4 : Int32) (hf : Nat → Int32) : Nat → Int32 := if p4 = -1 then hf else upd hf (100 * b + p4.toNatClampNeg) 1
theorem mMkA_ne {n : Nat} {hc : Nat → Int32} {b : Nat} {p1 p2 p3 : Int32} (h : ¬ mMkA n hc b p1 p2 p3 = 0) : ¬ mHasN n hc b p1 = 0 ∧ ¬ mHasN n hc b p2 = 0 := by
  unfold mMkA at h
  split at h
  · exact absurd rfl h
  · split at h
    · exact absurd rfl h
    · split at h
      · exact absurd rfl h
      · exact ⟨by assumption, by assumption⟩
theorem mMkF_ne {p1 p2 p4 : Int32} (h : ¬ mMkF p1 p2 p4 = 0) : ¬ mIn p4 (-1) 99 = 0 := by
  unfold mMkF at h
  split at h
  · exact absurd rfl h
  · assumption
theorem mHasN_ne {n : Nat} {hc : Nat → Int32} {b : Nat} {c : Int32} (hn : n < 2 ^ 31) (h : ¬ mHasN n hc b c = 0) (hc1 : ¬ c = -1) : ∃ j : Nat, j < n ∧ c = nI j := by
  unfold mHasN at h
  rw [if_neg hc1] at h
  split at h
  · exact absurd rfl h
  · exact mHas_ne hn (by assumption)
theorem mIn_m1 {c : Int32} (h : ¬ mIn c (-1) 99 = 0) (h1 : ¬ c = -1) : ∃ f : Nat, f < 100 ∧ c = nI f := by
  unfold mIn at h
  split at h
  · exact absurd rfl h
  · split at h
    · exact absurd rfl h
    · rename_i ha hb
      have h3 : (-1 : Int32).toInt = -1 := by decide +kernel
      have h4 : (99 : Int32).toInt = 99 := by decide +kernel
      have h0 : ¬ c < 0 := by
        intro h2
        have ha' : ¬ c.toInt < (-1 : Int32).toInt := fun e => ha (Int32.lt_iff_toInt_lt.mpr e)
        have h2' : c.toInt < (0 : Int32).toInt := Int32.lt_iff_toInt_lt.mp h2
        have h5 : (0 : Int32).toInt = 0 := by decide +kernel
        exact h1 (Int32.toInt_inj.mp (by omega))
      obtain ⟨j, hj, rfl⟩ := nI_of h0
      have hb' : ¬ (99 : Int32).toInt < (nI j).toInt := fun e => hb (Int32.lt_iff_toInt_lt.mpr e)
      rw [nI_toInt hj] at hb'
      exact ⟨j, by omega, rfl⟩
