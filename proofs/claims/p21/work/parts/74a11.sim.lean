/-! THE SIMULATION: the class's state x and the reference's m, with n commits made and w moves waiting -/
def Com (n : Nat) (s0 s1 : Int64) (hc : Nat → Int32) : Prop := RM n s0 (Hc hc 0) ∧ RM n s1 (Hc hc 1) ∧ ∀ b k, b < 2 → n ≤ k → k < 60 → hc (60 * b + k) = 0
def Fil (f0 f1 hf : Nat → Int32) : Prop := ∀ f, f < 100 → (f0 f = 0 ↔ hf (100 * 0 + f) = 0) ∧ (f1 f = 0 ↔ hf (100 * 1 + f) = 0)
def Rfs (n : Nat) (r0 r1 rf : Nat → Int32) (s0 : Int64) : Prop := ∀ r, r < 4 → r0 r = rf (4 * 0 + r) ∧ r1 r = rf (4 * 1 + r) ∧ (rf (4 * 0 + r) = -1 ∨ ∃ j : Nat, j < n ∧ rf (4 * 0 + r) = nI j ∧ Bt s0 j)
def vC (n : Nat) (c : Int32) : Prop := c = -1 ∨ ∃ j : Nat, j < n ∧ c = nI j
def Mov (n w : Nat) (mr mo mw : Nat → Int32) : Prop := ∀ i, i < w → (∃ r : Nat, r < 4 ∧ mr i = nI r) ∧ vC n (mo i) ∧ vC n (mw i)
def SimC (n w : Nat) (a0 a1 a2 a5 a6 a7 a8 a9 a10 a11 a12 : Nat → Int32) (i13 i14 i15 : Int32) (l0 l1 : Int64) (b0 b1 b2 b3 b4 b5 b6 b7 b8 b9 : Nat → Int32) (j15 j16 j17 : Int32) : Prop :=
  (a0 = b0 ∧ a1 = b1 ∧ a2 = b2 ∧ a9 = b6 ∧ a10 = b7 ∧ a11 = b8 ∧ a12 = b9) ∧ (i15 = nI n ∧ j15 = nI n ∧ n ≤ 60 ∧ i13 = nI w ∧ j16 = nI w ∧ w ≤ 3 ∧ i14 = j17) ∧
  PV n b0 b1 ∧ SVal n b2 ∧ Com n l0 l1 b3 ∧ Closed n b0 b1 (Bt l0) ∧ Fil a5 a7 b4 ∧ Rfs n a6 a8 b5 l0 ∧ Mov n w b7 b8 b9
def Sim (n w : Nat) (x : SX) (m : SM) : Prop := SimC n w (x.1 0) (x.1 1) (x.1 2) (x.1 5) (x.1 6) (x.1 7) (x.1 8) (x.1 9) (x.1 10) (x.1 11) (x.1 12) (x.1 13 0) (x.1 14 0) (x.1 15 0) (x.2 0) (x.2 1) (m 0) (m 1) (m 2) (m 3) (m 4) (m 5) (m 6) (m 7) (m 8) (m 9) (m 15 0) (m 16 0) (m 17 0)
theorem gS_1 (u : SX) (k : Nat) (f : Nat → Int32) (j : Nat) : (gS u k f).1 j = if j = k then f else u.1 j := rfl
theorem gS_2 (u : SX) (k : Nat) (f : Nat → Int32) : (gS u k f).2 = u.2 := rfl
theorem gL_1 (u : SX) (k : Nat) (v : Int64) : (gL u k v).1 = u.1 := rfl
theorem gL_2 (u : SX) (k : Nat) (v : Int64) (j : Nat) : (gL u k v).2 j = if j = k then v else u.2 j := rfl
theorem sim_14 {n w : Nat} {x : SX} {m : SM} (h : Sim n w x m) (f : Nat → Int32) : Sim n w x (mS m 14 f) := by
  unfold Sim at h ⊢
  simp only [mS_at, Nat.reduceEqDiff, ↓reduceIte]
  exact h
/-! the class's reasons to refuse, as the reference numbers them -/
theorem hon_eq {n : Nat} {s : Int64} {hc : Nat → Int32} {b : Nat} (hn : n ≤ 60) (hS : RM n s (Hc hc b)) (c : Int32) : xHoN s c = 0 ↔ mHasN n hc b c = 0 := by
  unfold xHoN mHasN
  by_cases c1 : c = -1
  · rw [if_pos c1, if_pos c1]
  · rw [if_neg c1, if_neg c1]
    have h1 : ¬ xCon s c = 0 ↔ ¬ mHas n hc b c = 0 := by
      rw [xCon_ne, mHas_nz hn]
      constructor
      · rintro ⟨j, h1, h2, h3⟩
        exact ⟨j, ((hS j).mp h3).1, h2, ((hS j).mp h3).2⟩
      · rintro ⟨j, h1, h2, h3⟩
        exact ⟨j, by omega, h2, (hS j).mpr ⟨h1, h3⟩⟩
    by_cases c2 : mHas n hc b c = 0
    · rw [if_pos c2]
      exact ⟨fun _ => rfl, fun _ => Classical.byContradiction (fun h => h1.mp h c2)⟩
    · rw [if_neg c2]
      exact ⟨fun h => absurd h (h1.mpr c2), fun h => absurd h (by decide)⟩
theorem hon_ne {n : Nat} {s : Int64} {P : Nat → Prop} (hS : RM n s P) {c : Int32} (h : ¬ xHoN s c = 0) : c = -1 ∨ ∃ j : Nat, j < n ∧ c = nI j ∧ Bt s j := by
  unfold xHoN at h
  by_cases c1 : c = -1
  · exact Or.inl c1
  · rw [if_neg c1] at h
    obtain ⟨j, h1, h2, h3⟩ := (xCon_ne s c).mp h
    exact Or.inr ⟨j, ((hS j).mp h3).1, h2, h3⟩
theorem fin_eq (f : Int32) : xFiN f = 0 ↔ mIn f (-1) 99 = 0 := by
  have h : ¬ xFiN f = 0 ↔ ¬ mIn f (-1) 99 = 0 := by
    unfold xFiN
    constructor
    · intro h
      by_cases c1 : f = -1
      · rw [c1]
        decide
      · rw [if_neg c1] at h
        obtain ⟨j, h1, rfl⟩ := (xRange_100 f).mp h
        unfold mIn
        rw [if_neg (fun h2 => nI_pos (show j < 2 ^ 31 by omega) (Int32.lt_of_lt_of_le h2 (by decide))), if_neg (show ¬ (99 : Int32) < nI j from nI_nlt (a := 99) (b := j) (by omega) (by omega))]
        decide
    · intro h
      by_cases c1 : f = -1
      · rw [if_pos c1]
        decide
      · rw [if_neg c1]
        obtain ⟨j, h1, rfl⟩ := mIn_m1 h c1
        exact (xRange_100 _).mpr ⟨j, h1, rfl⟩
  exact ⟨fun h1 => Classical.byContradiction (fun h2 => h.mpr h2 h1), fun h1 => Classical.byContradiction (fun h2 => h.mp h2 h1)⟩
theorem con_eq (n : Nat) (c : Int32) : xCoN n c = 0 ↔ mComN n c = 0 := by
  unfold xCoN mComN
  by_cases c1 : c = -1
  · rw [if_pos c1, if_pos c1]
  · rw [if_neg c1, if_neg c1]
    by_cases c2 : xRange c (nI n) = 0
    · rw [if_pos c2]
      exact ⟨fun _ => rfl, fun _ => c2⟩
    · rw [if_neg c2]
      exact ⟨fun h => absurd h c2, fun h => absurd h (by decide)⟩
theorem con_ne {n : Nat} (hn : n ≤ 60) {c : Int32} (h : ¬ xCoN n c = 0) : vC n c := by
  unfold xCoN at h
  by_cases c1 : c = -1
  · exact Or.inl c1
  · rw [if_neg c1] at h
    exact Or.inr ((xRange_0 (by omega)).mp h)
theorem makeC_eq {n : Nat} {s : Int64} {hc : Nat → Int32} {b : Nat} (hn : n ≤ 60) (hS : RM n s (Hc hc b)) (p1 p2 p3 p4 : Int32) : xMakeC n s p1 p2 p3 p4 = mMakeC n hc b p1 p2 p3 p4 := by
  have h1 := hon_eq hn hS p1
  have h2 := hon_eq hn hS p2
  have h3 := fin_eq p4
  have h4 : (if n < 60 then (0 : Int32) else 3) = if n = 60 then 3 else 0 := by
    by_cases e : n = 60
    · rw [if_neg (by omega), if_pos e]
    · rw [if_pos (by omega), if_neg e]
  unfold xMakeC mMakeC mMkA mMkF
  rw [h4]
  by_cases c1 : xRange p3 4 = 0
  · simp [c1]
  · by_cases c2 : mHasN n hc b p1 = 0
    · simp [c1, h1.mpr c2, c2]
    · by_cases c3 : mHasN n hc b p2 = 0
      · simp [c1, h2.mpr c3, c3]
      · by_cases c4 : mIn p4 (-1) 99 = 0
        · have d1 : ¬ xHoN s p1 = 0 := fun h => c2 (h1.mp h)
          have d2 : ¬ xHoN s p2 = 0 := fun h => c3 (h2.mp h)
          simp [c1, c2, c3, d1, d2, h3.mpr c4, c4]
        · have d1 : ¬ xHoN s p1 = 0 := fun h => c2 (h1.mp h)
          have d2 : ¬ xHoN s p2 = 0 := fun h => c3 (h2.mp h)
          have d3 : ¬ xFiN p4 = 0 := fun h => c4 (h3.mp h)
          by_cases c5 : p2 = -1 <;> by_cases c6 : p1 = -1 <;> by_cases c7 : p1 = p2 <;> simp [c1, c2, c3, c4, c5, c6, c7, d1, d2, d3] <;> simp_all
theorem moveC_eq (n : Nat) {w : Nat} (h3 : w ≤ 3) (p0 p1 p2 : Int32) : xMoveC n w p0 p1 p2 = mMoveC n w p0 p1 p2 := by
  have h1 := con_eq n p1
  have h2 := con_eq n p2
  have h4 : (if w < 3 then (0 : Int32) else 2) = if w = 3 then 2 else 0 := by
    by_cases e : w = 3
    · rw [if_neg (by omega), if_pos e]
    · rw [if_pos (by omega), if_neg e]
  unfold xMoveC mMoveC
  rw [h4]
  by_cases c2 : mComN n p1 = 0
  · simp [h1.mpr c2, c2]
  · have d1 : ¬ xCoN n p1 = 0 := fun h => c2 (h1.mp h)
    by_cases c3 : mComN n p2 = 0
    · simp [h2.mpr c3, c2, c3, d1]
    · have d2 : ¬ xCoN n p2 = 0 := fun h => c3 (h2.mp h)
      simp [c2, c3, d1, d2]
theorem xRefOf_nI (rf : Nat → Int32) {r : Nat} (hr : r < 4) : xRefOf rf (nI r) = rf r := by
  unfold xRefOf
  rw [if_neg (show ¬ xRange (nI r) 4 = 0 from (xRange_4 _).mpr ⟨r, hr, rfl⟩), nI_clamp (by omega)]
theorem mIn_60 (p1 : Int32) : ¬ mIn p1 0 60 = 0 ↔ ¬ p1 < 0 ∧ p1 ≤ 60 := by
  unfold mIn
  by_cases c1 : p1 < 0
  · rw [if_pos c1]
    exact ⟨fun h => absurd rfl h, fun h => absurd c1 h.1⟩
  · rw [if_neg c1]
    by_cases c2 : 60 < p1
    · rw [if_pos c2]
      exact ⟨fun h => absurd rfl h, fun h => absurd h.2 (Int32.not_le.mpr c2)⟩
    · rw [if_neg c2]
      exact ⟨fun _ => ⟨c1, Int32.not_lt.mp c2⟩, fun _ => by decide⟩
theorem fetC_eq {r0 rf : Nat → Int32} (h : ∀ r, r < 4 → r0 r = rf r) (p0 p1 : Int32) : xFetC p0 p1 r0 = mNoF p0 p1 rf := by
  have h6 := mIn_60 p1
  unfold xFetC mNoF
  by_cases c1 : xRange p0 4 = 0
  · rw [if_pos c1, if_pos c1]
  · rw [if_neg c1, if_neg c1]
    obtain ⟨r, hr, rfl⟩ := (xRange_4 p0).mp c1
    rw [xRefOf_nI r0 hr, nI_clamp (by omega), h r hr]
    by_cases c2 : p1 < 0
    · rw [if_pos c2, if_pos (Classical.byContradiction (fun h7 => (h6.mp h7).1 c2))]
    · rw [if_neg c2]
      by_cases c3 : p1 ≤ 60
      · rw [if_pos c3, if_neg (h6.mpr ⟨c2, c3⟩)]
      · rw [if_neg c3, if_pos (Classical.byContradiction (fun h7 => c3 (h6.mp h7).2))]
theorem loadC_eq {f0 f1 hf : Nat → Int32} (h : Fil f0 f1 hf) (p0 : Int32) : xLoadC p0 f0 = mLoadC p0 hf := by
  unfold xLoadC mLoadC
  by_cases c1 : xRange p0 100 = 0
  · rw [if_pos c1, if_pos c1]
  · rw [if_neg c1, if_neg c1]
    obtain ⟨f, hf1, rfl⟩ := (xRange_100 p0).mp c1
    have h2 := (h f hf1).1
    rw [show 100 * 0 + f = f from by omega] at h2
    rw [nI_clamp (by omega)]
    by_cases c2 : hf f = 0
    · rw [if_pos c2, if_pos ((xHas_0 f0 hf1).mpr (h2.mpr c2))]
    · rw [if_neg c2, if_neg (fun h3 => c2 (h2.mp ((xHas_0 f0 hf1).mp h3)))]
