/-! the calls that ask, and those that set one thing -/
theorem sim_n {n w : Nat} {x : SX} {m : SM} (hs : Sim n w x m) : x.1 15 0 = nI n ∧ m 15 0 = nI n ∧ n ≤ 60 ∧ x.1 13 0 = nI w ∧ m 16 0 = nI w ∧ w ≤ 3 ∧ x.1 14 0 = m 17 0 := hs.2.1
theorem sim_par {n w : Nat} {x : SX} {m : SM} (hs : Sim n w x m) : (∀ k, k < n → (m 0 k = -1 ∨ ∃ j : Nat, j < 60 ∧ m 0 k = nI j)) ∧ (∀ k, k < n → (m 1 k = -1 ∨ ∃ j : Nat, j < 60 ∧ m 1 k = nI j)) ∧ ∀ k, k < 4 * n → (m 2 k = -1 ∨ ∃ f : Nat, f < 100 ∧ m 2 k = nI f) := by
  have h60 := (sim_n hs).2.2.1
  have hp : PV n (m 0) (m 1) := hs.2.2.1
  exact ⟨fun k hk => (hp k hk).1.elim Or.inl (fun ⟨j, h1, h2⟩ => Or.inr ⟨j, by omega, h2⟩), fun k hk => (hp k hk).2.elim Or.inl (fun ⟨j, h1, h2⟩ => Or.inr ⟨j, by omega, h2⟩), hs.2.2.2.1⟩
theorem sim_mov {n w : Nat} {x : SX} {m : SM} (hs : Sim n w x m) : (∀ i, i < w → ∃ r : Nat, r < 4 ∧ m 7 i = nI r) ∧ ∀ i, i < w → (m 8 i = -1 ∨ ∃ j : Nat, j < 60 ∧ m 8 i = nI j) := by
  have h60 := (sim_n hs).2.2.1
  have hM : Mov n w (m 7) (m 8) (m 9) := hs.2.2.2.2.2.2.2.2
  exact ⟨fun i hi => (hM i hi).1, fun i hi => (hM i hi).2.1.elim Or.inl (fun ⟨j, h1, h2⟩ => Or.inr ⟨j, by omega, h2⟩)⟩
theorem xCon_has {n : Nat} {s : Int64} {hc : Nat → Int32} {b : Nat} (hn : n ≤ 60) (hS : RM n s (Hc hc b)) (c : Int32) : xCon s c = mHas n hc b c := by
  have h1 : ¬ xCon s c = 0 ↔ ¬ mHas n hc b c = 0 := by
    rw [xCon_ne, mHas_nz hn]
    constructor
    · rintro ⟨j, h1, h2, h3⟩
      exact ⟨j, ((hS j).mp h3).1, h2, ((hS j).mp h3).2⟩
    · rintro ⟨j, h1, h2, h3⟩
      exact ⟨j, by omega, h2, (hS j).mpr ⟨h1, h3⟩⟩
  rcases xCon_01 s c with h2 | h2 <;> rcases mHas_01 n hc b c with h4 | h4
  · rw [h2, h4]
  · exact absurd h2 (h1.mpr (by rw [h4]; decide))
  · exact absurd h4 (h1.mp (by rw [h2]; decide))
  · rw [h2, h4]
theorem xCon_nz {n : Nat} {s : Int64} {f : Nat → Int32} (hn : n ≤ 60) (hS : RM n s (Nz f)) {k : Nat} (hk : k < n) (h01 : f k = 0 ∨ f k = 1) : xCon s (nI k) = f k := by
  have h0 := xCon_0 s (k := k) (by omega)
  rw [hS k] at h0
  rcases xCon_01 s (nI k) with h2 | h2
  · have := h0.mp h2
    rw [h2]
    exact (Classical.byContradiction (fun h => this ⟨hk, fun h4 => h h4.symm⟩))
  · rcases h01 with h4 | h4
    · exact absurd (h0.mpr (fun h5 => h5.2 h4)) (by rw [h2]; decide)
    · rw [h2, h4]
theorem sim_has_0 {n w : Nat} {x : SX} {m : SM} (hs : Sim n w x m) (c : Int32) : xCon (x.2 0) c = mHas n (m 3) 0 c := by
  obtain ⟨⟨e0, e1, e2, e9, e10, e11, e12⟩, ⟨hn, hm, h60, hw, hmw, h3, hr⟩, hp, hsl, ⟨hS, hC, hZ⟩, hcl, hF, hRf, hMv⟩ := id hs
  exact xCon_has h60 hS c
theorem sim_hasFile_0 {n w : Nat} {x : SX} {m : SM} (hs : Sim n w x m) {p : Int32} (h1 : ¬ xRange p 100 = 0) : xHas (x.1 5) p = if m 4 (100 * 0 + p.toNatClampNeg) = 0 then 0 else 1 := by
  obtain ⟨⟨e0, e1, e2, e9, e10, e11, e12⟩, ⟨hn, hm, h60, hw, hmw, h3, hr⟩, hp, hsl, ⟨hS, hC, hZ⟩, hcl, hF, hRf, hMv⟩ := id hs
  obtain ⟨f, hf, rfl⟩ := (xRange_100 p).mp h1
  have h2 := (hF f hf).1
  rw [nI_clamp (by omega)]
  by_cases c : m 4 (100 * 0 + f) = 0
  · rw [if_pos c]
    exact (xHas_0 _ hf).mpr (h2.mpr c)
  · rw [if_neg c]
    exact (xHas_01 _ _).resolve_left (fun h4 => c (h2.mp ((xHas_0 _ hf).mp h4)))
theorem sim_ref_0 {n w : Nat} {x : SX} {m : SM} (hs : Sim n w x m) {p : Int32} (h1 : ¬ xRange p 4 = 0) : xRefOf (x.1 6) p = m 5 (4 * 0 + p.toNatClampNeg) := by
  obtain ⟨⟨e0, e1, e2, e9, e10, e11, e12⟩, ⟨hn, hm, h60, hw, hmw, h3, hr⟩, hp, hsl, ⟨hS, hC, hZ⟩, hcl, hF, hRf, hMv⟩ := id hs
  obtain ⟨r, hr4, rfl⟩ := (xRange_4 p).mp h1
  rw [nI_clamp (by omega), xRefOf_nI _ hr4]
  exact (hRf r hr4).1
theorem sim_setRC_0 {n w : Nat} {x : SX} {m : SM} (hs : Sim n w x m) (p1 p2 : Int32) : xSetRC (x.2 0) p1 p2 = if xRange p1 4 = 0 then 1 else if mHasN n (m 3) 0 p2 = 0 then 1 else 0 := by
  obtain ⟨⟨e0, e1, e2, e9, e10, e11, e12⟩, ⟨hn, hm, h60, hw, hmw, h3, hr⟩, hp, hsl, ⟨hS, hC, hZ⟩, hcl, hF, hRf, hMv⟩ := id hs
  have h := hon_eq h60 hS p2
  unfold xSetRC
  by_cases c1 : xRange p1 4 = 0
  · rw [if_pos c1, if_pos c1]
  · rw [if_neg c1, if_neg c1]
    by_cases c2 : mHasN n (m 3) 0 p2 = 0
    · rw [if_pos c2, if_pos (h.mpr c2)]
    · rw [if_neg c2, if_neg (fun h4 => c2 (h.mp h4))]
theorem sim_setRef_0 {n w : Nat} {x : SX} {m : SM} (hs : Sim n w x m) {p1 p2 : Int32} (h1 : ¬ xRange p1 4 = 0) (h2 : ¬ xHoN (x.2 0) p2 = 0) : Sim n w (gS x 6 (xPoint (x.1 6) p1 p2)) (mS (mS m 14 (fun _ => 0)) 5 (upd (m 5) (4 * 0 + p1.toNatClampNeg) p2)) := by
  obtain ⟨⟨e0, e1, e2, e9, e10, e11, e12⟩, ⟨hn, hm, h60, hw, hmw, h3, hr⟩, hp, hsl, ⟨hS, hC, hZ⟩, hcl, hF, hRf, hMv⟩ := id hs
  unfold Sim
  simp only [gS_1, gS_2, gL_1, gL_2, mS_at, Nat.reduceEqDiff, ↓reduceIte]
  refine ⟨⟨e0, e1, e2, e9, e10, e11, e12⟩, ⟨hn, hm, h60, hw, hmw, h3, hr⟩, hp, hsl, ⟨hS, hC, hZ⟩, hcl, hF, ?_, hMv⟩
  obtain ⟨i, hi, rfl⟩ := (xRange_4 p1).mp h1
  have hx : xPoint (x.1 6) (nI i) p2 = upd (x.1 6) i p2 := by
    unfold xPoint
    rw [if_neg h1, nI_clamp (by omega)]
  rw [hx, nI_clamp (by omega)]
  intro r hr4
  obtain ⟨g1, g2, g3⟩ := hRf r hr4
  by_cases e : r = i
  · subst e
    rw [upd_s, upd_s, upd_n _ _ (show 4 * 1 + r ≠ 4 * 0 + r by omega)]
    exact ⟨rfl, g2, hon_ne hS h2⟩
  · rw [upd_n _ _ e, upd_n _ _ (show 4 * 0 + r ≠ 4 * 0 + i by omega), upd_n _ _ (show 4 * 1 + r ≠ 4 * 0 + i by omega)]
    exact ⟨g1, g2, g3⟩
theorem sim_isAnc_0 {n w : Nat} {x : SX} {m : SM} (hs : Sim n w x m) {p1 : Int32} (p2 : Int32) (mk : Nat → Int32) (h1 : ¬ xRange p1 (nI n) = 0) : xCon (xAnc n (x.1 0) (x.1 1) (xSet p2) (x.2 0)) p1 = mFrom0 n (m 3) (m 0) (m 1) mk p2 p1.toNatClampNeg := by
  obtain ⟨⟨e0, e1, e2, e9, e10, e11, e12⟩, ⟨hn, hm, h60, hw, hmw, h3, hr⟩, hp, hsl, ⟨hS, hC, hZ⟩, hcl, hF, hRf, hMv⟩ := id hs
  obtain ⟨j, hj, rfl⟩ := (xRange_0 (by omega)).mp h1
  rw [e0, e1, nI_clamp (by omega)]
  exact xCon_nz h60 (from_0 h60 hp hS hcl mk p2).1 hj (mFrom0_01 n _ _ _ _ _ _ (by omega))
theorem sim_has_1 {n w : Nat} {x : SX} {m : SM} (hs : Sim n w x m) (c : Int32) : xCon (x.2 1) c = mHas n (m 3) 1 c := by
  obtain ⟨⟨e0, e1, e2, e9, e10, e11, e12⟩, ⟨hn, hm, h60, hw, hmw, h3, hr⟩, hp, hsl, ⟨hS, hC, hZ⟩, hcl, hF, hRf, hMv⟩ := id hs
  exact xCon_has h60 hC c
theorem sim_hasFile_1 {n w : Nat} {x : SX} {m : SM} (hs : Sim n w x m) {p : Int32} (h1 : ¬ xRange p 100 = 0) : xHas (x.1 7) p = if m 4 (100 * 1 + p.toNatClampNeg) = 0 then 0 else 1 := by
  obtain ⟨⟨e0, e1, e2, e9, e10, e11, e12⟩, ⟨hn, hm, h60, hw, hmw, h3, hr⟩, hp, hsl, ⟨hS, hC, hZ⟩, hcl, hF, hRf, hMv⟩ := id hs
  obtain ⟨f, hf, rfl⟩ := (xRange_100 p).mp h1
  have h2 := (hF f hf).2
  rw [nI_clamp (by omega)]
  by_cases c : m 4 (100 * 1 + f) = 0
  · rw [if_pos c]
    exact (xHas_0 _ hf).mpr (h2.mpr c)
  · rw [if_neg c]
    exact (xHas_01 _ _).resolve_left (fun h4 => c (h2.mp ((xHas_0 _ hf).mp h4)))
theorem sim_ref_1 {n w : Nat} {x : SX} {m : SM} (hs : Sim n w x m) {p : Int32} (h1 : ¬ xRange p 4 = 0) : xRefOf (x.1 8) p = m 5 (4 * 1 + p.toNatClampNeg) := by
  obtain ⟨⟨e0, e1, e2, e9, e10, e11, e12⟩, ⟨hn, hm, h60, hw, hmw, h3, hr⟩, hp, hsl, ⟨hS, hC, hZ⟩, hcl, hF, hRf, hMv⟩ := id hs
  obtain ⟨r, hr4, rfl⟩ := (xRange_4 p).mp h1
  rw [nI_clamp (by omega), xRefOf_nI _ hr4]
  exact (hRf r hr4).2.1
theorem sim_setRC_1 {n w : Nat} {x : SX} {m : SM} (hs : Sim n w x m) (p1 p2 : Int32) : xSetRC (x.2 1) p1 p2 = if xRange p1 4 = 0 then 1 else if mHasN n (m 3) 1 p2 = 0 then 1 else 0 := by
  obtain ⟨⟨e0, e1, e2, e9, e10, e11, e12⟩, ⟨hn, hm, h60, hw, hmw, h3, hr⟩, hp, hsl, ⟨hS, hC, hZ⟩, hcl, hF, hRf, hMv⟩ := id hs
  have h := hon_eq h60 hC p2
  unfold xSetRC
  by_cases c1 : xRange p1 4 = 0
  · rw [if_pos c1, if_pos c1]
  · rw [if_neg c1, if_neg c1]
    by_cases c2 : mHasN n (m 3) 1 p2 = 0
    · rw [if_pos c2, if_pos (h.mpr c2)]
    · rw [if_neg c2, if_neg (fun h4 => c2 (h.mp h4))]
theorem sim_setRef_1 {n w : Nat} {x : SX} {m : SM} (hs : Sim n w x m) {p1 p2 : Int32} (h1 : ¬ xRange p1 4 = 0) (h2 : ¬ xHoN (x.2 1) p2 = 0) : Sim n w (gS x 8 (xPoint (x.1 8) p1 p2)) (mS (mS m 14 (fun _ => 0)) 5 (upd (m 5) (4 * 1 + p1.toNatClampNeg) p2)) := by
  obtain ⟨⟨e0, e1, e2, e9, e10, e11, e12⟩, ⟨hn, hm, h60, hw, hmw, h3, hr⟩, hp, hsl, ⟨hS, hC, hZ⟩, hcl, hF, hRf, hMv⟩ := id hs
  unfold Sim
  simp only [gS_1, gS_2, gL_1, gL_2, mS_at, Nat.reduceEqDiff, ↓reduceIte]
  refine ⟨⟨e0, e1, e2, e9, e10, e11, e12⟩, ⟨hn, hm, h60, hw, hmw, h3, hr⟩, hp, hsl, ⟨hS, hC, hZ⟩, hcl, hF, ?_, hMv⟩
  obtain ⟨i, hi, rfl⟩ := (xRange_4 p1).mp h1
  have hx : xPoint (x.1 8) (nI i) p2 = upd (x.1 8) i p2 := by
    unfold xPoint
    rw [if_neg h1, nI_clamp (by omega)]
  rw [hx, nI_clamp (by omega)]
  intro r hr4
  obtain ⟨g1, g2, g3⟩ := hRf r hr4
  by_cases e : r = i
  · subst e
    rw [upd_s, upd_s, upd_n _ _ (show 4 * 0 + r ≠ 4 * 1 + r by omega)]
    exact ⟨g1, rfl, g3⟩
  · rw [upd_n _ _ e, upd_n _ _ (show 4 * 0 + r ≠ 4 * 1 + i by omega), upd_n _ _ (show 4 * 1 + r ≠ 4 * 1 + i by omega)]
    exact ⟨g1, g2, g3⟩
theorem sim_isAnc_1 {n w : Nat} {x : SX} {m : SM} (hs : Sim n w x m) {p1 : Int32} (p2 : Int32) (mk : Nat → Int32) (h1 : ¬ xRange p1 (nI n) = 0) : xCon (xAnc n (x.1 0) (x.1 1) (xSet p2) (x.2 1)) p1 = mFrom1 n (m 3) (m 0) (m 1) mk p2 p1.toNatClampNeg := by
  obtain ⟨⟨e0, e1, e2, e9, e10, e11, e12⟩, ⟨hn, hm, h60, hw, hmw, h3, hr⟩, hp, hsl, ⟨hS, hC, hZ⟩, hcl, hF, hRf, hMv⟩ := id hs
  obtain ⟨j, hj, rfl⟩ := (xRange_0 (by omega)).mp h1
  rw [e0, e1, nI_clamp (by omega)]
  exact xCon_nz h60 (from_1 h60 hp hC mk p2).1 hj (mFrom1_01 n _ _ _ _ _ _ (by omega))
theorem sim_fileAt {n w : Nat} {x : SX} {m : SM} (hs : Sim n w x m) {p0 p1 : Int32} (h1 : ¬ xRange p0 (nI n) = 0) (h2 : ¬ xRange p1 4 = 0) : xFileIn n (x.1 2) p0 p1 = m 2 (4 * p0.toNatClampNeg + p1.toNatClampNeg) := by
  obtain ⟨⟨e0, e1, e2, e9, e10, e11, e12⟩, ⟨hn, hm, h60, hw, hmw, h3, hr⟩, hp, hsl, ⟨hS, hC, hZ⟩, hcl, hF, hRf, hMv⟩ := id hs
  obtain ⟨j, hj, rfl⟩ := (xRange_0 (by omega)).mp h1
  obtain ⟨t, ht, rfl⟩ := (xRange_4 p1).mp h2
  rw [xFileIn_at h60 _ hj ht, nI_clamp (by omega), nI_clamp (by omega), e2]
theorem sim_isShallow {n w : Nat} {x : SX} {m : SM} (hs : Sim n w x m) {p0 : Int32} (h1 : ¬ xRange p0 (nI n) = 0) : xCon (xShallow n (x.1 0) (x.1 1) (x.2 1)) p0 = mShal n (m 3) (m 0) (m 1) p0.toNatClampNeg := by
  obtain ⟨⟨e0, e1, e2, e9, e10, e11, e12⟩, ⟨hn, hm, h60, hw, hmw, h3, hr⟩, hp, hsl, ⟨hS, hC, hZ⟩, hcl, hF, hRf, hMv⟩ := id hs
  obtain ⟨j, hj, rfl⟩ := (xRange_0 (by omega)).mp h1
  rw [e0, e1, nI_clamp (by omega)]
  refine xCon_nz (f := mShal n (m 3) (m 0) (m 1)) h60 (fun k => ?_) hj (by unfold mShal; split; exact Or.inl rfl; split; exact Or.inl rfl; exact Or.inr rfl)
  rw [Bt_shallow h60]
  constructor
  · rintro ⟨g1, g2, g3⟩
    exact ⟨g1, (mShal_nz h60 hp g1).mpr ⟨((hC k).mp g2).2, (pu_lkc h60 hp hC g1).mp g3⟩⟩
  · rintro ⟨g1, g2⟩
    obtain ⟨g3, g4⟩ := (mShal_nz h60 hp g1).mp g2
    exact ⟨g1, (hC k).mpr ⟨g1, g3⟩, (pu_lkc h60 hp hC g1).mpr g4⟩
theorem sim_missing {n w : Nat} {x : SX} {m : SM} (hs : Sim n w x m) : xLack (xFiles n (x.1 2) (x.2 1) (x.1 4)) (x.1 7) = mMiss n (m 3) (m 2) (m 4) := by
  obtain ⟨⟨e0, e1, e2, e9, e10, e11, e12⟩, ⟨hn, hm, h60, hw, hmw, h3, hr⟩, hp, hsl, ⟨hS, hC, hZ⟩, hcl, hF, hRf, hMv⟩ := id hs
  rw [xLack_cnt, mMiss_cnt]
  refine congrArg nI (gCnt_congr 100 (fun f hf => ?_))
  have h1 : ¬ xFiles n (x.1 2) (x.2 1) (x.1 4) f = 0 ↔ ¬ mNeed n (m 3) 1 (m 2) (nI f) = 0 := by
    rw [xFiles_nz h60 _ _ _ hf, mNeed_nz h60, e2]
    exact FileOf_congr (fun k hk => (hC k).trans ⟨fun h => h.2, fun h => ⟨hk, h⟩⟩) f
  have h2 := (hF f hf).2
  rw [show 100 * 1 + f = 100 + f from by omega] at h2
  exact decide_eq_decide.mpr (and_congr h1 h2)
theorem sim_missS {n w : Nat} {x : SX} {m : SM} (hs : Sim n w x m) (g : Nat → Int32) : Sim n w (gS x 4 g) (mS m 14 (fun _ => 0)) := by
  unfold Sim at hs ⊢
  simp only [gS_1, gS_2, mS_at, Nat.reduceEqDiff, ↓reduceIte]
  exact hs
theorem sim_load {n w : Nat} {x : SX} {m : SM} (hs : Sim n w x m) {p : Int32} (h1 : ¬ xRange p 100 = 0) :
    (if xHas (x.1 7) p = 0 then (1 : Int32) else 0) = (if m 4 (100 + p.toNatClampNeg) = 0 then 1 else 0) ∧ Sim n w (gS x 7 (xAddF (x.1 7) p)) (mS (mS m 14 (fun _ => 0)) 4 (upd (m 4) (100 + p.toNatClampNeg) 1)) := by
  have hh := sim_hasFile_1 hs h1
  obtain ⟨⟨e0, e1, e2, e9, e10, e11, e12⟩, ⟨hn, hm, h60, hw, hmw, h3, hr⟩, hp, hsl, ⟨hS, hC, hZ⟩, hcl, hF, hRf, hMv⟩ := id hs
  constructor
  · rw [hh, show 100 * 1 + p.toNatClampNeg = 100 + p.toNatClampNeg from by omega]
    by_cases c : m 4 (100 + p.toNatClampNeg) = 0
    · rw [if_pos c, if_pos rfl, if_pos c]
    · rw [if_neg c, if_neg (by decide), if_neg c]
  unfold Sim
  simp only [gS_1, gS_2, gL_1, gL_2, mS_at, Nat.reduceEqDiff, ↓reduceIte]
  refine ⟨⟨e0, e1, e2, e9, e10, e11, e12⟩, ⟨hn, hm, h60, hw, hmw, h3, hr⟩, hp, hsl, ⟨hS, hC, hZ⟩, hcl, ?_, hRf, hMv⟩
  obtain ⟨g, hg, rfl⟩ := (xRange_100 p).mp h1
  have hx : xAddF (x.1 7) (nI g) = upd (x.1 7) g 1 := by
    unfold xAddF
    rw [if_neg h1, nI_clamp (by omega)]
  rw [hx, nI_clamp (by omega)]
  intro f hf
  obtain ⟨g1, g2⟩ := hF f hf
  rw [upd_n _ _ (show 100 * 0 + f ≠ 100 + g by omega)]
  refine ⟨g1, ?_⟩
  by_cases e : f = g
  · subst e
    rw [show 100 * 1 + f = 100 + f from by omega, upd_s, upd_s]
  · rw [upd_n _ _ e, upd_n _ _ (show 100 * 1 + f ≠ 100 + g by omega)]
    exact g2
theorem sim_protect {n w : Nat} {x : SX} {m : SM} (hs : Sim n w x m) (k : Nat) (v : Int32) :
    (if x.1 9 k = v then (0 : Int32) else 1) = (if m 6 k = v then 0 else 1) ∧ Sim n w (gS x 9 (upd (x.1 9) k v)) (mS (mS m 14 (fun _ => 0)) 6 (upd (m 6) k v)) := by
  obtain ⟨⟨e0, e1, e2, e9, e10, e11, e12⟩, ⟨hn, hm, h60, hw, hmw, h3, hr⟩, hp, hsl, ⟨hS, hC, hZ⟩, hcl, hF, hRf, hMv⟩ := id hs
  refine ⟨by rw [e9], ?_⟩
  unfold Sim
  simp only [gS_1, gS_2, gL_1, gL_2, mS_at, Nat.reduceEqDiff, ↓reduceIte]
  exact ⟨⟨e0, e1, e2, by rw [e9], e10, e11, e12⟩, ⟨hn, hm, h60, hw, hmw, h3, hr⟩, hp, hsl, ⟨hS, hC, hZ⟩, hcl, hF, hRf, hMv⟩
theorem sim_move {n w : Nat} {x : SX} {m : SM} (hs : Sim n w x m) {p0 p1 p2 : Int32} (hw3 : w < 3) (h1 : ¬ xRange p0 4 = 0) (h2 : ¬ xCoN n p1 = 0) (h4 : ¬ xCoN n p2 = 0) :
    Sim n (w + 1) (gS (gS (gS (gS x 10 (upd (x.1 10) w p0)) 11 (upd (x.1 11) w p1)) 12 (upd (x.1 12) w p2)) 13 (fun _ => (nI w + 1))) (mS (mS (mS (mS (mS m 14 (fun _ => 0)) 7 (upd (m 7) w p0)) 8 (upd (m 8) w p1)) 9 (upd (m 9) w p2)) 16 (fun _ => (nI w + 1))) := by
  obtain ⟨⟨e0, e1, e2, e9, e10, e11, e12⟩, ⟨hn, hm, h60, hw, hmw, h3, hr⟩, hp, hsl, ⟨hS, hC, hZ⟩, hcl, hF, hRf, hMv⟩ := id hs
  unfold Sim
  simp only [gS_1, gS_2, gL_1, gL_2, mS_at, Nat.reduceEqDiff, ↓reduceIte]
  refine ⟨⟨e0, e1, e2, e9, by rw [e10], by rw [e11], by rw [e12]⟩, ⟨hn, hm, h60, nI_1 w, nI_1 w, by omega, hr⟩, hp, hsl, ⟨hS, hC, hZ⟩, hcl, hF, hRf, fun i hi => ?_⟩
  by_cases e : i = w
  · subst e
    rw [upd_s, upd_s, upd_s]
    exact ⟨(xRange_4 p0).mp h1, con_ne h60 h2, con_ne h60 h4⟩
  · rw [upd_n _ _ e, upd_n _ _ e, upd_n _ _ e]
    exact hMv i (by omega)
