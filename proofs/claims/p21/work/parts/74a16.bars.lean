/-! push: the refusals -/
theorem mBarT_nz {n : Nat} (hn : n ≤ 60) (hc fi se ma : Nat → Int32) (hp : PV n fi se) (nw : Int32) : ¬ mBarT n hc fi se ma nw = 0 ↔ (¬ nw = -1 ∧ mHas n hc 1 nw = 0) ∨ ∃ k, k < n ∧ ¬ ma k = 0 ∧ Hc hc 1 k ∧ LkP fi se (Hc hc 1) k ∧ ¬ Hc hc 0 k := by
  unfold mBarT
  have h := itU_ex (f := mBarStep n hc fi se ma) (fun t => ¬ t = 0) (fun k => ¬ ma k = 0 ∧ Hc hc 1 k ∧ LkP fi se (Hc hc 1) k ∧ ¬ Hc hc 0 k) n 0 (fun k _ hk a => by
    have hsh := mShal_nz (hc := hc) hn hp (show k < n by omega)
    have h0 := mHas_0 (hc := hc) (b := 0) hn (show k < n by omega)
    unfold mBarStep
    by_cases c1 : a = 0
    · rw [if_pos c1]
      by_cases c2 : ma k = 0
      · rw [if_pos c2]
        exact ⟨fun h => absurd rfl h, fun h => h.elim (fun h2 => absurd c1 h2) (fun h2 => absurd c2 h2.1)⟩
      · rw [if_neg c2]
        by_cases c3 : mShal n hc fi se k = 0
        · rw [if_pos c3]
          exact ⟨fun h => absurd rfl h, fun h => h.elim (fun h2 => absurd c1 h2) (fun h2 => absurd c3 (hsh.mpr ⟨h2.2.1, h2.2.2.1⟩))⟩
        · rw [if_neg c3]
          obtain ⟨g1, g2⟩ := hsh.mp c3
          by_cases c4 : mHas n hc 0 (nI k) = 0
          · rw [if_pos c4]
            exact ⟨fun _ => Or.inr ⟨c2, g1, g2, fun h => h (h0.mp c4)⟩, fun _ => by decide⟩
          · rw [if_neg c4]
            exact ⟨fun h => absurd rfl h, fun h => h.elim (fun h2 => absurd c1 h2) (fun h2 => absurd (fun h5 => c4 (h0.mpr h5)) h2.2.2.2)⟩
    · rw [if_neg c1]
      exact ⟨fun _ => Or.inl c1, fun _ => by decide⟩) (mBar0 n hc nw)
  rw [h]
  have h0 : ¬ mBar0 n hc nw = 0 ↔ ¬ nw = -1 ∧ mHas n hc 1 nw = 0 := by
    unfold mBar0
    by_cases c1 : nw = -1
    · rw [if_pos c1]
      exact ⟨fun h => absurd rfl h, fun h => absurd c1 h.1⟩
    · rw [if_neg c1]
      by_cases c2 : mHas n hc 1 nw = 0
      · rw [if_pos c2]
        exact ⟨fun _ => ⟨c1, c2⟩, fun _ => by decide⟩
      · rw [if_neg c2]
        exact ⟨fun h => absurd rfl h, fun h => absurd h.2 c2⟩
  rw [h0]
  constructor
  · rintro (h1 | ⟨k, -, h2, h3⟩)
    · exact Or.inl h1
    · exact Or.inr ⟨k, by omega, h3⟩
  · rintro (h1 | ⟨k, h2, h3⟩)
    · exact Or.inl h1
    · exact Or.inr ⟨k, by omega, by omega, h3⟩
theorem xEnds_nz {n : Nat} (fp sp : Nat → Int32) (srv cli an : Int64) : ¬ xEnds n fp sp srv cli an = 0 ↔ ∃ k, Bt an k ∧ Bt (xShallow n fp sp cli) k ∧ ¬ Bt srv k := by
  unfold xEnds
  by_cases c : ((an &&& xShallow n fp sp cli) &&& (srv ^^^ (-1))) = 0
  · rw [if_pos c]
    rw [Bt_eq0] at c
    exact ⟨fun h => absurd rfl h, fun ⟨k, h1, h2, h4⟩ => absurd ((Bt_wo _ _ _).mpr ⟨(Bt_and _ _ _).mpr ⟨h1, h2⟩, h4⟩) (c k)⟩
  · rw [if_neg c]
    refine ⟨fun _ => Classical.byContradiction (fun h => c ?_), fun _ => by decide⟩
    rw [Bt_eq0]
    intro k h1
    obtain ⟨h2, h4⟩ := (Bt_wo _ _ _).mp h1
    obtain ⟨h5, h6⟩ := (Bt_and _ _ _).mp h2
    exact h ⟨k, h5, h6, h4⟩
/-- whether a move's new commit lacks something: the class's word and the reference's -/
theorem lack_eq {n : Nat} {fp sp hc : Nat → Int32} {srv cli : Int64} (hn : n ≤ 60) (hp : PV n fp sp) (hS : RM n srv (Hc hc 0)) (hC : RM n cli (Hc hc 1)) {its : Int32} (hv : vC n its) (ma : Nat → Int32) :
    xRefuse2 its (xAnc n fp sp (xSet its) cli) (xEnds n fp sp srv cli (xAnc n fp sp (xSet its) cli)) = mBarB n hc fp sp (mFrom1 n hc fp sp ma its) its := by
  obtain ⟨a1, a2⟩ := from_1 hn hp hC ma its
  have hT := mBarT_nz hn hc fp sp (mFrom1 n hc fp sp ma its) hp its
  have hE := xEnds_nz fp sp srv cli (xAnc n fp sp (xSet its) cli) (n := n)
  have hex : (∃ k, k < n ∧ ¬ mFrom1 n hc fp sp ma its k = 0 ∧ Hc hc 1 k ∧ LkP fp sp (Hc hc 1) k ∧ ¬ Hc hc 0 k) ↔ ¬ xEnds n fp sp srv cli (xAnc n fp sp (xSet its) cli) = 0 := by
    rw [hE]
    constructor
    · rintro ⟨k, g1, g2, g3, g4, g5⟩
      exact ⟨k, (a1 k).mpr ⟨g1, g2⟩, (Bt_shallow hn cli k).mpr ⟨g1, (hC k).mpr ⟨g1, g3⟩, (pu_lkc hn hp hC g1).mpr g4⟩, fun g6 => g5 ((hS k).mp g6).2⟩
    · rintro ⟨k, g1, g2, g3⟩
      obtain ⟨g4, g5, g6⟩ := (Bt_shallow hn cli k).mp g2
      exact ⟨k, g4, ((a1 k).mp g1).2, ((hC k).mp g5).2, (pu_lkc hn hp hC g4).mp g6, fun g7 => g3 ((hS k).mpr ⟨g4, g7⟩)⟩
  rw [hex] at hT
  unfold xRefuse2 mBarB
  by_cases c1 : its = -1
  · have hnone : ∀ j, ¬ Bt (xAnc n fp sp (xSet its) cli) j := anc_none hn (fun j h => by
      have := ((Bt_set _ _).mp h.1)
      rw [c1] at this
      exact nI_m1 (show j < 2 ^ 31 by omega) this.2.symm)
    have he : xEnds n fp sp srv cli (xAnc n fp sp (xSet its) cli) = 0 := Classical.byContradiction (fun h => by
      obtain ⟨k, g1, -⟩ := hE.mp h
      exact hnone k g1)
    rw [if_pos c1, if_pos (Classical.byContradiction (fun h => (hT.mp h).elim (fun h2 => h2.1 c1) (fun h2 => h2 he)))]
  · rw [if_neg c1]
    obtain ⟨j, hj, e⟩ := hv.resolve_left c1
    have h0 : xAnc n fp sp (xSet its) cli = 0 ↔ mHas n hc 1 its = 0 := by
      rw [e, mHas_0 hn hj, Bt_eq0]
      constructor
      · intro h
        refine Classical.byContradiction (fun h2 => h j (anc_in hn ⟨(Bt_set _ _).mpr ⟨by omega, rfl⟩, (hC j).mpr ⟨hj, h2⟩⟩))
      · intro h
        refine anc_none hn (fun i hi => ?_)
        have h4 := ((Bt_set _ _).mp hi.1)
        rw [← (nI_eq (by omega) (by omega)).mp h4.2] at hi
        exact ((hC j).mp hi.2).2 h
    by_cases c2 : xAnc n fp sp (xSet its) cli = 0
    · rw [if_pos c2, if_neg (hT.mpr (Or.inl ⟨c1, h0.mp c2⟩))]
    · rw [if_neg c2]
      by_cases c3 : xEnds n fp sp srv cli (xAnc n fp sp (xSet its) cli) = 0
      · rw [if_pos c3, if_pos (Classical.byContradiction (fun h => (hT.mp h).elim (fun h2 => c2 (h0.mpr h2.2)) (fun h2 => h2 c3)))]
      · rw [if_neg c3, if_neg (hT.mpr (Or.inr c3))]
theorem bar_eq {n : Nat} {fp sp hc r0 rf pr mr mo mw : Nat → Int32} {srv cli : Int64} (hn : n ≤ 60) (hp : PV n fp sp) (hS : RM n srv (Hc hc 0)) (hC : RM n cli (Hc hc 1)) (hr : ∀ r, r < 4 → r0 r = rf r) {i : Nat} (hi : (∃ r : Nat, r < 4 ∧ mr i = nI r) ∧ vC n (mo i) ∧ vC n (mw i)) (ma : Nat → Int32) :
    xRefuse n fp sp r0 pr srv cli (mr i) (mo i) (mw i) = (mBar n hc fp sp rf pr mr mo mw ma i).1 := by
  obtain ⟨⟨r, hr4, e⟩, h1, h2⟩ := hi
  have hL := lack_eq hn hp hS hC h2 ma
  obtain ⟨a1, a2⟩ := from_1 hn hp hC ma (mw i)
  have hpr : xProt pr (nI r) = 0 ↔ pr r = 0 := by
    unfold xProt
    rw [if_neg (show ¬ xRange (nI r) 4 = 0 from (xRange_4 _).mpr ⟨r, hr4, rfl⟩), nI_clamp (by omega)]
    by_cases c : pr r = 0
    · rw [if_pos c]
      exact ⟨fun _ => c, fun _ => rfl⟩
    · rw [if_neg c]
      exact ⟨fun h => absurd h (by decide), fun h => absurd h c⟩
  unfold xRefuse mBar
  rw [e, xRefOf_nI r0 hr4, nI_clamp (by omega), hr r hr4]
  by_cases c1 : rf r = mo i
  · rw [if_pos c1, if_pos c1]
    show _ = mBarP n hc fp sp pr mr mo mw (mFrom1 n hc fp sp ma (mw i)) i
    unfold mBarP
    rw [e, nI_clamp (by omega)]
    by_cases c2 : pr r = 0
    · rw [if_pos (hpr.mpr c2), if_pos c2]
      exact hL
    · rw [if_neg (fun h => c2 (hpr.mp h)), if_neg c2]
      by_cases c3 : mo i = -1
      · rw [if_pos c3, if_pos c3]
        exact hL
      · rw [if_neg c3, if_neg c3]
        obtain ⟨j, hj, e2⟩ := h1.resolve_left c3
        have h0 := xCon_0 (xAnc n fp sp (xSet (mw i)) cli) (k := j) (by omega)
        rw [a1 j] at h0
        rw [e2, nI_clamp (by omega)]
        by_cases c4 : mFrom1 n hc fp sp ma (mw i) j = 0
        · rw [if_pos (h0.mpr (fun h => h.2 c4)), if_pos c4]
        · rw [if_neg (fun h => h0.mp h ⟨hj, c4⟩), if_neg c4]
          exact hL
  · rw [if_neg c1, if_neg c1]
theorem bars_eq {n w : Nat} {fp sp hc r0 rf pr mr mo mw : Nat → Int32} {srv cli : Int64} (hn : n ≤ 60) (hp : PV n fp sp) (hS : RM n srv (Hc hc 0)) (hC : RM n cli (Hc hc 1)) (hr : ∀ r, r < 4 → r0 r = rf r) (hM : Mov n w mr mo mw) : ∀ (d i : Nat) (ma : Nat → Int32), i + d = w →
    xFirstL (fun k => xRefuse n fp sp r0 pr srv cli (mr k) (mo k) (mw k)) d i = (mBars n hc fp sp rf pr mr mo mw d i ma).1
  | 0, _, _, _ => rfl
  | d + 1, i, ma, h => by
    have hb := bar_eq (pr := pr) hn hp hS hC hr (hM i (by omega)) ma
    show (if xRefuse n fp sp r0 pr srv cli (mr i) (mo i) (mw i) = 0 then xFirstL (fun k => xRefuse n fp sp r0 pr srv cli (mr k) (mo k) (mw k)) d (i + 1) else xRefuse n fp sp r0 pr srv cli (mr i) (mo i) (mw i)) = (if (mBar n hc fp sp rf pr mr mo mw ma i).1 = 0 then mBars n hc fp sp rf pr mr mo mw d (i + 1) (mBar n hc fp sp rf pr mr mo mw ma i).2 else mBar n hc fp sp rf pr mr mo mw ma i).1
    rw [hb]
    by_cases c : (mBar n hc fp sp rf pr mr mo mw ma i).1 = 0
    · rw [if_pos c, if_pos c]
      exact bars_eq hn hp hS hC hr hM d (i + 1) _ (by omega)
    · rw [if_neg c, if_neg c]
theorem sim_first {n w : Nat} {x : SX} {m : SM} (hs : Sim n w x m) (ma : Nat → Int32) : xFirst n (x.1 0) (x.1 1) (x.1 6) (x.1 9) (x.2 0) (x.2 1) (x.1 10) (x.1 11) (x.1 12) w = (mBars n (m 3) (m 0) (m 1) (m 5) (m 6) (m 7) (m 8) (m 9) w 0 ma).1 := by
  obtain ⟨⟨e0, e1, e2, e9, e10, e11, e12⟩, ⟨hn, hm, h60, hw, hmw, h3, hr⟩, hp, hsl, ⟨hS, hC, hZ⟩, hcl, hF, hRf, hMv⟩ := id hs
  unfold xFirst
  rw [e0, e1, e9, e10, e11, e12]
  exact bars_eq h60 hp hS hC (fun r hr4 => by
    have := (hRf r hr4).1
    rw [show 4 * 0 + r = r from by omega] at this
    exact this) hMv w 0 ma (by omega)
theorem first_0 {f : Nat → Int32} : ∀ (d i : Nat), xFirstL f d i = 0 → ∀ k, i ≤ k → k < i + d → f k = 0
  | 0, _, _, _, h1, h2 => absurd h2 (by omega)
  | d + 1, i, h, k, h1, h2 => by
    have h : (if f i = 0 then xFirstL f d (i + 1) else f i) = 0 := h
    by_cases c : f i = 0
    · rw [if_pos c] at h
      by_cases e : k = i
      · rw [e]
        exact c
      · exact first_0 d (i + 1) h k (by omega) (by omega)
    · rw [if_neg c] at h
      exact absurd h c
/-- a move that isn't refused: the client has its new commit, and what is shallow of it the server has -/
theorem ref_ok {n : Nat} {fp sp r0 pr : Nat → Int32} {srv cli : Int64} (hn : n ≤ 60) {r old its : Int32} (h : xRefuse n fp sp r0 pr srv cli r old its = 0) :
    (its = -1 ∨ ∃ j, Bt (xSet its) j ∧ Bt cli j) ∧ ∀ k, Bt (xAnc n fp sp (xSet its) cli) k → Bt (xShallow n fp sp cli) k → Bt srv k := by
  have h2 : xRefuse2 its (xAnc n fp sp (xSet its) cli) (xEnds n fp sp srv cli (xAnc n fp sp (xSet its) cli)) = 0 := by
    unfold xRefuse at h
    by_cases c1 : xRefOf r0 r = old
    · rw [if_pos c1] at h
      by_cases c2 : xProt pr r = 0
      · rw [if_pos c2] at h
        exact h
      · rw [if_neg c2] at h
        by_cases c3 : old = -1
        · rw [if_pos c3] at h
          exact h
        · rw [if_neg c3] at h
          by_cases c4 : xCon (xAnc n fp sp (xSet its) cli) old = 0
          · rw [if_pos c4] at h
            exact absurd h (by decide)
          · rw [if_neg c4] at h
            exact h
    · rw [if_neg c1] at h
      exact absurd h (by decide)
  have hE := xEnds_nz fp sp srv cli (xAnc n fp sp (xSet its) cli) (n := n)
  unfold xRefuse2 at h2
  by_cases c1 : its = -1
  · refine ⟨Or.inl c1, fun k hk => absurd hk (anc_none hn (fun j h => ?_) k)⟩
    have := ((Bt_set _ _).mp h.1)
    rw [c1] at this
    exact nI_m1 (show j < 2 ^ 31 by omega) this.2.symm
  · rw [if_neg c1] at h2
    by_cases c2 : xAnc n fp sp (xSet its) cli = 0
    · rw [if_pos c2] at h2
      exact absurd h2 (by decide)
    · rw [if_neg c2] at h2
      by_cases c3 : xEnds n fp sp srv cli (xAnc n fp sp (xSet its) cli) = 0
      · refine ⟨Or.inr (Classical.byContradiction (fun h5 => c2 ?_)), fun k g1 g2 => Classical.byContradiction (fun g3 => hE.mpr ⟨k, g1, g2, g3⟩ c3)⟩
        rw [Bt_eq0]
        exact anc_none hn (fun j hj => h5 ⟨j, hj⟩)
      · rw [if_neg c3] at h2
        exact absurd h2 (by decide)
