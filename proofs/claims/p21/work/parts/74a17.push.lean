/-! push: the moves done -/
def PshI (n : Nat) (fp sp sl : Nat → Int32) (srv cli : Int64) (hc hf rf : Nat → Int32) (a : Int64 × (Nat → Int32)) (b : Int32 × ((Nat → Int32) × ((Nat → Int32) × ((Nat → Int32) × (Nat → Int32))))) : Prop :=
  b.1 = nI (gCnt (fun k => (xAnc n fp sp a.1 cli).toBitVec.getLsbD k && decide (hc (60 * 0 + k) = 0)) n) ∧
  (∀ k, k < 60 → b.2.2.1 (60 * 1 + k) = hc (60 * 1 + k) ∧ (b.2.2.1 (60 * 0 + k) = 0 ↔ hc (60 * 0 + k) = 0 ∧ ¬ Bt (xAnc n fp sp a.1 cli) k)) ∧
  (∀ f, f < 100 → b.2.2.2.1 (100 * 1 + f) = hf (100 * 1 + f) ∧ (¬ b.2.2.2.1 (100 * 0 + f) = 0 ↔ ¬ hf (100 * 0 + f) = 0 ∨ (¬ hf (100 * 1 + f) = 0 ∧ FileOf n sl (Bt (xAnc n fp sp a.1 cli)) f))) ∧
  (∀ r, r < 4 → a.2 r = b.2.2.2.2 (4 * 0 + r) ∧ b.2.2.2.2 (4 * 1 + r) = rf (4 * 1 + r) ∧ (b.2.2.2.2 (4 * 0 + r) = -1 ∨ ∃ j : Nat, j < n ∧ b.2.2.2.2 (4 * 0 + r) = nI j ∧ (Bt srv j ∨ Bt (xAnc n fp sp a.1 cli) j))) ∧
  (∀ k, Bt (xAnc n fp sp a.1 cli) k → Bt (xShallow n fp sp cli) k → Bt srv k)
theorem gain_cnt {n : Nat} {p a b : Nat → Bool} {c0 : Nat} {v : Int32} (hc0 : c0 = gCnt a n) (hv : ∃ c : Nat, nI c0 = nI c ∧ v = nI (c + gCnt b n)) (h : ∀ k, k < n → p k = (a k || b k) ∧ (a k && b k) = false) : v = nI (gCnt p n) := by
  obtain ⟨c, h1, h2⟩ := hv
  rw [h2, ← nI_add, ← h1, nI_add, hc0, gCnt_add n h]
set_option maxHeartbeats 4000000 in
theorem push_step {n : Nat} {fp sp sl hc hf rf mr mw : Nat → Int32} {srv cli : Int64} (hn : n ≤ 60) (hp : PV n fp sp) (hsl : SVal n sl) (hC : RM n cli (Hc hc 1)) {i : Nat} (hmr : ∃ r : Nat, r < 4 ∧ mr i = nI r) (hmw : vC n (mw i))
    (hok : (mw i = -1 ∨ ∃ j, Bt (xSet (mw i)) j ∧ Bt cli j) ∧ ∀ k, Bt (xAnc n fp sp (xSet (mw i)) cli) k → Bt (xShallow n fp sp cli) k → Bt srv k) (a : Int64 × (Nat → Int32)) (b : Int32 × ((Nat → Int32) × ((Nat → Int32) × ((Nat → Int32) × (Nat → Int32)))))
    (hR : PshI n fp sp sl srv cli hc hf rf a b) : PshI n fp sp sl srv cli hc hf rf (xMvStep mr mw i a) (mPushO n fp sp sl mr mw i b) := by
  obtain ⟨T, rx⟩ := a
  obtain ⟨c, ma, hc', hf', rf'⟩ := b
  obtain ⟨i1, i2, i3, i4, i5⟩ := hR
  dsimp only at i1 i2 i3 i4 i5
  obtain ⟨r, hr4, er⟩ := hmr
  have hC' : RM n cli (Hc hc' 1) := fun k => by
    rw [hC k]
    unfold Hc
    constructor
    · rintro ⟨g1, g2⟩
      exact ⟨g1, by rw [(i2 k (by omega)).1]; exact g2⟩
    · rintro ⟨g1, g2⟩
      rw [(i2 k (by omega)).1] at g2
      exact ⟨g1, g2⟩
  obtain ⟨a1, a2⟩ := from_1 hn hp hC' ma (mw i)
  have hor := fun k => anc_or (n := n) (fp := fp) (sp := sp) (held := cli) (s := T) (t := xSet (mw i)) hn hp k
  have hst : mPushO n fp sp sl mr mw i (c, ma, hc', hf', rf') = ((itU (mPushI n (mFrom1 n hc' fp sp ma (mw i)) sl) n 0 (c, hc', hf')).1, mFrom1 n hc' fp sp ma (mw i), (itU (mPushI n (mFrom1 n hc' fp sp ma (mw i)) sl) n 0 (c, hc', hf')).2.1, (itU (mPushI n (mFrom1 n hc' fp sp ma (mw i)) sl) n 0 (c, hc', hf')).2.2, upd rf' r (mw i)) := by
    unfold mPushO
    dsimp only
    rw [er, nI_clamp (by omega)]
  have hG := gain_all (n := n) (G := fun k => decide (¬ mFrom1 n hc' fp sp ma (mw i) k = 0)) (fr := 1) (b := 0) (sl := sl) (p := 1) (hc := hc') (hf := hf') (c := gCnt (fun k => (xAnc n fp sp T cli).toBitVec.getLsbD k && decide (hc (60 * 0 + k) = 0)) n) hn hsl (by decide)
  rw [← mPushI_gn, ← i1] at hG
  rw [hst]
  generalize itU (mPushI n (mFrom1 n hc' fp sp ma (mw i)) sl) n 0 (c, hc', hf') = Z at hG ⊢
  obtain ⟨hG1, hG2, hG3⟩ := hG
  rw [i1] at hG1
  have hGk : ∀ k, k < n → ((fun k => decide (¬ mFrom1 n hc' fp sp ma (mw i) k = 0)) k = true ↔ Bt (xAnc n fp sp (xSet (mw i)) cli) k) := fun k hk => by
    rw [a1 k]
    exact ⟨fun h => ⟨hk, of_decide_eq_true (p := ¬ mFrom1 n hc' fp sp ma (mw i) k = 0) h⟩, fun h => decide_eq_true (show ¬ mFrom1 n hc' fp sp ma (mw i) k = 0 from h.2)⟩
  refine ⟨gain_cnt rfl hG1 (fun k hk => ?_), fun k hk => ?_, fun f hf1 => ?_, fun q hq => ?_, fun k hk => ?_⟩
  · have h0 := (i2 k (by omega)).2
    have hg := hGk k hk
    have ho := hor k
    constructor
    · refine Bool.eq_iff_iff.mpr ?_
      rw [Bool.or_eq_true, Bool.and_eq_true, Bool.and_eq_true, Bool.and_eq_true, hg, decide_eq_true_iff, decide_eq_true_iff, h0]
      show Bt (xAnc n fp sp (T ||| xSet (mw i)) cli) k ∧ _ ↔ (Bt (xAnc n fp sp T cli) k ∧ _) ∨ _
      rw [ho]
      constructor
      · rintro ⟨h1 | h1, h2⟩
        · exact Or.inl ⟨h1, h2⟩
        · by_cases h4 : Bt (xAnc n fp sp T cli) k
          · exact Or.inl ⟨h4, h2⟩
          · exact Or.inr ⟨h1, h2, h4⟩
      · rintro (⟨h1, h2⟩ | ⟨h1, h2, -⟩)
        · exact ⟨Or.inl h1, h2⟩
        · exact ⟨Or.inr h1, h2⟩
    · refine Bool.eq_false_iff.mpr (fun h => ?_)
      rw [Bool.and_eq_true, Bool.and_eq_true, Bool.and_eq_true] at h
      exact (h0.mp (of_decide_eq_true h.2.2)).2 h.1.1
  · obtain ⟨g1, g2⟩ := i2 k hk
    obtain ⟨g3, g4⟩ := hG2 k hk
    refine ⟨g3.trans g1, g4.trans ?_⟩
    show _ ↔ _ ∧ ¬ Bt (xAnc n fp sp (T ||| xSet (mw i)) cli) k
    rw [g2, hor k]
    constructor
    · rintro ⟨⟨h1, h2⟩, h4⟩
      refine ⟨h1, fun h => h.elim h2 (fun h5 => h4 ?_)⟩
      have hkn := ((a1 k).mp h5).1
      exact ⟨hkn, (hGk k hkn).mpr h5⟩
    · rintro ⟨h1, h2⟩
      exact ⟨⟨h1, fun h => h2 (Or.inl h)⟩, fun h => h2 (Or.inr ((hGk k h.1).mp h.2))⟩
  · obtain ⟨g1, g2⟩ := i3 f hf1
    obtain ⟨g3, g4⟩ := hG3 f hf1
    refine ⟨g3.trans g1, g4.trans ?_⟩
    show _ ↔ _ ∨ (_ ∧ FileOf n sl (Bt (xAnc n fp sp (T ||| xSet (mw i)) cli)) f)
    rw [g2, g1]
    constructor
    · rintro ((h | ⟨h1, k, h2, h4, h5⟩) | ⟨-, h1, k, h2, h4, h5⟩)
      · exact Or.inl h
      · exact Or.inr ⟨h1, k, h2, (hor k).mpr (Or.inl h4), h5⟩
      · exact Or.inr ⟨h1, k, h2, (hor k).mpr (Or.inr ((hGk k h2).mp h4)), h5⟩
    · rintro (h | ⟨h1, k, h2, h4, h5⟩)
      · exact Or.inl (Or.inl h)
      · rcases (hor k).mp h4 with h4 | h4
        · exact Or.inl (Or.inr ⟨h1, k, h2, h4, h5⟩)
        · exact Or.inr ⟨by decide, h1, k, h2, (hGk k h2).mpr h4, h5⟩
  · obtain ⟨g1, g2, g3⟩ := i4 q hq
    have hx : (xMvStep mr mw i (T, rx)).2 = upd rx r (mw i) := by
      show xPoint rx (mr i) (mw i) = _
      unfold xPoint
      rw [er, if_neg (show ¬ xRange (nI r) 4 = 0 from (xRange_4 _).mpr ⟨r, hr4, rfl⟩), nI_clamp (by omega)]
    rw [hx]
    show upd rx r (mw i) q = upd rf' r (mw i) (4 * 0 + q) ∧ upd rf' r (mw i) (4 * 1 + q) = _ ∧ (upd rf' r (mw i) (4 * 0 + q) = -1 ∨ ∃ j : Nat, j < n ∧ upd rf' r (mw i) (4 * 0 + q) = nI j ∧ (Bt srv j ∨ Bt (xAnc n fp sp (T ||| xSet (mw i)) cli) j))
    rw [upd_n _ _ (show 4 * 1 + q ≠ r by omega)]
    by_cases e : q = r
    · rw [e, show 4 * 0 + r = r from by omega, upd_s, upd_s]
      rw [e] at g2
      refine ⟨rfl, g2, ?_⟩
      rcases hok.1 with h | ⟨j, h1, h2⟩
      · exact Or.inl h
      · exact Or.inr ⟨j, ((hC j).mp h2).1, ((Bt_set _ _).mp h1).2, Or.inr ((hor j).mpr (Or.inr (anc_in hn ⟨h1, h2⟩)))⟩
    · rw [upd_n _ _ e, upd_n _ _ (show 4 * 0 + q ≠ r by omega)]
      exact ⟨g1, g2, g3.elim Or.inl (fun ⟨j, h1, h2, h4⟩ => Or.inr ⟨j, h1, h2, h4.elim Or.inl (fun h5 => Or.inr ((hor j).mpr (Or.inl h5)))⟩)⟩
  · intro h
    rcases (hor k).mp hk with h1 | h1
    · exact i5 k h1 h
    · exact hok.2 k h1 h
set_option maxHeartbeats 4000000 in
theorem sim_push {n w : Nat} {x : SX} {m : SM} (hs : Sim n w x m) (hz : xFirst n (x.1 0) (x.1 1) (x.1 6) (x.1 9) (x.2 0) (x.2 1) (x.1 10) (x.1 11) (x.1 12) w = 0) (ff ma d10 : Nat → Int32) (X : Int64 × (Nat → Int32)) (sent : Int64) (P : Int32 × ((Nat → Int32) × ((Nat → Int32) × ((Nat → Int32) × (Nat → Int32)))))
    (hX : X = xMv (x.1 10) (x.1 12) (x.1 6) w) (hsent : sent = xAnc n (x.1 0) (x.1 1) X.1 (x.2 1)) (hP : P = itU (mPushO n (m 0) (m 1) (m 2) (m 7) (m 9)) w 0 (0, ma, m 3, m 4, m 5)) :
    xBits (sent &&& (x.2 0 ^^^ (-1))) = P.1 ∧ Sim n 0 (gL (gS (gS (gS (gS x 4 ff) 5 (xAddFs (xFiles n (x.1 2) sent (x.1 4)) (x.1 7) (x.1 5))) 6 X.2) 13 (fun _ => 0)) 0 (x.2 0 ||| sent)) (mS (mS (mS (mS (mS (mS m 14 (fun _ => 0)) 16 (fun _ => 0)) 10 d10) 3 P.2.2.1) 4 P.2.2.2.1) 5 P.2.2.2.2) := by
  obtain ⟨⟨e0, e1, e2, e9, e10, e11, e12⟩, ⟨hn, hm, h60, hw, hmw, h3, hr⟩, hp, hsl, ⟨hS, hC, hZ⟩, hcl, hF, hRf, hMv⟩ := id hs
  unfold xFirst at hz
  have hok := first_0 w 0 hz
  rw [e0, e1, e9, e10, e11, e12] at hok
  rw [e10, e12] at hX
  rw [e0, e1] at hsent
  have hI := itU_relN (f := xMvStep (m 7) (m 9)) (g := mPushO n (m 0) (m 1) (m 2) (m 7) (m 9)) (fun _ a b => PshI n (m 0) (m 1) (m 2) (x.2 0) (x.2 1) (m 3) (m 4) (m 5) a b) w 0 (fun k _ hk a b h => push_step h60 hp hsl hC (hMv k (by omega)).1 (hMv k (by omega)).2.2 (ref_ok h60 (hok k (Nat.zero_le k) hk)) a b h) (0, x.1 6) (0, ma, m 3, m 4, m 5) (by
    have hno : ∀ k, ¬ Bt (xAnc n (m 0) (m 1) 0 (x.2 1)) k := anc_none h60 (fun j h => Bt_0 j h.1)
    refine ⟨?_, fun k hk => ⟨rfl, ⟨fun h => ⟨h, hno k⟩, fun h => h.1⟩⟩, fun f hf1 => ⟨rfl, ⟨Or.inl, fun h => h.elim id (fun ⟨_, k, _, h4, _⟩ => absurd h4 (hno k))⟩⟩, fun r hr4 => ?_, fun k hk => absurd hk (hno k)⟩
    · have : gCnt (fun k => (xAnc n (m 0) (m 1) 0 (x.2 1)).toBitVec.getLsbD k && decide (m 3 (60 * 0 + k) = 0)) n = gCnt (fun _ => false) n := gCnt_congr n (fun k _ => by
        have : (xAnc n (m 0) (m 1) 0 (x.2 1)).toBitVec.getLsbD k = false := Bool.eq_false_iff.mpr (hno k)
        rw [this]
        rfl)
      show (0 : Int32) = _
      rw [this]
      have h0 := gCnt_ext (p := fun _ => false) (n := 0) (fun _ _ => rfl) n
      rw [Nat.zero_add] at h0
      rw [h0]
      exact nI_0.symm
    · obtain ⟨g1, g2, g3⟩ := hRf r hr4
      exact ⟨g1, rfl, g3.elim Or.inl (fun ⟨j, h1, h2, h4⟩ => Or.inr ⟨j, h1, h2, Or.inl h4⟩)⟩)
  rw [← hP] at hI
  have hX2 : itU (xMvStep (m 7) (m 9)) w 0 (0, x.1 6) = X := hX.symm
  rw [hX2] at hI
  obtain ⟨i1, i2, i3, i4, i5⟩ := hI
  rw [← hsent] at i1 i2 i3 i4 i5
  have hsc : ∀ k, Bt sent k → Bt (x.2 1) k := fun k h => by
    rw [hsent] at h
    exact anc_least (T := fun k => Bt (x.2 1) k) h60 (fun j _ h2 => h2) (fun i hi h1 h2 j hj h4 => by
      refine Classical.byContradiction (fun h5 => h2 ((Bt_shallow h60 _ _).mpr ⟨hi, h1, j, hj, h4, h5⟩))) k h
  refine ⟨?_, ?_⟩
  · rw [i1]
    refine bits_cnt h60 (fun k hk => ?_) (fun k hk h => absurd ((hC k).mp (hsc k ((Bt_wo _ _ _).mp h).1)).1 (by omega))
    rw [Bt_wo, hS k, Bool.and_eq_true, decide_eq_true_iff]
    unfold Hc
    exact ⟨fun h => ⟨h.1, Classical.byContradiction (fun h2 => h.2 ⟨hk, h2⟩)⟩, fun h => ⟨h.1, fun h2 => h2.2 h.2⟩⟩
  unfold Sim
  simp only [gS_1, gS_2, gL_1, gL_2, mS_at, Nat.reduceEqDiff, ↓reduceIte]
  refine ⟨⟨e0, e1, e2, e9, e10, e11, e12⟩, ⟨hn, hm, h60, rfl, rfl, by omega, hr⟩, hp, hsl, ⟨fun k => ?_, fun k => ?_, fun b k hb h1 h2 => ?_⟩, fun k hk2 hb hlk => ?_, fun f hf => ⟨?_, ?_⟩, fun r hr4 => ?_, fun i hi => absurd hi (Nat.not_lt_zero i)⟩
  · rw [Bt_or, hS k]
    unfold Hc
    constructor
    · rintro (⟨g1, g2⟩ | g1)
      · exact ⟨g1, fun h => g2 ((i2 k (by omega)).2.mp h).1⟩
      · have := ((hC k).mp (hsc k g1)).1
        exact ⟨this, fun h => ((i2 k (by omega)).2.mp h).2 g1⟩
    · rintro ⟨g1, g2⟩
      by_cases g3 : Bt sent k
      · exact Or.inr g3
      · exact Or.inl ⟨g1, fun h => g2 ((i2 k (by omega)).2.mpr ⟨h, g3⟩)⟩
  · rw [hC k]
    unfold Hc
    constructor
    · rintro ⟨g1, g2⟩
      exact ⟨g1, by rw [(i2 k (by omega)).1]; exact g2⟩
    · rintro ⟨g1, g2⟩
      rw [(i2 k (by omega)).1] at g2
      exact ⟨g1, g2⟩
  · rcases (show b = 0 ∨ b = 1 by omega) with rfl | rfl
    · exact (i2 k h2).2.mpr ⟨hZ 0 k (by omega) h1 h2, fun h => absurd ((hC k).mp (hsc k h)).1 (by omega)⟩
    · rw [(i2 k h2).1]
      exact hZ 1 k (by omega) h1 h2
  · obtain ⟨j, hj, hpar, hnot⟩ := hlk
    have hsrv : Bt (x.2 0) k → False := fun h => hcl k hk2 h ⟨j, hj, hpar, fun h4 => hnot ((Bt_or _ _ _).mpr (Or.inl h4))⟩
    rcases (Bt_or _ _ _).mp hb with h | h
    · exact hsrv h
    · by_cases c : Bt (xShallow n (m 0) (m 1) (x.2 1)) k
      · exact hsrv (i5 k h c)
      · rw [hsent] at h
        have := anc_up h60 hp hk2 h c hj hpar
        rw [← hsent] at this
        exact hnot ((Bt_or _ _ _).mpr (Or.inr this))
  · have key : ¬ xAddFs (xFiles n (x.1 2) sent (x.1 4)) (x.1 7) (x.1 5) f = 0 ↔ ¬ P.2.2.2.1 (100 * 0 + f) = 0 := by
      rw [xAddFs_nz _ _ _ hf, xFiles_nz h60 _ _ _ hf, (i3 f hf).2, (hF f hf).1, (hF f hf).2, e2]
      exact ⟨fun h => h.elim Or.inl (fun h2 => Or.inr ⟨h2.2, h2.1⟩), fun h => h.elim Or.inl (fun h2 => Or.inr ⟨h2.2, h2.1⟩)⟩
    exact ⟨fun h => Classical.byContradiction (fun h4 => key.mpr h4 h), fun h => Classical.byContradiction (fun h4 => key.mp h4 h)⟩
  · rw [(i3 f hf).1]
    exact (hF f hf).2
  · obtain ⟨g1, g2, g3⟩ := i4 r hr4
    exact ⟨g1, by rw [g2]; exact (hRf r hr4).2.1, g3.elim Or.inl (fun ⟨j, h1, h2, h4⟩ => Or.inr ⟨j, h1, h2, (Bt_or _ _ _).mpr h4⟩)⟩
theorem sim_pushR {n w : Nat} {x : SX} {m : SM} (hs : Sim n w x m) (ff d10 : Nat → Int32) : Sim n 0 (gL (gS (gS (gS (gS x 4 ff) 5 (x.1 5)) 6 (x.1 6)) 13 (fun _ => 0)) 0 (x.2 0)) (mS (mS (mS m 14 (fun _ => 0)) 16 (fun _ => 0)) 10 d10) := by
  obtain ⟨⟨e0, e1, e2, e9, e10, e11, e12⟩, ⟨hn, hm, h60, hw, hmw, h3, hr⟩, hp, hsl, ⟨hS, hC, hZ⟩, hcl, hF, hRf, hMv⟩ := id hs
  unfold Sim
  simp only [gS_1, gS_2, gL_1, gL_2, mS_at, Nat.reduceEqDiff, ↓reduceIte]
  exact ⟨⟨e0, e1, e2, e9, e10, e11, e12⟩, ⟨hn, hm, h60, rfl, rfl, by omega, hr⟩, hp, hsl, ⟨hS, hC, hZ⟩, hcl, hF, hRf, fun i hi => absurd hi (Nat.not_lt_zero i)⟩
