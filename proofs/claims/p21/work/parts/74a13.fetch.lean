/-! fetches -/
/-- what stands when a fetch isn't refused -/
theorem sim_fetOk {n w : Nat} {x : SX} {m : SM} (hs : Sim n w x m) {p0 p1 : Int32} (hz : xFetC p0 p1 (x.1 6) = 0) :
    ¬ xRange p0 4 = 0 ∧ ¬ p1 < 0 ∧ p1 ≤ 60 ∧ ¬ xRefOf (x.1 6) p0 = -1 ∧ ¬ mIn p1 0 60 = 0 ∧ ∃ r j0 dp : Nat, r < 4 ∧ p0 = nI r ∧ j0 < n ∧ m 5 r = nI j0 ∧ xRefOf (x.1 6) p0 = nI j0 ∧ Bt (x.2 0) j0 ∧ dp ≤ 60 ∧ p1 = nI dp := by
  obtain ⟨⟨e0, e1, e2, e9, e10, e11, e12⟩, ⟨hn, hm, h60, hw, hmw, h3, hr⟩, hp, hsl, ⟨hS, hC, hZ⟩, hcl, hF, hRf, hMv⟩ := id hs
  unfold xFetC at hz
  by_cases c1 : xRange p0 4 = 0
  · rw [if_pos c1] at hz
    exact absurd hz (by decide)
  rw [if_neg c1] at hz
  by_cases c2 : p1 < 0
  · rw [if_pos c2] at hz
    exact absurd hz (by decide)
  rw [if_neg c2] at hz
  by_cases c3 : p1 ≤ 60
  · rw [if_pos c3] at hz
    by_cases c4 : xRefOf (x.1 6) p0 = -1
    · rw [if_pos c4] at hz
      exact absurd hz (by decide)
    · obtain ⟨r, hr4, rfl⟩ := (xRange_4 p0).mp c1
      obtain ⟨dp, hdp, e5⟩ := nI_of2 (M := 60) (n := 60) (by decide) c2 c3
      have e6 := xRefOf_nI (x.1 6) hr4
      obtain ⟨g1, -, g3⟩ := hRf r hr4
      rw [show 4 * 0 + r = r from by omega] at g1 g3
      rw [e6, g1] at c4
      obtain ⟨j0, hj0, g4, g5⟩ := g3.resolve_left c4
      exact ⟨c1, c2, c3, by rw [e6, g1]; exact c4, (mIn_60 p1).mpr ⟨c2, c3⟩, r, j0, dp, hr4, rfl, hj0, g4, by rw [e6, g1, g4], g5, hdp, e5⟩
  · rw [if_neg c3] at hz
    exact absurd hz (by decide)
theorem sim_fetC {n w : Nat} {x : SX} {m : SM} (hs : Sim n w x m) (p0 p1 : Int32) : xFetC p0 p1 (x.1 6) = mNoF p0 p1 (m 5) := by
  obtain ⟨⟨e0, e1, e2, e9, e10, e11, e12⟩, ⟨hn, hm, h60, hw, hmw, h3, hr⟩, hp, hsl, ⟨hS, hC, hZ⟩, hcl, hF, hRf, hMv⟩ := id hs
  exact fetC_eq (fun r hr4 => by
    have := (hRf r hr4).1
    rw [show 4 * 0 + r = r from by omega] at this
    exact this) p0 p1
theorem sim_would {n w : Nat} {x : SX} {m : SM} (hs : Sim n w x m) {j0 dp : Nat} (hj0 : j0 < n) (hj1 : Bt (x.2 0) j0) (hdp : dp ≤ 60) (fs mk ss : Nat → Int32) :
    xBits ((xReach n (x.1 0) (x.1 1) fs (nI j0) (nI dp)).1 &&& (x.2 1 ^^^ (-1))) = mWould n (mReach n (m 3) (m 0) (m 1) mk ss j0 (nI dp)).1 (m 3) := by
  obtain ⟨⟨e0, e1, e2, e9, e10, e11, e12⟩, ⟨hn, hm, h60, hw, hmw, h3, hr⟩, hp, hsl, ⟨hS, hC, hZ⟩, hcl, hF, hRf, hMv⟩ := id hs
  rw [e0, e1]
  obtain ⟨r1, -⟩ := reach_eq h60 hp hS hcl hj0 hj1 hdp fs mk ss
  rw [mWould_cnt h60]
  refine bits_cnt h60 (fun k hk => ?_) (fun k hk h => absurd ((r1 k).mp ((Bt_wo _ _ _).mp h).1).1 (by omega))
  rw [Bt_wo, r1 k, hC k, decide_eq_true_iff]
  unfold Nz Hc
  constructor
  · rintro ⟨⟨-, g1⟩, g2⟩
    exact ⟨g1, Classical.byContradiction (fun g3 => g2 ⟨hk, g3⟩)⟩
  · rintro ⟨g1, g2⟩
    exact ⟨⟨hk, g1⟩, fun g3 => g3.2 g2⟩
theorem sim_wouldS {n w : Nat} {x : SX} {m : SM} (hs : Sim n w x m) (g a c : Nat → Int32) : Sim n w (gS x 3 g) (mS (mS (mS m 14 (fun _ => 0)) 10 a) 13 c) := by
  unfold Sim at hs ⊢
  simp only [gS_1, gS_2, mS_at, Nat.reduceEqDiff, ↓reduceIte]
  exact hs
theorem decide_and2 (P Q : Prop) [Decidable P] [Decidable Q] : (decide P && decide Q) = decide (P ∧ Q) := by
  by_cases h1 : P <;> by_cases h2 : Q <;> simp [h1, h2]

set_option maxHeartbeats 4000000 in
theorem sim_fetch {n w : Nat} {x : SX} {m : SM} (hs : Sim n w x m) {r j0 dp : Nat} (p2 : Int32) (hr4 : r < 4) (hj0 : j0 < n) (hrj : m 5 r = nI j0) (hj1 : Bt (x.2 0) j0) (hdp : dp ≤ 60) (fs ff ma cm wt ss : Nat → Int32) (got : Int64) (tk : Int64 × Nat) (T : Nat × ((Nat → Int32) × ((Nat → Int32) × (Nat → Int32)))) (R : (Nat → Int32) × (Nat → Int32)) (F : Int32 × ((Nat → Int32) × (Nat → Int32)))
    (htk : tk = xTalk n (x.1 0) (x.1 1) (x.2 0) (x.2 1)) (hgot : got = (xReach n (x.1 0) (x.1 1) fs (nI j0) (nI dp)).1 &&& (tk.1 ^^^ (-1))) (hT : T = mTalk n (m 3) (m 0) (m 1) ma cm wt) (hR : R = mReach n (m 3) (m 0) (m 1) T.2.1 ss j0 (nI dp)) (hFe : F = mFetch n R.1 T.2.2.1 (m 2) p2 (m 3) (m 4)) :
    xBits got = F.1 ∧ tk.2 = T.1 ∧
    Com n (x.2 0) (x.2 1 ||| got) F.2.1 ∧ Fil (x.1 5) (if p2 = 0 then x.1 7 else xAddFs (xFiles n (x.1 2) got ff) (x.1 5) (x.1 7)) F.2.2 := by
  obtain ⟨⟨e0, e1, e2, e9, e10, e11, e12⟩, ⟨hn, hm, h60, hw, hmw, h3, hr⟩, hp, hsl, ⟨hS, hC, hZ⟩, hcl, hF, hRf, hMv⟩ := id hs
  rw [e0, e1] at htk hgot
  obtain ⟨t1, t2, t3, t4⟩ := talk_eq h60 hp hS hC ma cm wt
  rw [← htk, ← hT] at t1 t2
  rw [← htk] at t3 t4
  obtain ⟨r1, r2⟩ := reach_eq (hc := m 3) h60 hp hS hcl hj0 hj1 hdp fs T.2.1 ss
  rw [← hR] at r1
  have hg : RM n got (fun k => ¬ R.1 k = 0 ∧ T.2.2.1 k = 0) := by
    intro k
    rw [hgot, Bt_wo, r1 k, t2 k]
    unfold Nz
    constructor
    · rintro ⟨⟨g1, g2⟩, g3⟩
      exact ⟨g1, g2, Classical.byContradiction (fun g4 => g3 ⟨g1, g4⟩)⟩
    · rintro ⟨g1, g2, g3⟩
      exact ⟨⟨g1, g2⟩, fun g4 => g4.2 g3⟩
  have hdis : ∀ k, Bt got k → ¬ Bt (x.2 1) k := by
    intro k g1 g2
    rw [hgot] at g1
    obtain ⟨g3, g4⟩ := (Bt_wo _ _ _).mp g1
    exact g4 (t4 k (r2 k g3) g2)
  have hG := gain_all (n := n) (G := fun k => decide (¬ R.1 k = 0 ∧ T.2.2.1 k = 0)) (fr := 0) (b := 1) (sl := m 2) (p := p2) (hc := m 3) (hf := m 4) (c := 0) h60 hsl (by decide)
  rw [← mFetch_gn, ← hFe] at hG
  obtain ⟨⟨c, hc0, hG1⟩, hG2, hG3⟩ := hG
  have hGk : ∀ k, k < n → ((fun k => decide (¬ R.1 k = 0 ∧ T.2.2.1 k = 0)) k = true ↔ Bt got k) := fun k hk => by
    rw [hg k]
    exact ⟨fun h => ⟨hk, of_decide_eq_true h⟩, fun h => decide_eq_true h.2⟩
  refine ⟨?_, t1, ⟨fun k => ?_, fun k => ?_, fun b k hb h1 h2 => ?_⟩, fun f hf => ?_⟩
  · rw [hG1, ← nI_add, ← hc0]
    show _ = nI 0 + _
    rw [nI_add, Nat.zero_add]
    refine bits_cnt h60 (fun k hk => ?_) (fun k hk h => absurd ((hg k).mp h).1 (by omega))
    rw [Bool.and_eq_true, hGk k hk, decide_eq_true_iff]
    exact ⟨fun h => ⟨h, Classical.byContradiction (fun h2 => hdis k h ((hC k).mpr ⟨hk, h2⟩))⟩, fun h => h.1⟩
  · rw [hS k]
    unfold Hc
    constructor
    · rintro ⟨g1, g2⟩
      exact ⟨g1, by rw [(hG2 k (by omega)).1]; exact g2⟩
    · rintro ⟨g1, g2⟩
      rw [(hG2 k (by omega)).1] at g2
      exact ⟨g1, g2⟩
  · rw [Bt_or, hC k]
    unfold Hc
    constructor
    · rintro (⟨g1, g2⟩ | g1)
      · exact ⟨g1, fun g3 => g2 ((hG2 k (by omega)).2.mp g3).1⟩
      · have g4 := ((hg k).mp g1).1
        exact ⟨g4, fun g3 => ((hG2 k (by omega)).2.mp g3).2 ⟨g4, (hGk k g4).mpr g1⟩⟩
    · rintro ⟨g1, g2⟩
      by_cases g3 : Bt got k
      · exact Or.inr g3
      · exact Or.inl ⟨g1, fun g4 => g2 ((hG2 k (by omega)).2.mpr ⟨g4, fun g5 => g3 ((hGk k g1).mp g5.2)⟩)⟩
  · rcases (show b = 0 ∨ b = 1 by omega) with rfl | rfl
    · rw [(hG2 k h2).1]
      exact hZ 0 k (by omega) h1 h2
    · exact (hG2 k h2).2.mpr ⟨hZ 1 k (by omega) h1 h2, fun h4 => absurd h4.1 (by omega)⟩
  · obtain ⟨f1, f2⟩ := hF f hf
    obtain ⟨k1, k2⟩ := hG3 f hf
    refine ⟨by rw [k1]; exact f1, ?_⟩
    have key : ¬ (if p2 = 0 then x.1 7 else xAddFs (xFiles n (x.1 2) got ff) (x.1 5) (x.1 7)) f = 0 ↔ ¬ F.2.2 (100 * 1 + f) = 0 := by
      rw [k2]
      by_cases c2 : p2 = 0
      · rw [if_pos c2, f2]
        exact ⟨Or.inl, fun h => h.elim id (fun h4 => absurd c2 h4.1)⟩
      · rw [if_neg c2, xAddFs_nz _ _ _ hf, xFiles_nz h60 _ _ _ hf, f1, f2, e2]
        constructor
        · rintro (h | ⟨⟨k, h1, h2, h4⟩, h5⟩)
          · exact Or.inl h
          · exact Or.inr ⟨c2, h5, k, h1, (hGk k h1).mpr h2, h4⟩
        · rintro (h | ⟨-, h5, k, h1, h2, h4⟩)
          · exact Or.inl h
          · exact Or.inr ⟨⟨k, h1, (hGk k h1).mp h2, h4⟩, h5⟩
    exact ⟨fun h => Classical.byContradiction (fun h4 => key.mpr h4 h), fun h => Classical.byContradiction (fun h4 => key.mp h4 h)⟩
theorem sim_fetchS {n w : Nat} {x : SX} {m : SM} (hs : Sim n w x m) {r : Nat} (hr4 : r < 4) {its : Int32} (hits : m 5 r = its) (g3 g4 f7 : Nat → Int32) (l1 : Int64) (b3 b4 b10 b11 b12 b13 d10 : Nat → Int32) (v : Int32) (hCom : Com n (x.2 0) l1 b3) (hFil : Fil (x.1 5) f7 b4) :
    Sim n w (gL (gS (gS (gS (gS (gS x 3 g3) 4 g4) 7 f7) 8 (xPoint (x.1 8) (nI r) its)) 14 (fun _ => v)) 1 l1) (mS (mS (mS (mS (mS (mS (mS (mS (mS (mS m 14 (fun _ => 0)) 10 b10) 11 b11) 12 b12) 17 (fun _ => v)) 10 d10) 13 b13) 3 b3) 4 b4) 5 (upd (m 5) (4 + r) (m 5 r))) := by
  obtain ⟨⟨e0, e1, e2, e9, e10, e11, e12⟩, ⟨hn, hm, h60, hw, hmw, h3, hr⟩, hp, hsl, ⟨hS, hC, hZ⟩, hcl, hF, hRf, hMv⟩ := id hs
  unfold Sim
  simp only [gS_1, gS_2, gL_1, gL_2, mS_at, Nat.reduceEqDiff, ↓reduceIte]
  refine ⟨⟨e0, e1, e2, e9, e10, e11, e12⟩, ⟨hn, hm, h60, hw, hmw, h3, rfl⟩, hp, hsl, hCom, hcl, hFil, ?_, hMv⟩
  have hx : xPoint (x.1 8) (nI r) its = upd (x.1 8) r its := by
    unfold xPoint
    rw [if_neg (show ¬ xRange (nI r) 4 = 0 from (xRange_4 _).mpr ⟨r, hr4, rfl⟩), nI_clamp (by omega)]
  rw [hx]
  intro i hi
  obtain ⟨g1, g2, g3⟩ := hRf i hi
  rw [upd_n _ _ (show 4 * 0 + i ≠ 4 + r by omega)]
  by_cases e : i = r
  · subst e
    rw [show 4 * 1 + i = 4 + i from by omega, upd_s, upd_s]
    exact ⟨g1, hits.symm, g3⟩
  · rw [upd_n _ _ e, upd_n _ _ (show 4 * 1 + i ≠ 4 + r by omega)]
    exact ⟨g1, g2, g3⟩
