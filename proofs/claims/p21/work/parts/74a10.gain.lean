/-! WHAT A STORE GETS -/
def SVal (n : Nat) (sl : Nat → Int32) : Prop := ∀ k, k < 4 * n → (sl k = -1 ∨ ∃ f : Nat, f < 100 ∧ sl k = nI f)
theorem mBring_res {n : Nat} {sl : Nat → Int32} (hsl : SVal n sl) {fr to j : Nat} (hft : fr ≠ to) (hj : j < n) (p3 : Int32) (hf : Nat → Int32) {f : Nat} (h100 : f < 100) :
    mBring sl fr to j p3 hf (100 * fr + f) = hf (100 * fr + f) ∧ (¬ mBring sl fr to j p3 hf (100 * to + f) = 0 ↔ ¬ hf (100 * to + f) = 0 ∨ (¬ p3 = 0 ∧ ¬ hf (100 * fr + f) = 0 ∧ ∃ t, t < 4 ∧ sl (4 * j + t) = nI f)) := by
  unfold mBring
  have h := itU_inv (f := mBringStep sl fr to p3) (fun i z => ∀ f, f < 100 → z (100 * fr + f) = hf (100 * fr + f) ∧ (¬ z (100 * to + f) = 0 ↔ ¬ hf (100 * to + f) = 0 ∨ (¬ p3 = 0 ∧ ¬ hf (100 * fr + f) = 0 ∧ ∃ k, 4 * j ≤ k ∧ k < i ∧ sl k = nI f))) 4 (4 * j) (fun k h1 h2 z hz => by
    have same : (p3 = 0 ∨ sl k = -1 ∨ ∃ g : Nat, g < 100 ∧ sl k = nI g ∧ hf (100 * fr + g) = 0) → ∀ f, f < 100 → z (100 * fr + f) = hf (100 * fr + f) ∧ (¬ z (100 * to + f) = 0 ↔ ¬ hf (100 * to + f) = 0 ∨ (¬ p3 = 0 ∧ ¬ hf (100 * fr + f) = 0 ∧ ∃ i, 4 * j ≤ i ∧ i < k + 1 ∧ sl i = nI f)) := by
      intro hn f hf1
      obtain ⟨a1, a2⟩ := hz f hf1
      refine ⟨a1, a2.trans ⟨fun h => h.elim Or.inl (fun ⟨b1, b2, i, b3, b4, b5⟩ => Or.inr ⟨b1, b2, i, b3, by omega, b5⟩), fun h => h.elim Or.inl (fun ⟨b1, b2, i, b3, b4, b5⟩ => ?_)⟩⟩
      by_cases e : i = k
      · subst e
        rcases hn with hn | hn | ⟨g, g1, g2, g3⟩
        · exact absurd hn b1
        · exact absurd (b5.symm.trans hn) (nI_m1 (by omega))
        · have e2 : f = g := (nI_eq (by omega) (by omega)).mp (b5.symm.trans g2)
          subst e2
          exact absurd g3 b2
      · exact Or.inr ⟨b1, b2, i, b3, by omega, b5⟩
    unfold mBringStep
    by_cases c1 : p3 = 0
    · rw [if_pos c1]
      exact same (Or.inl c1)
    · rw [if_neg c1]
      by_cases c2 : sl k = -1
      · rw [if_pos c2]
        exact same (Or.inr (Or.inl c2))
      · rw [if_neg c2]
        obtain ⟨g, g1, g2⟩ := (hsl k (by omega)).resolve_left c2
        rw [g2, nI_clamp (by omega), (hz g g1).1]
        by_cases c3 : hf (100 * fr + g) = 0
        · rw [if_pos c3]
          exact same (Or.inr (Or.inr ⟨g, g1, g2, c3⟩))
        · rw [if_neg c3]
          intro f hf1
          obtain ⟨a1, a2⟩ := hz f hf1
          rw [upd_n _ _ (show 100 * fr + f ≠ 100 * to + g by omega)]
          refine ⟨a1, ?_⟩
          by_cases e : f = g
          · subst e
            rw [upd_s]
            exact ⟨fun _ => Or.inr ⟨c1, c3, k, h1, by omega, g2⟩, fun _ => by decide⟩
          · rw [upd_n _ _ (show 100 * to + f ≠ 100 * to + g by omega)]
            refine a2.trans ⟨fun h => h.elim Or.inl (fun ⟨b1, b2, i, b3, b4, b5⟩ => Or.inr ⟨b1, b2, i, b3, by omega, b5⟩), fun h => h.elim Or.inl (fun ⟨b1, b2, i, b3, b4, b5⟩ => ?_)⟩
            by_cases e2 : i = k
            · subst e2
              exact absurd ((nI_eq (by omega) (by omega)).mp (b5.symm.trans g2)) e
            · exact Or.inr ⟨b1, b2, i, b3, by omega, b5⟩) hf
    (fun f hf1 => ⟨rfl, ⟨Or.inl, fun h => h.elim id (fun ⟨_, _, i, b3, b4, _⟩ => absurd b4 (by omega))⟩⟩)
  obtain ⟨a1, a2⟩ := h f h100
  refine ⟨a1, a2.trans ⟨fun h => h.elim Or.inl (fun ⟨b1, b2, i, b3, b4, b5⟩ => Or.inr ⟨b1, b2, i - 4 * j, by omega, by rw [show 4 * j + (i - 4 * j) = i from by omega]; exact b5⟩), fun h => h.elim Or.inl (fun ⟨b1, b2, t, b3, b4⟩ => Or.inr ⟨b1, b2, 4 * j + t, by omega, by omega, b4⟩)⟩⟩
/-- one commit more for the store b, if G says so -/
def gnStep (n : Nat) (G : Nat → Bool) (fr b : Nat) (sl : Nat → Int32) (p : Int32) (k : Nat) (z : Int32 × ((Nat → Int32) × (Nat → Int32))) : Int32 × ((Nat → Int32) × (Nat → Int32)) :=
  if G k = true then (z.1 + (if mHas n z.2.1 b (nI k) = 0 then 1 else 0), upd z.2.1 (60 * b + k) 1, mBring sl fr b k p z.2.2) else z
/-- what the store b has then: its commits, files; the count -/
def Gain (n : Nat) (G : Nat → Bool) (fr b : Nat) (sl : Nat → Int32) (p : Int32) (hc hf : Nat → Int32) (c0 : Int32) (i : Nat) (z : Int32 × ((Nat → Int32) × (Nat → Int32))) : Prop :=
  (∃ c : Nat, c0 = nI c ∧ z.1 = nI (c + gCnt (fun k => G k && decide (hc (60 * b + k) = 0)) i)) ∧
  (∀ k, k < 60 → z.2.1 (60 * fr + k) = hc (60 * fr + k) ∧ (z.2.1 (60 * b + k) = 0 ↔ hc (60 * b + k) = 0 ∧ ¬ (k < i ∧ G k = true))) ∧
  (∀ f, f < 100 → z.2.2 (100 * fr + f) = hf (100 * fr + f) ∧ (¬ z.2.2 (100 * b + f) = 0 ↔ ¬ hf (100 * b + f) = 0 ∨ (¬ p = 0 ∧ ¬ hf (100 * fr + f) = 0 ∧ ∃ k, k < i ∧ G k = true ∧ ∃ t, t < 4 ∧ sl (4 * k + t) = nI f)))
theorem gain_step {n : Nat} {G : Nat → Bool} {fr b : Nat} {sl : Nat → Int32} {p : Int32} {hc hf : Nat → Int32} {c0 : Int32} (hn : n ≤ 60) (hsl : SVal n sl) (hfb : fr ≠ b) {k : Nat} (hk : k < n) (z : Int32 × ((Nat → Int32) × (Nat → Int32))) (hz : Gain n G fr b sl p hc hf c0 k z) : Gain n G fr b sl p hc hf c0 (k + 1) (gnStep n G fr b sl p k z) := by
  obtain ⟨⟨c, hc0, hz1⟩, hz2, hz3⟩ := hz
  have h0 := mHas_0 (hc := z.2.1) (b := b) hn hk
  have hk2 := (hz2 k (by omega)).2
  unfold gnStep
  by_cases g : G k = true
  · rw [if_pos g]
    refine ⟨⟨c, hc0, ?_⟩, fun i hi => ?_, fun f hf1 => ?_⟩
    · show z.1 + _ = _
      rw [hz1]
      by_cases c1 : hc (60 * b + k) = 0
      · rw [if_pos (h0.mpr (hk2.mpr ⟨c1, fun h => absurd h.1 (Nat.lt_irrefl k)⟩)), nI_1]
        congr 1
        show _ = c + (gCnt _ k + _)
        rw [if_pos (by simp [g, c1])]
        omega
      · rw [if_neg (fun h => c1 (hk2.mp (h0.mp h)).1)]
        show nI _ + nI 0 = _
        rw [nI_add]
        congr 1
        show _ = c + (gCnt _ k + _)
        rw [if_neg (by simp [c1])]
        omega
    · obtain ⟨a1, a2⟩ := hz2 i hi
      show upd z.2.1 (60 * b + k) 1 (60 * fr + i) = _ ∧ (upd z.2.1 (60 * b + k) 1 (60 * b + i) = 0 ↔ _)
      rw [upd_n _ _ (show 60 * fr + i ≠ 60 * b + k by omega)]
      refine ⟨a1, ?_⟩
      by_cases e : i = k
      · subst e
        rw [upd_s]
        exact ⟨fun h => absurd h (by decide), fun h => absurd ⟨Nat.lt_succ_self i, g⟩ h.2⟩
      · rw [upd_n _ _ (show 60 * b + i ≠ 60 * b + k by omega), a2]
        exact ⟨fun h => ⟨h.1, fun h2 => h.2 ⟨by omega, h2.2⟩⟩, fun h => ⟨h.1, fun h2 => h.2 ⟨by omega, h2.2⟩⟩⟩
    · obtain ⟨a1, a2⟩ := hz3 f hf1
      obtain ⟨b1, b2⟩ := mBring_res hsl hfb hk p z.2.2 hf1
      refine ⟨b1.trans a1, b2.trans ?_⟩
      rw [a1, a2]
      constructor
      · rintro ((h | ⟨h1, h2, i, h3, h4⟩) | ⟨h1, h2, h3⟩)
        · exact Or.inl h
        · exact Or.inr ⟨h1, h2, i, by omega, h4⟩
        · exact Or.inr ⟨h1, h2, k, by omega, g, h3⟩
      · rintro (h | ⟨h1, h2, i, h3, h4, h5⟩)
        · exact Or.inl (Or.inl h)
        · by_cases e : i = k
          · subst e
            exact Or.inr ⟨h1, h2, h5⟩
          · exact Or.inl (Or.inr ⟨h1, h2, i, by omega, h4, h5⟩)
  · rw [if_neg g]
    have g0 : G k = false := Bool.eq_false_iff.mpr g
    refine ⟨⟨c, hc0, ?_⟩, fun i hi => ?_, fun f hf1 => ?_⟩
    · rw [hz1]
      congr 1
      show _ = c + (gCnt _ k + _)
      rw [if_neg (by simp [g0])]
      rfl
    · obtain ⟨a1, a2⟩ := hz2 i hi
      refine ⟨a1, a2.trans ?_⟩
      refine ⟨fun h => ⟨h.1, fun h2 => h.2 ⟨?_, h2.2⟩⟩, fun h => ⟨h.1, fun h2 => h.2 ⟨by omega, h2.2⟩⟩⟩
      refine Nat.lt_of_le_of_ne (by omega) (fun e => g (e ▸ h2.2))
    · obtain ⟨a1, a2⟩ := hz3 f hf1
      refine ⟨a1, a2.trans ⟨fun h => h.elim Or.inl (fun ⟨h1, h2, i, h3, h4⟩ => Or.inr ⟨h1, h2, i, by omega, h4⟩), fun h => h.elim Or.inl (fun ⟨h1, h2, i, h3, h4, h5⟩ => Or.inr ⟨h1, h2, i, ?_, h4, h5⟩)⟩⟩
      exact Nat.lt_of_le_of_ne (by omega) (fun e => g (e ▸ h4))
theorem gain_all {n : Nat} {G : Nat → Bool} {fr b : Nat} {sl : Nat → Int32} {p : Int32} {hc hf : Nat → Int32} {c : Nat} (hn : n ≤ 60) (hsl : SVal n sl) (hfb : fr ≠ b) : Gain n G fr b sl p hc hf (nI c) n (itU (gnStep n G fr b sl p) n 0 (nI c, hc, hf)) := by
  have h := itU_inv (f := gnStep n G fr b sl p) (fun i z => Gain n G fr b sl p hc hf (nI c) i z) n 0 (fun k _ hk z hz => gain_step hn hsl hfb (by omega) z hz) (nI c, hc, hf)
    ⟨⟨c, rfl, rfl⟩, fun k hk => ⟨rfl, ⟨fun h => ⟨h, fun h2 => absurd h2.1 (Nat.not_lt_zero _)⟩, fun h => h.1⟩⟩, fun f hf1 => ⟨rfl, ⟨Or.inl, fun h => h.elim id (fun ⟨_, _, k, h3, _⟩ => absurd h3 (Nat.not_lt_zero _))⟩⟩⟩
  rw [Nat.zero_add] at h
  exact h
theorem itU_congr {α : Type} {f g : Nat → α → α} : ∀ (d i : Nat), (∀ k, i ≤ k → k < i + d → ∀ a, f k a = g k a) → ∀ a, itU f d i a = itU g d i a
  | 0, _, _, _ => rfl
  | d + 1, i, h, a => by
    show itU f d (i + 1) (f i a) = itU g d (i + 1) (g i a)
    rw [h i (by omega) (by omega)]
    exact itU_congr d (i + 1) (fun k h1 h2 => h k (by omega) (by omega)) _
theorem mFetch_gn (n : Nat) (mk cm sl : Nat → Int32) (p2 : Int32) (hc hf : Nat → Int32) : mFetch n mk cm sl p2 hc hf = itU (gnStep n (fun k => decide (¬ mk k = 0 ∧ cm k = 0)) 0 1 sl p2) n 0 (nI 0, hc, hf) := by
  unfold mFetch
  refine itU_congr n 0 (fun k _ _ z => ?_) _
  unfold mFetchStep gnStep
  by_cases c1 : mk k = 0
  · have hG : ¬ (fun k => decide (¬ mk k = 0 ∧ cm k = 0)) k = true := fun h => (of_decide_eq_true h).1 c1
    rw [if_pos c1, if_neg hG]
  · rw [if_neg c1]
    by_cases c2 : cm k = 0
    · have hG : (fun k => decide (¬ mk k = 0 ∧ cm k = 0)) k = true := decide_eq_true ⟨c1, c2⟩
      rw [if_pos c2, if_pos hG]
      by_cases c3 : mHas n z.2.1 1 (nI k) = 0
      · rw [if_pos c3, if_pos c3]
      · rw [if_neg c3, if_neg c3]
    · have hG : ¬ (fun k => decide (¬ mk k = 0 ∧ cm k = 0)) k = true := fun h => c2 (of_decide_eq_true h).2
      rw [if_neg c2, if_neg hG]
theorem mPushI_gn (n : Nat) (ma sl : Nat → Int32) (z0 : Int32 × ((Nat → Int32) × (Nat → Int32))) : itU (mPushI n ma sl) n 0 z0 = itU (gnStep n (fun k => decide (¬ ma k = 0)) 1 0 sl 1) n 0 z0 := by
  refine itU_congr n 0 (fun k _ _ z => ?_) _
  unfold mPushI gnStep
  rw [show 60 * 0 + k = k from by omega]
  by_cases c1 : ma k = 0
  · have hG : ¬ (fun k => decide (¬ ma k = 0)) k = true := fun h => (of_decide_eq_true h) c1
    rw [if_pos c1, if_neg hG]
  · have hG : (fun k => decide (¬ ma k = 0)) k = true := decide_eq_true c1
    rw [if_neg c1, if_pos hG]
    by_cases c3 : mHas n z.2.1 0 (nI k) = 0
    · rw [if_pos c3, if_pos c3]
    · rw [if_neg c3, if_neg c3]
