/-! THE REACH, whole -/
theorem pu_min1 {a b t : Nat} (h : t ≤ b) : min (min a b) t = min a t := by omega
theorem pu_min2 {a b t : Nat} (h : b ≤ t) : min (min a t) b = min (min a b) t := by omega
theorem xReachStep_far {n : Nat} {fp sp : Nat → Int32} {tf : Int32} {k : Nat} {rc : Int64} {fs : Nat → Int32} (h : tf ≤ fs k) : xReachStep n fp sp tf k (rc, fs) = (rc, fs) := if_pos h
theorem xReachStep_near {n : Nat} {fp sp : Nat → Int32} {tf : Int32} {k : Nat} {rc : Int64} {fs : Nat → Int32} (h : ¬ tf ≤ fs k) : xReachStep n fp sp tf k (rc, fs) = (rc ||| xSet (nI k), xCome n (xCome n fs (fp k) (fs k + 1)) (sp k) (fs k + 1)) := if_neg h
set_option maxHeartbeats 4000000 in
theorem reach_step {n : Nat} {fp sp hc : Nat → Int32} {srv : Int64} (hn : n ≤ 60) (hp : PV n fp sp) (hcl : Closed n fp sp (Bt srv)) {j0 dp t : Nat} (hj0 : j0 < n) (hdp : dp ≤ 60) (ht : t = if dp = 0 then 60 else dp) {k : Nat} (hk : k < j0 + 1) (a : Int64 × (Nat → Int32)) (b : (Nat → Int32) × (Nat → Int32))
    (hR : RchI n fp sp (xAnc n fp sp (xSet (nI j0)) srv) j0 t dp (k + 1) a b) : RchI n fp sp (xAnc n fp sp (xSet (nI j0)) srv) j0 t dp k (xReachStep n fp sp (nI t) k a) (mReachStep fp sp (nI dp) k b) := by
  obtain ⟨rc, fs⟩ := a
  obtain ⟨mk, ss⟩ := b
  obtain ⟨g, g1, g2, g3, g4, g5, g6⟩ := hR
  dsimp only at g1 g2 g3 g4 g5 g6
  have hkn : k < n := by omega
  have ht60 : t ≤ 60 := by rw [ht]; split <;> omega
  have hgk := (g1 k (by omega)).1
  have hup : ∀ k j, k < n → Bt (xAnc n fp sp (xSet (nI j0)) srv) k → j < 60 → Par fp sp k j → Bt (xAnc n fp sp (xSet (nI j0)) srv) j := fun k j h1 h2 h3 h4 => anc_up hn hp h1 h2 (shallow_0 hn hcl k) h3 h4
  have hB : Bt (xAnc n fp sp (xSet (nI j0)) srv) k → g k < 60 := by
    intro h
    have := anc_least (fp := fp) (sp := sp) (held := srv) (s := xSet (nI j0)) hn (fun j => k ≤ j → g j < 60 ∧ j ≤ j0) (fun j h1 _ _ => by
      have e : j0 = j := (nI_eq (by omega) (by have := ((Bt_set _ _).mp h1).1; omega)).mp ((Bt_set _ _).mp h1).2
      subst e
      exact ⟨g4, Nat.le_refl _⟩) (fun i hi h1 _ j hj h2 h3 => by
      have h4 := Par_lt hp hn hi (by omega) h2
      obtain ⟨h5, h6⟩ := h1 (by omega)
      exact ⟨g3 i (by omega) h6 h5 j hj h2, by omega⟩) k h
    exact (this (Nat.le_refl k)).1
  have hself : nbS fp sp k (g k + 1) g k = g k := nbS_not (fun h => absurd (Par_lt hp hn hkn (by omega) h) (Nat.lt_irrefl k))
  have hge : ∀ j, k ≤ j → j < 60 → nbS fp sp k (g k + 1) g j = g j := fun j h1 h2 => nbS_not (fun h => absurd (Par_lt hp hn hkn (by omega) h) (by omega))
  have hle : ∀ j, nbS fp sp k (g k + 1) g j ≤ g j := by
    intro j
    unfold nbS
    split
    · omega
    · split <;> omega
  have hss : ∀ j, j < 60 → ss j = nI (g j) ∧ g j ≤ 60 := fun j hj => ⟨(g1 j hj).2.1, (g1 j hj).1⟩
  rw [mReachStep_eq hp hn hkn (nI dp) hss]
  have hdz : nI dp = 0 ↔ dp = 0 := ⟨fun h => (nI_eq (by omega) (by omega)).mp (h.trans nI_0.symm), fun h => by rw [h]; exact nI_0⟩
  -- whether k is in the reach
  have hin : Bt (xAnc n fp sp (xSet (nI j0)) srv) k ∧ (dp = 0 ∨ g k < dp) ↔ g k < t := by
    rw [ht]
    constructor
    · rintro ⟨h1, h2⟩
      have := hB h1
      split <;> omega
    · intro h
      by_cases e : dp = 0
      · rw [if_pos e] at h
        exact ⟨(g2 k (by omega) h).1, Or.inl e⟩
      · rw [if_neg e] at h
        exact ⟨(g2 k (by omega) (by omega)).1, Or.inr h⟩
  refine ⟨nbS fp sp k (g k + 1) g, ?_, ?_, ?_, ?_, ?_, ?_⟩
  · intro j hj
    have h1 := (g1 j hj).1
    refine ⟨Nat.le_trans (hle j) h1, pu_near2 hp hn hkn (by omega) hss j hj, ?_⟩
    have hfk := (g1 k (by omega)).2.2
    by_cases c : t ≤ g k
    · rw [Nat.min_eq_right c] at hfk
      rw [xReachStep_far (by rw [hfk]; exact nI_le (Nat.le_refl t) (by omega))]
      show fs j = _
      rw [(g1 j hj).2.2]
      by_cases e : Par fp sp k j
      · rw [nbS_par e, pu_min1 (by omega)]
      · rw [nbS_not e]
    · rw [Nat.min_eq_left (by omega)] at hfk
      rw [xReachStep_near (by rw [hfk]; exact nI_ge (by omega) (by omega)), hfk, nI_1]
      show xCome n (xCome n fs (fp k) (nI (g k + 1))) (sp k) (nI (g k + 1)) j = _
      rw [pu_come2 (f := fun j => min (g j) t) hp hn hkn (by omega) (fun j hj => ⟨(g1 j hj).2.2, by omega⟩) j hj]
      by_cases e : Par fp sp k j
      · rw [nbS_par e, nbS_par e, pu_min2 (by omega)]
      · rw [nbS_not e, nbS_not e]
  · intro j hj h
    by_cases e : Par fp sp k j
    · rw [nbS_par e] at h ⊢
      have hlt := Par_lt hp hn hkn (by omega) e
      by_cases c : g j < 60
      · have := g2 j hj c
        exact ⟨this.1, by omega⟩
      · have hk60 : g k < 60 := by omega
        obtain ⟨h3, h4⟩ := g2 k (by omega) hk60
        exact ⟨hup k j hkn h3 hj e, by omega⟩
    · rw [nbS_not e] at h ⊢
      exact g2 j hj h
  · intro i hi1 hi2 h j hj hpar
    rw [hge i hi1 (by omega)] at h
    by_cases e : i = k
    · subst e
      rw [nbS_par hpar]
      have h3 := (g2 i (by omega) h).2
      have hlt := Par_lt hp hn hkn (by omega) hpar
      omega
    · exact Nat.lt_of_le_of_lt (hle j) (g3 i (by omega) hi2 h j hj hpar)
  · exact Nat.lt_of_le_of_lt (hle j0) g4
  · intro j
    have hfk := (g1 k (by omega)).2.2
    by_cases c : t ≤ g k
    · rw [Nat.min_eq_right c] at hfk
      rw [xReachStep_far (by rw [hfk]; exact nI_le (Nat.le_refl t) (by omega))]
      show Bt rc j ↔ _
      rw [g5 j]
      constructor
      · rintro ⟨h1, h2, h3, h4⟩
        rw [hge j (by omega) (by omega)]
        exact ⟨by omega, h2, h3, h4⟩
      · rintro ⟨h1, h2, h3, h4⟩
        rw [hge j (by omega) (by omega)] at h4
        by_cases e : j = k
        · subst e
          exact absurd (hin.mp ⟨h3, h4⟩) (by omega)
        · exact ⟨by omega, h2, h3, h4⟩
    · rw [Nat.min_eq_left (by omega)] at hfk
      rw [xReachStep_near (by rw [hfk]; exact nI_ge (by omega) (by omega))]
      show Bt (rc ||| xSet (nI k)) j ↔ _
      rw [Bt_or, Bt_set, g5 j]
      constructor
      · rintro (⟨h1, h2, h3, h4⟩ | ⟨h1, h2⟩)
        · rw [hge j (by omega) (by omega)]
          exact ⟨by omega, h2, h3, h4⟩
        · have e : k = j := (nI_eq (by omega) (by omega)).mp h2
          subst e
          have := hin.mpr (by omega)
          rw [hself]
          exact ⟨Nat.le_refl _, by omega, this.1, this.2⟩
      · rintro ⟨h1, h2, h3, h4⟩
        rw [hge j (by omega) (by omega)] at h4
        by_cases e : j = k
        · subst e
          exact Or.inr ⟨by omega, rfl⟩
        · exact Or.inl ⟨by omega, h2, h3, h4⟩
  · intro j hj
    show ¬ upd mk k _ j = 0 ↔ _
    by_cases e : j = k
    · subst e
      have h6 := g6 j hj
      rw [upd_s, hself]
      have h7 : ¬ mk j = 0 ↔ Bt (xAnc n fp sp (xSet (nI j0)) srv) j := h6.trans ⟨fun h => h.1, fun h => ⟨h, Or.inl (by omega)⟩⟩
      by_cases c1 : mk j = 0
      · rw [if_pos c1]
        exact ⟨fun h => absurd rfl h, fun h => absurd c1 (h7.mpr h.1)⟩
      · rw [if_neg c1]
        have h8 := h7.mp c1
        by_cases c2 : dp = 0
        · rw [if_pos (hdz.mpr c2)]
          exact ⟨fun _ => ⟨h8, Or.inr (Or.inl c2)⟩, fun _ => by decide⟩
        · rw [if_neg (fun h => c2 (hdz.mp h))]
          by_cases c3 : dp ≤ g j
          · rw [if_pos (nI_le c3 (by omega))]
            exact ⟨fun h => absurd rfl h, fun h => absurd h.2 (by omega)⟩
          · rw [if_neg (nI_ge (by omega) (by omega))]
            exact ⟨fun _ => ⟨h8, Or.inr (Or.inr (by omega))⟩, fun _ => by decide⟩
    · rw [upd_n _ _ e, g6 j hj]
      by_cases c : j < k
      · exact ⟨fun h => ⟨h.1, Or.inl c⟩, fun h => ⟨h.1, Or.inl (by omega)⟩⟩
      · rw [hge j (by omega) (by omega)]
        exact ⟨fun h => ⟨h.1, h.2.elim (fun h2 => absurd h2 (by omega)) Or.inr⟩, fun h => ⟨h.1, h.2.elim (fun h2 => absurd h2 c) Or.inr⟩⟩
theorem xFill_at (v : Int32) (f : Nat → Int32) {j : Nat} (hj : j < 60) : xFill v f j = v := by
  unfold xFill
  have h := itU_inv (f := fun k f => upd f k v) (fun i z => ∀ j, j < i → z j = v) 60 0 (fun k _ _ z hz j hj => by
    by_cases e : j = k
    · subst e
      exact upd_s _ _ _
    · exact (upd_n _ _ e).trans (hz j (by omega))) f (fun j h => absurd h (Nat.not_lt_zero _))
  exact h j hj
theorem mS60_at (f : Nat → Int32) {j : Nat} (hj : j < 60) : mS60 f j = 60 := by
  unfold mS60
  rw [opq_eq]
  have h := itU_inv (f := mS60Step) (fun i z => ∀ j, j < i → z j = 60) 60 0 (fun k _ _ z hz j hj => by
    unfold mS60Step
    by_cases e : j = k
    · subst e
      exact upd_s _ _ _
    · exact (upd_n _ _ e).trans (hz j (by omega))) f (fun j h => absurd h (Nat.not_lt_zero _))
  exact h j hj
theorem reach_eq {n : Nat} {fp sp hc : Nat → Int32} {srv : Int64} (hn : n ≤ 60) (hp : PV n fp sp) (hS : RM n srv (Hc hc 0)) (hcl : Closed n fp sp (Bt srv)) {j0 dp : Nat} (hj0 : j0 < n) (hs0 : Bt srv j0) (hdp : dp ≤ 60) (fs mk ss : Nat → Int32) :
    RM n (xReach n fp sp fs (nI j0) (nI dp)).1 (Nz (mReach n hc fp sp mk ss j0 (nI dp)).1) ∧ ∀ j, Bt (xReach n fp sp fs (nI j0) (nI dp)).1 j → Bt srv j := by
  obtain ⟨f1, f2⟩ := from_0 hn hp hS hcl mk (nI j0)
  obtain ⟨t, ht⟩ : ∃ t : Nat, t = if dp = 0 then 60 else dp := ⟨_, rfl⟩
  have ht60 : t ≤ 60 := by rw [ht]; split <;> omega
  have hfar : xFar (nI dp) = nI t := by
    unfold xFar
    rw [ht]
    by_cases e : dp = 0
    · rw [if_pos e, e]
      rfl
    · rw [if_neg e, if_neg (nI_ne0 (by omega) (by omega))]
  have hj0A : ∀ j, Bt (xAnc n fp sp (xSet (nI j0)) srv) j → j ≤ j0 := anc_least hn (fun j => j ≤ j0) (fun j h1 _ => by
      have e : j0 = j := (nI_eq (by omega) (by have := ((Bt_set _ _).mp h1).1; omega)).mp ((Bt_set _ _).mp h1).2
      omega) (fun i hi h1 _ j hj h2 => by
      have h4 := Par_lt hp hn hi (by omega) h2
      omega)
  have key := itD_relN (f := xReachStep n fp sp (nI t)) (g := mReachStep fp sp (nI dp)) (RchI n fp sp (xAnc n fp sp (xSet (nI j0)) srv) j0 t dp) (j0 + 1) (fun k hk a b h => reach_step (hc := hc) hn hp hcl hj0 hdp ht hk a b h) (0, upd (xFill (nI t) fs) j0 0) (mFrom0 n hc fp sp mk (nI j0), upd (mS60 ss) j0 0)
    ⟨fun j => if j = j0 then 0 else 60, fun j hj => by
      dsimp only
      by_cases e : j = j0
      · rw [if_pos e, e]
        refine ⟨by omega, ?_, ?_⟩
        · rw [upd_s]; rfl
        · rw [upd_s, Nat.zero_min]; rfl
      · rw [if_neg e, upd_n _ _ e, upd_n _ _ e, mS60_at _ hj, xFill_at _ _ hj, Nat.min_eq_right ht60]
        exact ⟨by omega, rfl, rfl⟩, fun j hj h => by
      dsimp only at h ⊢
      by_cases e : j = j0
      · rw [if_pos e, e]
        exact ⟨anc_in hn ⟨(Bt_set _ _).mpr ⟨by omega, rfl⟩, hs0⟩, by omega⟩
      · rw [if_neg e] at h
        exact absurd h (by omega), fun k h1 h2 => absurd h2 (by omega), by dsimp only; rw [if_pos rfl]; omega, fun j => ⟨fun h => absurd h (Bt_0 j), fun h => absurd h.1 (by omega)⟩, fun j hj => by
      show Nz _ j ↔ _
      constructor
      · intro h
        have := (f1 j).mpr ⟨hj, h⟩
        exact ⟨this, Or.inl (by have := hj0A j this; omega)⟩
      · intro h
        exact ((f1 j).mp h.1).2⟩
  have e1 : xReach n fp sp fs (nI j0) (nI dp) = itD (xReachStep n fp sp (nI t)) (j0 + 1) (0, upd (xFill (nI t) fs) j0 0) := by
    unfold xReach
    rw [if_neg (by rw [xRange_in hj0 (by omega)]; decide), hfar, nI_clamp (by omega)]
  have e2 : mReach n hc fp sp mk ss j0 (nI dp) = itD (mReachStep fp sp (nI dp)) (j0 + 1) (mFrom0 n hc fp sp mk (nI j0), upd (mS60 ss) j0 0) := rfl
  rw [e1, e2]
  obtain ⟨g, -, -, -, -, k5, k6⟩ := key
  refine ⟨fun j => ?_, fun j h => f2 j ((k5 j).mp h).2.2.1⟩
  rw [k5 j]
  unfold Nz
  constructor
  · rintro ⟨-, h1, h2, h3⟩
    exact ⟨by omega, (k6 j (by omega)).mpr ⟨h2, Or.inr h3⟩⟩
  · rintro ⟨h1, h2⟩
    obtain ⟨h3, h4⟩ := (k6 j h1).mp h2
    exact ⟨Nat.zero_le j, hj0A j h3, h3, h4.elim (fun h => absurd h (Nat.not_lt_zero j)) id⟩
