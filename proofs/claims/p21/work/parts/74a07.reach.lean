/-! THE REACH -/
def nbS (fp sp : Nat → Int32) (k m : Nat) (f : Nat → Nat) (j : Nat) : Nat := if fp k = nI j then min (f j) m else if sp k = nI j then min (f j) m else f j
theorem nbS_par {fp sp : Nat → Int32} {k m : Nat} {f : Nat → Nat} {j : Nat} (h : Par fp sp k j) : nbS fp sp k m f j = min (f j) m := by
  unfold nbS
  by_cases h1 : fp k = nI j
  · rw [if_pos h1]
  · rw [if_neg h1, if_pos (h.resolve_left h1)]
theorem nbS_not {fp sp : Nat → Int32} {k m : Nat} {f : Nat → Nat} {j : Nat} (h : ¬ Par fp sp k j) : nbS fp sp k m f j = f j := by
  unfold nbS
  rw [if_neg (fun h1 => h (Or.inl h1)), if_neg (fun h1 => h (Or.inr h1))]
theorem pu_near {st : Nat → Int32} {f : Nat → Nat} {c : Int32} {m k : Nat} (hk : k ≤ 60) (hm : m ≤ 61) (hv : c = -1 ∨ ∃ i : Nat, i < k ∧ c = nI i) (hs : ∀ j, j < 60 → st j = nI (f j) ∧ f j ≤ 60) (j : Nat) (hj : j < 60) : mNear st c (nI m) j = nI (if c = nI j then min (f j) m else f j) := by
  unfold mNear
  rcases hv with rfl | ⟨i, hi, rfl⟩
  · rw [if_pos rfl, if_neg (fun h => nI_m1 (show j < 2 ^ 31 by omega) h.symm)]
    exact (hs j hj).1
  · rw [if_neg (nI_m1 (by omega)), nI_clamp (by omega), (hs i (by omega)).1]
    have hfi := (hs i (by omega)).2
    by_cases c1 : f i ≤ m
    · rw [if_pos (nI_le c1 (by omega)), (hs j hj).1]
      by_cases e : nI i = nI j
      · have e2 : i = j := (nI_eq (by omega) (by omega)).mp e
        subst e2
        rw [if_pos rfl, Nat.min_eq_left c1]
      · rw [if_neg e]
    · rw [if_neg (nI_ge (by omega) (by omega))]
      by_cases e : nI i = nI j
      · have e2 : i = j := (nI_eq (by omega) (by omega)).mp e
        subst e2
        rw [if_pos rfl, upd_s, Nat.min_eq_right (by omega)]
      · have e2 : j ≠ i := fun h => e (by rw [h])
        rw [if_neg e, upd_n _ _ e2]
        exact (hs j hj).1
theorem pu_come {n : Nat} {st : Nat → Int32} {f : Nat → Nat} {c : Int32} {m k : Nat} (hk : k ≤ n) (hn : n ≤ 60) (hm : m ≤ 61) (hv : c = -1 ∨ ∃ i : Nat, i < k ∧ c = nI i) (hs : ∀ j, j < 60 → st j = nI (f j) ∧ f j ≤ 60) (j : Nat) (hj : j < 60) : xCome n st c (nI m) j = nI (if c = nI j then min (f j) m else f j) := by
  unfold xCome
  rcases hv with rfl | ⟨i, hi, rfl⟩
  · have h0 : xRange (-1) (nI n) = 0 := Classical.byContradiction (fun h => by
      obtain ⟨i, hi, e⟩ := (xRange_0 (by omega)).mp h
      exact nI_m1 (show i < 2 ^ 31 by omega) e.symm)
    rw [if_pos h0, if_neg (fun h => nI_m1 (show j < 2 ^ 31 by omega) h.symm)]
    exact (hs j hj).1
  · rw [if_neg (by rw [xRange_in (show i < n by omega) (by omega)]; decide), nI_clamp (by omega), (hs i (by omega)).1]
    have hfi := (hs i (by omega)).2
    by_cases c1 : f i ≤ m
    · rw [if_pos (nI_le c1 (by omega)), (hs j hj).1]
      by_cases e : nI i = nI j
      · have e2 : i = j := (nI_eq (by omega) (by omega)).mp e
        subst e2
        rw [if_pos rfl, Nat.min_eq_left c1]
      · rw [if_neg e]
    · rw [if_neg (nI_ge (by omega) (by omega))]
      by_cases e : nI i = nI j
      · have e2 : i = j := (nI_eq (by omega) (by omega)).mp e
        subst e2
        rw [if_pos rfl, upd_s, Nat.min_eq_right (by omega)]
      · have e2 : j ≠ i := fun h => e (by rw [h])
        rw [if_neg e, upd_n _ _ e2]
        exact (hs j hj).1
theorem pu_nb2 {fp sp : Nat → Int32} {k m : Nat} {f : Nat → Nat} (j : Nat) : (if sp k = nI j then min (if fp k = nI j then min (f j) m else f j) m else (if fp k = nI j then min (f j) m else f j)) = nbS fp sp k m f j := by
  unfold nbS
  by_cases h1 : fp k = nI j <;> by_cases h2 : sp k = nI j <;> simp [h1, h2] <;> omega
theorem pu_near2 {n : Nat} {fp sp : Nat → Int32} (hp : PV n fp sp) (hn : n ≤ 60) {st : Nat → Int32} {f : Nat → Nat} {m k : Nat} (hk : k < n) (hm : m ≤ 61) (hs : ∀ j, j < 60 → st j = nI (f j) ∧ f j ≤ 60) (j : Nat) (hj : j < 60) : mNear (mNear st (fp k) (nI m)) (sp k) (nI m) j = nI (nbS fp sp k m f j) := by
  rw [pu_near (f := fun j => if fp k = nI j then min (f j) m else f j) (k := k) (by omega) hm (hp k hk).2 (fun j hj => ⟨pu_near (by omega) hm (hp k hk).1 hs j hj, by
    have := (hs j hj).2
    by_cases h : fp k = nI j
    · rw [if_pos h]; omega
    · rw [if_neg h]; omega⟩) j hj]
  exact congrArg nI (pu_nb2 j)
theorem pu_come2 {n : Nat} {fp sp : Nat → Int32} (hp : PV n fp sp) (hn : n ≤ 60) {st : Nat → Int32} {f : Nat → Nat} {m k : Nat} (hk : k < n) (hm : m ≤ 61) (hs : ∀ j, j < 60 → st j = nI (f j) ∧ f j ≤ 60) (j : Nat) (hj : j < 60) : xCome n (xCome n st (fp k) (nI m)) (sp k) (nI m) j = nI (nbS fp sp k m f j) := by
  rw [pu_come (f := fun j => if fp k = nI j then min (f j) m else f j) (k := k) (by omega) hn hm (hp k hk).2 (fun j hj => ⟨pu_come (by omega) hn hm (hp k hk).1 hs j hj, by
    have := (hs j hj).2
    by_cases h : fp k = nI j
    · rw [if_pos h]; omega
    · rw [if_neg h]; omega⟩) j hj]
  exact congrArg nI (pu_nb2 j)
/-- what holds between the class's reach (rc, fs) and the reference's (mk, ss) when the commits from d on are done: g gives the fewest steps -/
def RchI (n : Nat) (fp sp : Nat → Int32) (A : Int64) (j0 t dp d : Nat) (a : Int64 × (Nat → Int32)) (b : (Nat → Int32) × (Nat → Int32)) : Prop := ∃ g : Nat → Nat,
  (∀ j, j < 60 → g j ≤ 60 ∧ b.2 j = nI (g j) ∧ a.2 j = nI (min (g j) t)) ∧
  (∀ j, j < 60 → g j < 60 → Bt A j ∧ g j + j ≤ j0) ∧
  (∀ k, d ≤ k → k ≤ j0 → g k < 60 → ∀ j, j < 60 → Par fp sp k j → g j < 60) ∧ g j0 < 60 ∧
  (∀ j, Bt a.1 j ↔ d ≤ j ∧ j ≤ j0 ∧ Bt A j ∧ (dp = 0 ∨ g j < dp)) ∧
  (∀ j, j < n → (¬ b.1 j = 0 ↔ Bt A j ∧ (j < d ∨ dp = 0 ∨ g j < dp)))
theorem mReachStep_eq {n : Nat} {fp sp : Nat → Int32} (hp : PV n fp sp) (hn : n ≤ 60) {k : Nat} (hk : k < n) (dep : Int32) {mk ss : Nat → Int32} {f : Nat → Nat} (hs : ∀ j, j < 60 → ss j = nI (f j) ∧ f j ≤ 60) :
    mReachStep fp sp dep k (mk, ss) = (upd mk k (if mk k = 0 then 0 else if dep = 0 then 1 else if dep ≤ nI (nbS fp sp k (f k + 1) f k) then 0 else 1), mNear (mNear ss (fp k) (nI (f k + 1))) (sp k) (nI (f k + 1))) := by
  have h1 : ss k + 1 = nI (f k + 1) := by rw [(hs k (by omega)).1, nI_1]
  have hfk := (hs k (by omega)).2
  have h2 : mNear ss (fp k) (nI (f k + 1)) k + 1 = nI (f k + 1) := by
    rw [pu_near (k := k) (by omega) (by omega) (hp k hk).1 hs k (by omega), if_neg (fun h => absurd (Par_lt hp hn hk (by omega) (Or.inl h)) (Nat.lt_irrefl k)), nI_1]
  have h3 := pu_near2 hp hn hk (show f k + 1 ≤ 61 by omega) hs k (by omega)
  unfold mReachStep
  dsimp only
  rw [h1, h2, h3]
  by_cases c1 : mk k = 0
  · rw [if_pos c1, if_pos c1]
  · rw [if_neg c1, if_neg c1]
    by_cases c2 : dep = 0
    · rw [if_pos c2, if_pos c2]
    · rw [if_neg c2, if_neg c2]
      by_cases c3 : dep ≤ nI (nbS fp sp k (f k + 1) f k)
      · rw [if_pos c3, if_pos c3]
      · rw [if_neg c3, if_neg c3]
