theorem mHas_0 {n : Nat} {hc : Nat → Int32} {b : Nat} (hn : n ≤ 60) {k : Nat} (hk : k < n) : mHas n hc b (nI k) = 0 ↔ hc (60 * b + k) = 0 := by
  unfold mHas
  rw [if_neg (by rw [xRange_in hk (by omega)]; decide), nI_clamp (by omega)]
  by_cases h : hc (60 * b + k) = 0
  · rw [if_pos h]
    exact ⟨fun _ => h, fun _ => rfl⟩
  · rw [if_neg h]
    exact ⟨fun h2 => absurd h2 (by decide), fun h2 => absurd h2 h⟩
theorem mHas_nz {n : Nat} {hc : Nat → Int32} {b : Nat} (hn : n ≤ 60) (c : Int32) : ¬ mHas n hc b c = 0 ↔ ∃ j : Nat, j < n ∧ c = nI j ∧ ¬ hc (60 * b + j) = 0 := by
  constructor
  · intro h
    obtain ⟨j, hj, rfl⟩ := mHas_ne (by omega) h
    exact ⟨j, hj, rfl, fun h2 => h ((mHas_0 hn hj).mpr h2)⟩
  · rintro ⟨j, hj, rfl, h⟩ h2
    exact h ((mHas_0 hn hj).mp h2)
/-- what a mark adds -/
theorem mMark_nz {n : Nat} {hc : Nat → Int32} {b : Nat} (hn : n ≤ 60) (mk : Nat → Int32) (c : Int32) (j : Nat) : ¬ mMark n hc b mk c j = 0 ↔ ¬ mk j = 0 ∨ (j < n ∧ c = nI j ∧ ¬ hc (60 * b + j) = 0) := by
  unfold mMark
  by_cases h : mHas n hc b c = 0
  · rw [if_pos h]
    constructor
    · exact fun h1 => Or.inl h1
    · rintro (h1 | ⟨h1, rfl, h2⟩)
      · exact h1
      · exact absurd ((mHas_0 hn h1).mp h) h2
  · rw [if_neg h]
    obtain ⟨i, hi, rfl, h3⟩ := (mHas_nz hn c).mp h
    rw [nI_clamp (by omega)]
    by_cases hij : j = i
    · subst hij
      rw [upd_s]
      exact ⟨fun _ => Or.inr ⟨hi, rfl, h3⟩, fun _ => by decide⟩
    · rw [upd_n _ _ hij]
      constructor
      · exact fun h1 => Or.inl h1
      · rintro (h1 | ⟨h1, h2, h4⟩)
        · exact h1
        · exact absurd ((nI_eq (by omega) (by omega)).mp h2).symm hij
