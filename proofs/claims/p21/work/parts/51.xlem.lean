theorem hon_n {s : Int64} {c : Int32} (h : xHoN s c = 0) : ¬ c = -1 ∧ xCon s c = 0 := by
  unfold xHoN at h
  by_cases c1 : c = -1
  · rw [if_pos c1] at h
    exact absurd h (by decide)
  · rw [if_neg c1] at h
    exact ⟨c1, h⟩
theorem con_n {n : Nat} {c : Int32} (h : xCoN n c = 0) : ¬ c = -1 ∧ xRange c (nI n) = 0 := by
  unfold xCoN at h
  by_cases c1 : c = -1
  · rw [if_pos c1] at h
    exact absurd h (by decide)
  · rw [if_neg c1] at h
    exact ⟨c1, h⟩
theorem con_or {n : Nat} {c : Int32} (h : ¬ xCoN n c = 0) : c = -1 ∨ ¬ xRange c (nI n) = 0 := by
  unfold xCoN at h
  by_cases c1 : c = -1
  · exact Or.inl c1
  · rw [if_neg c1] at h
    exact Or.inr h
theorem fin_p {c : Int32} (h : c = -1) : ¬ xFiN c = 0 := by
  unfold xFiN
  rw [if_pos h]
  decide
theorem fin_f {c : Int32} (h : ¬ c = -1) (h2 : xRange c 100 = 0) : xFiN c = 0 := by
  unfold xFiN
  rw [if_neg h]
  exact h2
theorem fin_k {c : Int32} (h2 : ¬ xRange c 100 = 0) : ¬ xFiN c = 0 := by
  unfold xFiN
  by_cases c1 : c = -1
  · rw [if_pos c1]
    decide
  · rw [if_neg c1]
    exact h2
theorem full_n {n : Nat} (h : ¬ (if n < 60 then (0 : Int32) else 1) = 0) : ¬ n < 60 := fun h2 => h (if_pos h2)
theorem full_y {n : Nat} (h : (if n < 60 then (0 : Int32) else 1) = 0) : n < 60 := by
  by_cases c : n < 60
  · exact c
  · rw [if_neg c] at h
    exact absurd h (by decide)
theorem no_store {p0 : Int32} (h : xRange p0 2 = 0) : ¬ p0 = 0 ∧ ¬ p0 = 1 := ⟨fun e => by rw [e] at h; exact absurd h (by decide +kernel), fun e => by rw [e] at h; exact absurd h (by decide +kernel)⟩
theorem a_store {p0 : Int32} (h : ¬ xRange p0 2 = 0) : p0 = 0 ∨ p0 = 1 := by
  obtain ⟨j, hj, rfl⟩ := (xRange_0 (n := 2) (by omega)).mp h
  rcases (show j = 0 ∨ j = 1 by omega) with rfl | rfl
  · exact Or.inl rfl
  · exact Or.inr rfl
theorem exA_1 : exA 1 = "java/lang/IndexOutOfBoundsException" := if_pos rfl
theorem exA_2 : exA 2 = "java/lang/IllegalArgumentException" := (if_neg (by decide)).trans (if_pos rfl)
theorem exA_3 : exA 3 = "java/lang/IllegalStateException" := (if_neg (by decide)).trans (if_neg (by decide))
theorem exB_1 : exB 1 = "java/lang/IllegalArgumentException" := if_pos rfl
theorem exB_2 : exB 2 = "java/lang/IllegalStateException" := if_neg (by decide)
theorem exC_1 : exC 1 = "java/lang/IndexOutOfBoundsException" := if_pos rfl
theorem exC_2 : exC 2 = "java/lang/IllegalStateException" := if_neg (by decide)
