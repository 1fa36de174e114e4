theorem mS_at (u : SM) (k : Nat) (f : Nat → Int32) (j : Nat) : mS u k f j = if j = k then f else u j := rfl
theorem MW_ext {cI cZ : ClassId} {q : Nat → Nat} {X Y : SM} (h : X 0 = Y 0 ∧ X 1 = Y 1 ∧ X 2 = Y 2 ∧ X 3 = Y 3 ∧ X 4 = Y 4 ∧ X 5 = Y 5 ∧ X 6 = Y 6 ∧ X 7 = Y 7 ∧ X 8 = Y 8 ∧ X 9 = Y 9 ∧ X 10 = Y 10 ∧ X 11 = Y 11 ∧ X 12 = Y 12 ∧ X 13 = Y 13 ∧ X 14 0 = Y 14 0 ∧ X 15 0 = Y 15 0 ∧ X 16 0 = Y 16 0 ∧ X 17 0 = Y 17 0) : MW cI cZ q X = MW cI cZ q Y := by
  obtain ⟨h0, h1, h2, h3, h4, h5, h6, h7, h8, h9, h10, h11, h12, h13, h14, h15, h16, h17⟩ := h
  unfold MW
  rw [h0, h1, h2, h3, h4, h5, h6, h7, h8, h9, h10, h11, h12, h13, h14, h15, h16, h17]
theorem g_toPD {D : va_G} {cl : List vw_C} {w1 w2 : va_W} {H : Heap} {A : Nat → Prop} (hP : va_P D cl w1 H) (hD : va_D A w1) (h : w1 = w2) : va_P D cl w2 H ∧ va_D A w2 := by subst h; exact ⟨hP, hD⟩
