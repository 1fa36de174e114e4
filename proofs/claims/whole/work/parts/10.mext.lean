theorem mS_at (u : SM) (k : Nat) (f : Nat → Int32) (j : Nat) : mS u k f j = if j = k then f else u j := by
  unfold mS va_up
  by_cases h : j = k <;> simp [h]
theorem MW_ext {cI cZ : ClassId} {q : Nat → Nat} {X Y : SM} (h : X 0 = Y 0 ∧ X 1 = Y 1 ∧ X 2 = Y 2 ∧ X 3 = Y 3 ∧ X 4 = Y 4 ∧ X 5 = Y 5 ∧ X 6 = Y 6 ∧ X 7 = Y 7 ∧ X 8 = Y 8 ∧ X 9 = Y 9 ∧ X 10 = Y 10 ∧ X 11 = Y 11 ∧ X 12 = Y 12 ∧ X 13 = Y 13 ∧ X 14 0 = Y 14 0 ∧ X 15 0 = Y 15 0 ∧ X 16 0 = Y 16 0 ∧ X 17 0 = Y 17 0) : MW cI cZ q X = MW cI cZ q Y := by
  obtain ⟨h0, h1, h2, h3, h4, h5, h6, h7, h8, h9, h10, h11, h12, h13, h14, h15, h16, h17⟩ := h
  unfold MW
  rw [h0, h1, h2, h3, h4, h5, h6, h7, h8, h9, h10, h11, h12, h13, h14, h15, h16, h17]
theorem g_toPD {D : va_G} {cl : List vw_C} {w1 w2 : va_W} {H : Heap} {A : Nat → Prop} (hP : va_P D cl w1 H) (hD : va_D A w1) (h : w1 = w2) : va_P D cl w2 H ∧ va_D A w2 := by subst h; exact ⟨hP, hD⟩
theorem MW_get_0 {cI cZ : ClassId} {q : Nat → Nat} (u : SM) : (MW cI cZ q u)[1]? = some (q 1, .inl (cI, 60, .inl (u 0))) := rfl
theorem MW_set_0 {cI cZ : ClassId} {q : Nat → Nat} (u : SM) (f : Nat → Int32) : (MW cI cZ q u).set 1 (q 1, .inl (cI, 60, .inl f)) = MW cI cZ q (mS u 0 f) := rfl
theorem MW_get_1 {cI cZ : ClassId} {q : Nat → Nat} (u : SM) : (MW cI cZ q u)[2]? = some (q 2, .inl (cI, 60, .inl (u 1))) := rfl
theorem MW_set_1 {cI cZ : ClassId} {q : Nat → Nat} (u : SM) (f : Nat → Int32) : (MW cI cZ q u).set 2 (q 2, .inl (cI, 60, .inl f)) = MW cI cZ q (mS u 1 f) := rfl
theorem MW_get_2 {cI cZ : ClassId} {q : Nat → Nat} (u : SM) : (MW cI cZ q u)[3]? = some (q 3, .inl (cI, 240, .inl (u 2))) := rfl
theorem MW_set_2 {cI cZ : ClassId} {q : Nat → Nat} (u : SM) (f : Nat → Int32) : (MW cI cZ q u).set 3 (q 3, .inl (cI, 240, .inl f)) = MW cI cZ q (mS u 2 f) := rfl
theorem MW_get_3 {cI cZ : ClassId} {q : Nat → Nat} (u : SM) : (MW cI cZ q u)[4]? = some (q 4, .inl (cZ, 120, .inl (u 3))) := rfl
theorem MW_set_3 {cI cZ : ClassId} {q : Nat → Nat} (u : SM) (f : Nat → Int32) : (MW cI cZ q u).set 4 (q 4, .inl (cZ, 120, .inl f)) = MW cI cZ q (mS u 3 f) := rfl
theorem MW_get_4 {cI cZ : ClassId} {q : Nat → Nat} (u : SM) : (MW cI cZ q u)[5]? = some (q 5, .inl (cZ, 200, .inl (u 4))) := rfl
theorem MW_set_4 {cI cZ : ClassId} {q : Nat → Nat} (u : SM) (f : Nat → Int32) : (MW cI cZ q u).set 5 (q 5, .inl (cZ, 200, .inl f)) = MW cI cZ q (mS u 4 f) := rfl
theorem MW_get_5 {cI cZ : ClassId} {q : Nat → Nat} (u : SM) : (MW cI cZ q u)[6]? = some (q 6, .inl (cI, 8, .inl (u 5))) := rfl
theorem MW_set_5 {cI cZ : ClassId} {q : Nat → Nat} (u : SM) (f : Nat → Int32) : (MW cI cZ q u).set 6 (q 6, .inl (cI, 8, .inl f)) = MW cI cZ q (mS u 5 f) := rfl
theorem MW_get_6 {cI cZ : ClassId} {q : Nat → Nat} (u : SM) : (MW cI cZ q u)[7]? = some (q 7, .inl (cZ, 4, .inl (u 6))) := rfl
theorem MW_set_6 {cI cZ : ClassId} {q : Nat → Nat} (u : SM) (f : Nat → Int32) : (MW cI cZ q u).set 7 (q 7, .inl (cZ, 4, .inl f)) = MW cI cZ q (mS u 6 f) := rfl
theorem MW_get_7 {cI cZ : ClassId} {q : Nat → Nat} (u : SM) : (MW cI cZ q u)[8]? = some (q 8, .inl (cI, 3, .inl (u 7))) := rfl
theorem MW_set_7 {cI cZ : ClassId} {q : Nat → Nat} (u : SM) (f : Nat → Int32) : (MW cI cZ q u).set 8 (q 8, .inl (cI, 3, .inl f)) = MW cI cZ q (mS u 7 f) := rfl
theorem MW_get_8 {cI cZ : ClassId} {q : Nat → Nat} (u : SM) : (MW cI cZ q u)[9]? = some (q 9, .inl (cI, 3, .inl (u 8))) := rfl
theorem MW_set_8 {cI cZ : ClassId} {q : Nat → Nat} (u : SM) (f : Nat → Int32) : (MW cI cZ q u).set 9 (q 9, .inl (cI, 3, .inl f)) = MW cI cZ q (mS u 8 f) := rfl
theorem MW_get_9 {cI cZ : ClassId} {q : Nat → Nat} (u : SM) : (MW cI cZ q u)[10]? = some (q 10, .inl (cI, 3, .inl (u 9))) := rfl
theorem MW_set_9 {cI cZ : ClassId} {q : Nat → Nat} (u : SM) (f : Nat → Int32) : (MW cI cZ q u).set 10 (q 10, .inl (cI, 3, .inl f)) = MW cI cZ q (mS u 9 f) := rfl
theorem MW_get_10 {cI cZ : ClassId} {q : Nat → Nat} (u : SM) : (MW cI cZ q u)[11]? = some (q 11, .inl (cZ, 60, .inl (u 10))) := rfl
theorem MW_set_10 {cI cZ : ClassId} {q : Nat → Nat} (u : SM) (f : Nat → Int32) : (MW cI cZ q u).set 11 (q 11, .inl (cZ, 60, .inl f)) = MW cI cZ q (mS u 10 f) := rfl
theorem MW_get_11 {cI cZ : ClassId} {q : Nat → Nat} (u : SM) : (MW cI cZ q u)[12]? = some (q 12, .inl (cZ, 60, .inl (u 11))) := rfl
theorem MW_set_11 {cI cZ : ClassId} {q : Nat → Nat} (u : SM) (f : Nat → Int32) : (MW cI cZ q u).set 12 (q 12, .inl (cZ, 60, .inl f)) = MW cI cZ q (mS u 11 f) := rfl
theorem MW_get_12 {cI cZ : ClassId} {q : Nat → Nat} (u : SM) : (MW cI cZ q u)[13]? = some (q 13, .inl (cZ, 60, .inl (u 12))) := rfl
theorem MW_set_12 {cI cZ : ClassId} {q : Nat → Nat} (u : SM) (f : Nat → Int32) : (MW cI cZ q u).set 13 (q 13, .inl (cZ, 60, .inl f)) = MW cI cZ q (mS u 12 f) := rfl
theorem MW_get_13 {cI cZ : ClassId} {q : Nat → Nat} (u : SM) : (MW cI cZ q u)[14]? = some (q 14, .inl (cI, 60, .inl (u 13))) := rfl
theorem MW_set_13 {cI cZ : ClassId} {q : Nat → Nat} (u : SM) (f : Nat → Int32) : (MW cI cZ q u).set 14 (q 14, .inl (cI, 60, .inl f)) = MW cI cZ q (mS u 13 f) := rfl
theorem MW_put_14 {cI cZ : ClassId} {q : Nat → Nat} {u : SM} (v : Int32) : (MW cI cZ q u).set 0 (q 0, .inr (3, ([.int (u 14 0), .int (u 15 0), .ref (q 1), .ref (q 2), .ref (q 3), .ref (q 4), .ref (q 5), .ref (q 6), .ref (q 7), .int (u 16 0), .ref (q 8), .ref (q 9), .ref (q 10), .int (u 17 0), .ref (q 11), .ref (q 12), .ref (q 13), .ref (q 14)] : List Value).set 0 (.int v))) = MW cI cZ q (mS u 14 (fun _ => v)) := rfl
theorem MW_put_15 {cI cZ : ClassId} {q : Nat → Nat} {u : SM} (v : Int32) : (MW cI cZ q u).set 0 (q 0, .inr (3, ([.int (u 14 0), .int (u 15 0), .ref (q 1), .ref (q 2), .ref (q 3), .ref (q 4), .ref (q 5), .ref (q 6), .ref (q 7), .int (u 16 0), .ref (q 8), .ref (q 9), .ref (q 10), .int (u 17 0), .ref (q 11), .ref (q 12), .ref (q 13), .ref (q 14)] : List Value).set 1 (.int v))) = MW cI cZ q (mS u 15 (fun _ => v)) := rfl
theorem MW_put_16 {cI cZ : ClassId} {q : Nat → Nat} {u : SM} (v : Int32) : (MW cI cZ q u).set 0 (q 0, .inr (3, ([.int (u 14 0), .int (u 15 0), .ref (q 1), .ref (q 2), .ref (q 3), .ref (q 4), .ref (q 5), .ref (q 6), .ref (q 7), .int (u 16 0), .ref (q 8), .ref (q 9), .ref (q 10), .int (u 17 0), .ref (q 11), .ref (q 12), .ref (q 13), .ref (q 14)] : List Value).set 9 (.int v))) = MW cI cZ q (mS u 16 (fun _ => v)) := rfl
theorem MW_put_17 {cI cZ : ClassId} {q : Nat → Nat} {u : SM} (v : Int32) : (MW cI cZ q u).set 0 (q 0, .inr (3, ([.int (u 14 0), .int (u 15 0), .ref (q 1), .ref (q 2), .ref (q 3), .ref (q 4), .ref (q 5), .ref (q 6), .ref (q 7), .int (u 16 0), .ref (q 8), .ref (q 9), .ref (q 10), .int (u 17 0), .ref (q 11), .ref (q 12), .ref (q 13), .ref (q 14)] : List Value).set 13 (.int v))) = MW cI cZ q (mS u 17 (fun _ => v)) := rfl
