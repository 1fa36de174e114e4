/-! THE FIRST TWO STATES of a house in the law: empty, and with one commit in the server -/
theorem rF_at : ∀ r, r < 4 → rF r = -1 := fun r hr => by rcases (show r = 0 ∨ r = 1 ∨ r = 2 ∨ r = 3 by omega) with rfl | rfl | rfl | rfl <;> rfl
theorem u0_n : uX0.1 15 0 = nI 0 := nI_0.symm
theorem u0_w : uX0.1 13 0 = nI 0 := nI_0.symm
theorem xCon_z (c : Int32) : xCon 0 c = 0 := Classical.byContradiction (fun h => by
  obtain ⟨j, _, _, hb⟩ := (xCon_ne 0 c).mp h
  exact Bt_0 j hb)
def uM (X : Nat) : SX := xMkS 0 0 uX0 (-1) (-1) (aT X) (aL X)
theorem uM_n (X : Nat) : (uM X).1 15 0 = nI 1 := nI_1 0
theorem uM_w (X : Nat) : (uM X).1 13 0 = nI 0 := u0_w
theorem uM_6 (X : Nat) : (uM X).1 6 = rF := rfl
theorem uM_8 (X : Nat) : (uM X).1 8 = rF := rfl
theorem uM_0 (X : Nat) : (uM X).1 0 = upd zF 0 (-1) := rfl
theorem uM_1 (X : Nat) : (uM X).1 1 = upd zF 0 (-1) := rfl
theorem uM_h0 (X : Nat) : (uM X).2 0 = (0 ||| xSet (nI 0)) := rfl
theorem uM_h1 (X : Nat) : (uM X).2 1 = 0 := rfl
theorem aL_ok (X : Nat) : ¬ xFiN (aL X) = 0 := by
  unfold aL
  by_cases h : X / 32 / 28 % 31 = 0
  · rw [h]
    exact fin_p (by decide +kernel)
  · rw [pk_sub (show 1 ≤ X / 32 / 28 % 31 by omega)]
    exact fin_k (xR_in (n := 100) (by omega) (by omega))
theorem aZ_0 (X : Nat) : xMakeC 0 (uX0.2 0) (-1) (-1) (aT X) (aL X) = 0 := by
  unfold xMakeC
  rw [if_neg (show ¬ xRange (aT X) 4 = 0 from xR_in (n := 4) (Nat.mod_lt _ (by omega)) (by omega)), if_neg (hoN_m1 _), if_neg (hoN_m1 _), if_neg (aL_ok X), if_pos (rfl : (-1 : Int32) = -1), if_pos (show 0 < 60 by omega)]
theorem aS_0 (X : Nat) : aS uX0 0 X = -1 := by
  unfold aS
  by_cases h : 0 < X / 32 / 18 % 3
  · rw [if_pos h]
  · rw [if_neg h, if_pos (show aF uX0 0 X < 0 from by show (-1 : Int32) < 0; decide +kernel)]
theorem aZ_1 {X : Nat} (hb : X / 32 % 2 = 0) : aZ uX0 0 X = 0 := by
  unfold aZ
  rw [hb, aS_0]
  exact aZ_0 X
theorem aV_0 {X : Nat} (hb : X / 32 % 2 = 0) : aV uX0 0 X = nI 0 := by
  unfold aV
  rw [if_pos (aZ_1 hb)]
theorem aU_0 {X : Nat} (hb : X / 32 % 2 = 0) : aU uX0 0 X = uM X := by
  unfold aU uM
  rw [if_pos (aZ_1 hb), hb, aS_0]
  rfl
theorem no_0 : ∀ b, b < 2 → ∀ c : Int32, xRange c (nI 0) = 0 → xCon (uX0.2 b) c = 0 := fun _ _ c _ => xCon_z c
theorem no_1 (X : Nat) : ∀ b, b < 2 → ∀ c : Int32, xRange c (nI 1) = 0 → xCon ((uM X).2 b) c = 0 := by
  intro b hb c hc
  rcases (show b = 0 ∨ b = 1 by omega) with rfl | rfl
  · rw [uM_h0]
    refine Classical.byContradiction (fun h => ?_)
    obtain ⟨j, hj, rfl, hB⟩ := (xCon_ne _ c).mp h
    rcases (Bt_or _ _ j).mp hB with h1 | h1
    · exact Bt_0 j h1
    · obtain ⟨_, h2⟩ := (Bt_set (nI 0) j).mp h1
      have h3 : 0 = j := (nI_eq (by omega) (by omega)).mp h2
      subst h3
      exact xR_in (n := 1) (by omega) (by omega) hc
  · rw [uM_h1]
    exact xCon_z c
theorem ref_0 : ∀ r, r < 4 → rF r = -1 ∨ ∃ j : Nat, j < 2 ^ 31 ∧ rF r = nI j := fun r hr => Or.inl (rF_at r hr)
theorem m_a0 : xCon (xAnc 1 (upd zF 0 (-1)) (upd zF 0 (-1)) (xSet (nI 0)) (0 ||| xSet (nI 0))) (nI 0) = nI 1 := by decide +kernel
theorem m_a1 : xCon (xAnc 1 (upd zF 0 (-1)) (upd zF 0 (-1)) (xSet (nI 0)) 0) (nI 0) = 0 := by decide +kernel
theorem m_s1 : xCon (xShallow 1 (upd zF 0 (-1)) (upd zF 0 (-1)) 0) (nI 0) = 0 := by decide +kernel
theorem m_c0 : xCon (0 ||| xSet (nI 0)) (nI 0) = nI 1 := by decide +kernel
theorem HA_1 (X : Nat) : HA (uM X) 1 0 0 := by
  unfold HA
  rw [uM_0, uM_1, uM_h0, uM_h1, m_a0, m_a1, m_s1, m_c0, xCon_z]
  exact ⟨fun _ => ⟨rfl, rfl, Nat.le_refl 0⟩, fun h => absurd rfl h, fun _ => ⟨rfl, rfl⟩, fun h => absurd rfl h, fun h => absurd rfl h⟩
/-- as many cells as a world has, beyond where it begins -/
theorem pg_le (lo : Nat) : ∀ (n : Nat) (f : Nat → Nat) (hi : Nat), (∀ i, i < n → lo ≤ f i ∧ f i < hi) → (∀ i j, i < n → j < n → f i = f j → i = j) → n = 0 ∨ lo + n ≤ hi := by
  intro n
  induction n with
  | zero => exact fun _ _ _ _ => Or.inl rfl
  | succ n ih =>
    intro f hi h1 h2
    refine Or.inr ?_
    have hhi : 0 < hi := by have := h1 n (by omega); omega
    -- the place whose value is the last one is given to the last index
    by_cases hz : ∃ i, i < n ∧ f i = hi - 1
    · obtain ⟨i, hi1, hi2⟩ := hz
      have h := ih (fun j => if j = i then f n else f j) (hi - 1) (fun j hj => by
        by_cases e : j = i
        · show lo ≤ (if j = i then f n else f j) ∧ (if j = i then f n else f j) < hi - 1
          rw [if_pos e]
          have a := h1 n (by omega)
          have b : f n ≠ hi - 1 := fun e2 => by have := h2 n i (by omega) (by omega) (e2.trans hi2.symm); omega
          omega
        · show lo ≤ (if j = i then f n else f j) ∧ (if j = i then f n else f j) < hi - 1
          rw [if_neg e]
          have a := h1 j (by omega)
          have b : f j ≠ hi - 1 := fun e2 => e (h2 j i (by omega) (by omega) (e2.trans hi2.symm))
          omega) (fun j k hj hk e => by
        have e : (if j = i then f n else f j) = (if k = i then f n else f k) := e
        by_cases e1 : j = i
        · by_cases e3 : k = i
          · exact e1.trans e3.symm
          · rw [if_pos e1, if_neg e3] at e
            have := h2 n k (by omega) (by omega) e
            omega
        · by_cases e3 : k = i
          · rw [if_neg e1, if_pos e3] at e
            have := h2 j n (by omega) (by omega) e
            omega
          · rw [if_neg e1, if_neg e3] at e
            exact h2 j k (by omega) (by omega) e)
      have a := h1 n (by omega)
      have a2 := h1 i (by omega)
      have b : f n ≠ f i := fun e2 => by have := h2 n i (by omega) (by omega) e2; omega
      omega
    · have h := ih f (hi - 1) (fun j hj => by
        have a := h1 j (by omega)
        have b : f j ≠ hi - 1 := fun e => hz ⟨j, hj, e⟩
        omega) (fun j k hj hk e => h2 j k (by omega) (by omega) e)
      have a := h1 n (by omega)
      omega
theorem w_size {D : va_G} {cl : List vw_C} {ws : va_W} {H : Heap} {lo : Nat} (hP : va_P D cl ws H) (hD : va_D (fun a => lo ≤ a) ws) (h0 : 0 < ws.length) : lo + ws.length ≤ H.size := by
  have hg : ∀ i, i < ws.length → ∃ q, ws[i]? = some q := fun i hi => ⟨ws[i], List.getElem?_eq_getElem hi⟩
  have h := pg_le lo ws.length (fun i => (ws[i]?.map (fun q => q.1)).getD 0) H.size (fun i hi => by
    obtain ⟨q, hq⟩ := hg i hi
    show lo ≤ (ws[i]?.map (fun q => q.1)).getD 0 ∧ (ws[i]?.map (fun q => q.1)).getD 0 < H.size
    rw [hq]
    exact ⟨hD.2 i q hq, (hP i q hq).lt⟩) (fun i j hi hj e => by
    obtain ⟨q, hq⟩ := hg i hi
    obtain ⟨r, hr⟩ := hg j hj
    have e : (ws[i]?.map (fun q => q.1)).getD 0 = (ws[j]?.map (fun q => q.1)).getD 0 := e
    rw [hq, hr] at e
    exact hD.1 i j q r hq hr e)
  rcases h with h | h
  · omega
  · exact h
