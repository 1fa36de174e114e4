/-! BOTH CALLS: the class's, by the law's wrapper, and the reference's -/
def zB (v : Int32) : Int32 := if v = 0 then 0 else 1
theorem zB_nar (v : Int32) : vp_nar .boolean (zB v) = zB v := g_vn01 _ (by unfold zB; split; exact Or.inl rfl; exact Or.inr rfl)
def Dbl (l : Launch) (D : va_G) (cI cZ cL : ClassId) (q qm : Nat → Nat) (qo : Nat) (yL : MethodName) (wsL : List Cond) (avL : List Value) (yM : MethodName) (wsM : List Cond) (avM : List Value) (cv : Int32 → Int64) (x : SX) (m : SM) (g : Nat → Int64) : Prop :=
  ∃ (n' w' : Nat) (x' : SX) (g' : Nat → Int64) (m1 : SM) (z v : Int32) (mc ms : Nat) (rL rM : Room),
    gW l yL wsL rL D [(cI, .int), (cZ, .boolean), (cL, .long)] (WL cI cZ cL q qo) LE XT avL (x, g) (some (.int z)) (x', g') mc ms ∧ (rL.cells = mc ∧ rL.slots = ms ∧ rL.frames ≤ 9 ∧ rL.locals ≤ 240 ∧ mc ≤ 1 ∧ ms ≤ 6) ∧
    gM l yM wsM rM D [(cI, .int), (cZ, .boolean)] (MW cI cZ qm) (fun _ => True) avM m (some (.int v)) m1 ∧ (rM.cells = 0 ∧ rM.slots = 0 ∧ rM.frames ≤ 8 ∧ rM.locals ≤ 200) ∧ m1 14 0 = z ∧ (z = 0 → g' 0 = cv v) ∧ Sim n' w' x' m1
def Dbl2 (l : Launch) (D : va_G) (cI cZ : ClassId) (q qm : Nat → Nat) (yX : MethodName) (wsX : List Cond) (yM : MethodName) (wsM : List Cond) (x : SX) (m : SM) : Prop :=
  ∃ (n' w' : Nat) (x' : SX) (m1 : SM) (v : Int32) (rX rM : Room),
    gM l yX wsX rX D [(cI, .int), (cZ, .boolean)] (XW cI cZ q) XG [.ref (q 0)] x (some (.int v)) x' ∧ (rX.cells = 0 ∧ rX.slots = 0 ∧ rX.frames ≤ 8 ∧ rX.locals ≤ 200) ∧
    gM l yM wsM rM D [(cI, .int), (cZ, .boolean)] (MW cI cZ qm) (fun _ => True) [.ref (qm 0)] m (some (.int v)) m1 ∧ (rM.cells = 0 ∧ rM.slots = 0 ∧ rM.frames ≤ 8 ∧ rM.locals ≤ 200) ∧ Sim n' w' x' m1
theorem gX_to {l : Launch} {y : MethodName} {ws : List Cond} {rm : Room} {D : va_G} {tys : List (ClassId × FieldType)} {wd : SX → va_W} {E : State → Prop} {T : (Nat → Prop) → State → Heap → Prop} {av : List Value} {u : SX} {e1 e2 : String} (h : gX l y ws rm D tys wd E T av u e1) (he : e1 = e2) : gX l y ws rm D tys wd E T av u e2 := he ▸ h
theorem makeC_v {n : Nat} {s : Int64} {p1 p2 p3 p4 : Int32} (h : ¬ xMakeC n s p1 p2 p3 p4 = 0) : xMakeC n s p1 p2 p3 p4 = 1 ∨ xMakeC n s p1 p2 p3 p4 = 2 ∨ xMakeC n s p1 p2 p3 p4 = 3 := by
  unfold xMakeC at h ⊢
  by_cases c1 : xRange p3 4 = 0
  · rw [if_pos c1]; exact Or.inl rfl
  rw [if_neg c1] at h ⊢
  by_cases c2 : xHoN s p1 = 0
  · rw [if_pos c2]; exact Or.inl rfl
  rw [if_neg c2] at h ⊢
  by_cases c3 : xHoN s p2 = 0
  · rw [if_pos c3]; exact Or.inl rfl
  rw [if_neg c3] at h ⊢
  by_cases c4 : xFiN p4 = 0
  · rw [if_pos c4]; exact Or.inr (Or.inl rfl)
  rw [if_neg c4] at h ⊢
  have hlt : ¬ (if n < 60 then (0 : Int32) else 3) = 0 → (if n < 60 then (0 : Int32) else 3) = 3 := fun h => by
    by_cases c : n < 60
    · rw [if_pos c] at h; exact absurd rfl h
    · rw [if_neg c]
  by_cases c5 : p2 = -1
  · rw [if_pos c5] at h ⊢; exact Or.inr (Or.inr (hlt h))
  rw [if_neg c5] at h ⊢
  by_cases c6 : p1 = -1
  · rw [if_pos c6]; exact Or.inr (Or.inl rfl)
  rw [if_neg c6] at h ⊢
  by_cases c7 : p1 = p2
  · rw [if_pos c7]; exact Or.inr (Or.inl rfl)
  rw [if_neg c7] at h ⊢
  exact Or.inr (Or.inr (hlt h))
theorem fetC_v {p0 p1 : Int32} {rf : Nat → Int32} (h : ¬ xFetC p0 p1 rf = 0) : xFetC p0 p1 rf = 1 ∨ xFetC p0 p1 rf = 2 ∨ xFetC p0 p1 rf = 3 := by
  unfold xFetC at h ⊢
  by_cases c1 : xRange p0 4 = 0
  · rw [if_pos c1]; exact Or.inl rfl
  · rw [if_neg c1] at h ⊢
    by_cases c2 : p1 < 0
    · rw [if_pos c2]; exact Or.inr (Or.inl rfl)
    · rw [if_neg c2] at h ⊢
      by_cases c3 : p1 ≤ 60
      · rw [if_pos c3] at h ⊢
        by_cases c4 : xRefOf rf p0 = -1
        · rw [if_pos c4]; exact Or.inr (Or.inr rfl)
        · rw [if_neg c4] at h; exact absurd rfl h
      · rw [if_neg c3]; exact Or.inr (Or.inl rfl)
theorem sim_mk {n w : Nat} {x : SX} {m : SM} (hs : Sim n w x m) (f a : Nat → Int32) : Sim n w x (mS (mS m 14 f) 10 a) := by
  unfold Sim at hs ⊢
  simp only [mS_at, Nat.reduceEqDiff, ↓reduceIte]
  exact hs
section DBL
variable {l : Launch} {D : va_G} {cI cZ cL : ClassId} {q qm : Nat → Nat} {qo : Nat} {n w : Nat} {x : SX} {m : SM} {g : Nat → Int64}
set_option maxHeartbeats 4000000 in
theorem dbl_make (hst : l.stackTraces = false) (hs : Sim n w x m) (p0 p1 p2 p3 p4 : Int32) : Dbl l D cI cZ cL q qm qo yL_make wsL_make [.ref (q 0), .int p0, .int p1, .int p2, .int p3, .int p4, .ref qo] yX3_make wsX3_make [.ref (qm 0), .int p0, .int p1, .int p2, .int p3, .int p4] Int32.toInt64 x m g := by
  obtain ⟨hn, hm, h60, hw, hmw, h3, hr⟩ := sim_n hs
  by_cases h : xRange p0 2 = 0
  · skip
    exact ⟨n, w, x, g, _, 1, 0, 1, 6, rmL1, _, wr_make_IOO l D cI cZ cL q qo _ _ _ _ _ ⟨rfl, rfl, Nat.le_of_ble_eq_true rfl, Nat.le_of_ble_eq_true rfl⟩ (ctX2_make_ns l hst D cI cZ q x p0 p1 p2 p3 p4 h), ⟨rfl, rfl, Nat.le_of_ble_eq_true rfl, Nat.le_of_ble_eq_true rfl, Nat.le_of_ble_eq_true rfl, Nat.le_of_ble_eq_true rfl⟩, (ctX3_make_ns l D cI cZ qm m p0 p1 p2 p3 p4 h), ⟨rfl, rfl, Nat.le_of_ble_eq_true rfl, Nat.le_of_ble_eq_true rfl⟩, (by simp only [mS_at, Nat.reduceEqDiff, ↓reduceIte]), fun h => absurd h (by decide), sim_14 hs _⟩
  · rcases a_store h with rfl | rfl
    · skip
      have hq := makeC_eq h60 hs.2.2.2.2.1.1 p1 p2 p3 p4
      by_cases hz : xMakeC n (x.2 0) p1 p2 p3 p4 = 0
      · obtain ⟨k1, k2, k3, k4, k5, k6⟩ := sim_makeOk hz
        exact ⟨n + 1, w, _, _, _, 0, _, 0, 0, rmL0, _, wr_make l D cI cZ cL q qo _ _ _ _ _ ⟨rfl, rfl, Nat.le_of_ble_eq_true rfl, Nat.le_of_ble_eq_true rfl⟩ (ctX2_make_0 l D cI cZ q x n hn h60 k1 0 p1 p2 p3 p4 rfl k2 (hon_or k3) (hon_or k4) (fin_or k5) k6), ⟨rfl, rfl, Nat.le_of_ble_eq_true rfl, Nat.le_of_ble_eq_true rfl, Nat.le_of_ble_eq_true rfl, Nat.le_of_ble_eq_true rfl⟩, (ctX3_make_0 l D cI cZ qm m n hm h60 p1 p2 p3 p4 (hq.symm.trans hz)), ⟨rfl, rfl, Nat.le_of_ble_eq_true rfl, Nat.le_of_ble_eq_true rfl⟩, (by simp only [mS_at, Nat.reduceEqDiff, ↓reduceIte]), fun _ => pk_uLs, sim_make_0 hs hz⟩
      · rcases makeC_v hz with k | k | k
        · skip
          exact ⟨n, w, x, g, _, 1, 0, 1, 6, rmL1, _, wr_make_IOO l D cI cZ cL q qo _ _ _ _ _ ⟨rfl, rfl, Nat.le_of_ble_eq_true rfl, Nat.le_of_ble_eq_true rfl⟩ (gX_to (ctX2_make_x0 l hst D cI cZ q x n hn h60 0 p1 p2 p3 p4 rfl 1 k (by decide)) exA_1), ⟨rfl, rfl, Nat.le_of_ble_eq_true rfl, Nat.le_of_ble_eq_true rfl, Nat.le_of_ble_eq_true rfl, Nat.le_of_ble_eq_true rfl⟩, (ctX3_make_r0 l D cI cZ qm m n hm h60 p1 p2 p3 p4 1 (hq.symm.trans k) (by decide)), ⟨rfl, rfl, Nat.le_of_ble_eq_true rfl, Nat.le_of_ble_eq_true rfl⟩, (by simp only [mS_at, Nat.reduceEqDiff, ↓reduceIte]), fun h => absurd h (by decide), sim_14 hs _⟩
        · skip
          exact ⟨n, w, x, g, _, 2, 0, 1, 6, rmL1, _, wr_make_IAE l D cI cZ cL q qo _ _ _ _ _ ⟨rfl, rfl, Nat.le_of_ble_eq_true rfl, Nat.le_of_ble_eq_true rfl⟩ (gX_to (ctX2_make_x0 l hst D cI cZ q x n hn h60 0 p1 p2 p3 p4 rfl 2 k (by decide)) exA_2), ⟨rfl, rfl, Nat.le_of_ble_eq_true rfl, Nat.le_of_ble_eq_true rfl, Nat.le_of_ble_eq_true rfl, Nat.le_of_ble_eq_true rfl⟩, (ctX3_make_r0 l D cI cZ qm m n hm h60 p1 p2 p3 p4 2 (hq.symm.trans k) (by decide)), ⟨rfl, rfl, Nat.le_of_ble_eq_true rfl, Nat.le_of_ble_eq_true rfl⟩, (by simp only [mS_at, Nat.reduceEqDiff, ↓reduceIte]), fun h => absurd h (by decide), sim_14 hs _⟩
        · skip
          exact ⟨n, w, x, g, _, 3, 0, 1, 6, rmL1, _, wr_make_ISE l D cI cZ cL q qo _ _ _ _ _ ⟨rfl, rfl, Nat.le_of_ble_eq_true rfl, Nat.le_of_ble_eq_true rfl⟩ (gX_to (ctX2_make_x0 l hst D cI cZ q x n hn h60 0 p1 p2 p3 p4 rfl 3 k (by decide)) exA_3), ⟨rfl, rfl, Nat.le_of_ble_eq_true rfl, Nat.le_of_ble_eq_true rfl, Nat.le_of_ble_eq_true rfl, Nat.le_of_ble_eq_true rfl⟩, (ctX3_make_r0 l D cI cZ qm m n hm h60 p1 p2 p3 p4 3 (hq.symm.trans k) (by decide)), ⟨rfl, rfl, Nat.le_of_ble_eq_true rfl, Nat.le_of_ble_eq_true rfl⟩, (by simp only [mS_at, Nat.reduceEqDiff, ↓reduceIte]), fun h => absurd h (by decide), sim_14 hs _⟩
    · skip
      have hq := makeC_eq h60 hs.2.2.2.2.1.2.1 p1 p2 p3 p4
      by_cases hz : xMakeC n (x.2 1) p1 p2 p3 p4 = 0
      · obtain ⟨k1, k2, k3, k4, k5, k6⟩ := sim_makeOk hz
        exact ⟨n + 1, w, _, _, _, 0, _, 0, 0, rmL0, _, wr_make l D cI cZ cL q qo _ _ _ _ _ ⟨rfl, rfl, Nat.le_of_ble_eq_true rfl, Nat.le_of_ble_eq_true rfl⟩ (ctX2_make_1 l D cI cZ q x n hn h60 k1 1 p1 p2 p3 p4 rfl k2 (hon_or k3) (hon_or k4) (fin_or k5) k6), ⟨rfl, rfl, Nat.le_of_ble_eq_true rfl, Nat.le_of_ble_eq_true rfl, Nat.le_of_ble_eq_true rfl, Nat.le_of_ble_eq_true rfl⟩, (ctX3_make_1 l D cI cZ qm m n hm h60 p1 p2 p3 p4 (hq.symm.trans hz)), ⟨rfl, rfl, Nat.le_of_ble_eq_true rfl, Nat.le_of_ble_eq_true rfl⟩, (by simp only [mS_at, Nat.reduceEqDiff, ↓reduceIte]), fun _ => pk_uLs, sim_make_1 hs hz⟩
      · rcases makeC_v hz with k | k | k
        · skip
          exact ⟨n, w, x, g, _, 1, 0, 1, 6, rmL1, _, wr_make_IOO l D cI cZ cL q qo _ _ _ _ _ ⟨rfl, rfl, Nat.le_of_ble_eq_true rfl, Nat.le_of_ble_eq_true rfl⟩ (gX_to (ctX2_make_x1 l hst D cI cZ q x n hn h60 1 p1 p2 p3 p4 rfl 1 k (by decide)) exA_1), ⟨rfl, rfl, Nat.le_of_ble_eq_true rfl, Nat.le_of_ble_eq_true rfl, Nat.le_of_ble_eq_true rfl, Nat.le_of_ble_eq_true rfl⟩, (ctX3_make_r1 l D cI cZ qm m n hm h60 p1 p2 p3 p4 1 (hq.symm.trans k) (by decide)), ⟨rfl, rfl, Nat.le_of_ble_eq_true rfl, Nat.le_of_ble_eq_true rfl⟩, (by simp only [mS_at, Nat.reduceEqDiff, ↓reduceIte]), fun h => absurd h (by decide), sim_14 hs _⟩
        · skip
          exact ⟨n, w, x, g, _, 2, 0, 1, 6, rmL1, _, wr_make_IAE l D cI cZ cL q qo _ _ _ _ _ ⟨rfl, rfl, Nat.le_of_ble_eq_true rfl, Nat.le_of_ble_eq_true rfl⟩ (gX_to (ctX2_make_x1 l hst D cI cZ q x n hn h60 1 p1 p2 p3 p4 rfl 2 k (by decide)) exA_2), ⟨rfl, rfl, Nat.le_of_ble_eq_true rfl, Nat.le_of_ble_eq_true rfl, Nat.le_of_ble_eq_true rfl, Nat.le_of_ble_eq_true rfl⟩, (ctX3_make_r1 l D cI cZ qm m n hm h60 p1 p2 p3 p4 2 (hq.symm.trans k) (by decide)), ⟨rfl, rfl, Nat.le_of_ble_eq_true rfl, Nat.le_of_ble_eq_true rfl⟩, (by simp only [mS_at, Nat.reduceEqDiff, ↓reduceIte]), fun h => absurd h (by decide), sim_14 hs _⟩
        · skip
          exact ⟨n, w, x, g, _, 3, 0, 1, 6, rmL1, _, wr_make_ISE l D cI cZ cL q qo _ _ _ _ _ ⟨rfl, rfl, Nat.le_of_ble_eq_true rfl, Nat.le_of_ble_eq_true rfl⟩ (gX_to (ctX2_make_x1 l hst D cI cZ q x n hn h60 1 p1 p2 p3 p4 rfl 3 k (by decide)) exA_3), ⟨rfl, rfl, Nat.le_of_ble_eq_true rfl, Nat.le_of_ble_eq_true rfl, Nat.le_of_ble_eq_true rfl, Nat.le_of_ble_eq_true rfl⟩, (ctX3_make_r1 l D cI cZ qm m n hm h60 p1 p2 p3 p4 3 (hq.symm.trans k) (by decide)), ⟨rfl, rfl, Nat.le_of_ble_eq_true rfl, Nat.le_of_ble_eq_true rfl⟩, (by simp only [mS_at, Nat.reduceEqDiff, ↓reduceIte]), fun h => absurd h (by decide), sim_14 hs _⟩
set_option maxHeartbeats 4000000 in
theorem dbl_setRef (hst : l.stackTraces = false) (hs : Sim n w x m) (p0 p1 p2 : Int32) : Dbl l D cI cZ cL q qm qo yL_setRef wsL_setRef [.ref (q 0), .int p0, .int p1, .int p2, .ref qo] yX3_setRef wsX3_setRef [.ref (qm 0), .int p0, .int p1, .int p2] Int32.toInt64 x m g := by
  obtain ⟨hn, hm, h60, hw, hmw, h3, hr⟩ := sim_n hs
  by_cases h : xRange p0 2 = 0
  · skip
    exact ⟨n, w, x, g, _, 1, 0, 1, 6, rmL1, _, wr_setRef_IOO l D cI cZ cL q qo _ _ _ ⟨rfl, rfl, Nat.le_of_ble_eq_true rfl, Nat.le_of_ble_eq_true rfl⟩ (ctX2_setRef_ns l hst D cI cZ q x p0 p1 p2 h), ⟨rfl, rfl, Nat.le_of_ble_eq_true rfl, Nat.le_of_ble_eq_true rfl, Nat.le_of_ble_eq_true rfl, Nat.le_of_ble_eq_true rfl⟩, (ctX3_setRef_ns l D cI cZ qm m p0 p1 p2 h), ⟨rfl, rfl, Nat.le_of_ble_eq_true rfl, Nat.le_of_ble_eq_true rfl⟩, (by simp only [mS_at, Nat.reduceEqDiff, ↓reduceIte]), fun h => absurd h (by decide), sim_14 hs _⟩
  · rcases a_store h with rfl | rfl
    · skip
      have hq := hon_eq h60 hs.2.2.2.2.1.1 p2
      by_cases h1 : xRange p1 4 = 0
      · skip
        exact ⟨n, w, x, g, _, 1, 0, 1, 6, rmL1, _, wr_setRef_IOO l D cI cZ cL q qo _ _ _ ⟨rfl, rfl, Nat.le_of_ble_eq_true rfl, Nat.le_of_ble_eq_true rfl⟩ (gX_to (ctX2_setRef_x0 l hst D cI cZ q x 0 p1 p2 rfl 1 (if_pos h1) (by decide)) exA_1), ⟨rfl, rfl, Nat.le_of_ble_eq_true rfl, Nat.le_of_ble_eq_true rfl, Nat.le_of_ble_eq_true rfl, Nat.le_of_ble_eq_true rfl⟩, (ctX3_setRef_r0 l D cI cZ qm m n hm h60 p1 p2 (Or.inl h1)), ⟨rfl, rfl, Nat.le_of_ble_eq_true rfl, Nat.le_of_ble_eq_true rfl⟩, (by simp only [mS_at, Nat.reduceEqDiff, ↓reduceIte]), fun h => absurd h (by decide), sim_14 hs _⟩
      · by_cases h2 : xHoN (x.2 0) p2 = 0
        · skip
          exact ⟨n, w, x, g, _, 1, 0, 1, 6, rmL1, _, wr_setRef_IOO l D cI cZ cL q qo _ _ _ ⟨rfl, rfl, Nat.le_of_ble_eq_true rfl, Nat.le_of_ble_eq_true rfl⟩ (gX_to (ctX2_setRef_x0 l hst D cI cZ q x 0 p1 p2 rfl 1 ((if_neg h1).trans (if_pos h2)) (by decide)) exA_1), ⟨rfl, rfl, Nat.le_of_ble_eq_true rfl, Nat.le_of_ble_eq_true rfl, Nat.le_of_ble_eq_true rfl, Nat.le_of_ble_eq_true rfl⟩, (ctX3_setRef_r0 l D cI cZ qm m n hm h60 p1 p2 (Or.inr (hq.mp h2))), ⟨rfl, rfl, Nat.le_of_ble_eq_true rfl, Nat.le_of_ble_eq_true rfl⟩, (by simp only [mS_at, Nat.reduceEqDiff, ↓reduceIte]), fun h => absurd h (by decide), sim_14 hs _⟩
        · skip
          exact ⟨n, w, _, _, _, 0, _, 0, 0, rmL0, _, wr_setRef l D cI cZ cL q qo _ _ _ ⟨rfl, rfl, Nat.le_of_ble_eq_true rfl, Nat.le_of_ble_eq_true rfl⟩ (ctX2_setRef_0 l D cI cZ q x 0 p1 p2 rfl h1 (hon_or h2)), ⟨rfl, rfl, Nat.le_of_ble_eq_true rfl, Nat.le_of_ble_eq_true rfl, Nat.le_of_ble_eq_true rfl, Nat.le_of_ble_eq_true rfl⟩, (ctX3_setRef_0 l D cI cZ qm m n hm h60 p1 p2 h1 (fun h4 => h2 (hq.mpr h4))), ⟨rfl, rfl, Nat.le_of_ble_eq_true rfl, Nat.le_of_ble_eq_true rfl⟩, (by simp only [mS_at, Nat.reduceEqDiff, ↓reduceIte]), fun _ => pk_uLs.trans (congrArg Int32.toInt64 (sim_ref_0 hs h1)), sim_setRef_0 hs h1 h2⟩
    · skip
      have hq := hon_eq h60 hs.2.2.2.2.1.2.1 p2
      by_cases h1 : xRange p1 4 = 0
      · skip
        exact ⟨n, w, x, g, _, 1, 0, 1, 6, rmL1, _, wr_setRef_IOO l D cI cZ cL q qo _ _ _ ⟨rfl, rfl, Nat.le_of_ble_eq_true rfl, Nat.le_of_ble_eq_true rfl⟩ (gX_to (ctX2_setRef_x1 l hst D cI cZ q x 1 p1 p2 rfl 1 (if_pos h1) (by decide)) exA_1), ⟨rfl, rfl, Nat.le_of_ble_eq_true rfl, Nat.le_of_ble_eq_true rfl, Nat.le_of_ble_eq_true rfl, Nat.le_of_ble_eq_true rfl⟩, (ctX3_setRef_r1 l D cI cZ qm m n hm h60 p1 p2 (Or.inl h1)), ⟨rfl, rfl, Nat.le_of_ble_eq_true rfl, Nat.le_of_ble_eq_true rfl⟩, (by simp only [mS_at, Nat.reduceEqDiff, ↓reduceIte]), fun h => absurd h (by decide), sim_14 hs _⟩
      · by_cases h2 : xHoN (x.2 1) p2 = 0
        · skip
          exact ⟨n, w, x, g, _, 1, 0, 1, 6, rmL1, _, wr_setRef_IOO l D cI cZ cL q qo _ _ _ ⟨rfl, rfl, Nat.le_of_ble_eq_true rfl, Nat.le_of_ble_eq_true rfl⟩ (gX_to (ctX2_setRef_x1 l hst D cI cZ q x 1 p1 p2 rfl 1 ((if_neg h1).trans (if_pos h2)) (by decide)) exA_1), ⟨rfl, rfl, Nat.le_of_ble_eq_true rfl, Nat.le_of_ble_eq_true rfl, Nat.le_of_ble_eq_true rfl, Nat.le_of_ble_eq_true rfl⟩, (ctX3_setRef_r1 l D cI cZ qm m n hm h60 p1 p2 (Or.inr (hq.mp h2))), ⟨rfl, rfl, Nat.le_of_ble_eq_true rfl, Nat.le_of_ble_eq_true rfl⟩, (by simp only [mS_at, Nat.reduceEqDiff, ↓reduceIte]), fun h => absurd h (by decide), sim_14 hs _⟩
        · skip
          exact ⟨n, w, _, _, _, 0, _, 0, 0, rmL0, _, wr_setRef l D cI cZ cL q qo _ _ _ ⟨rfl, rfl, Nat.le_of_ble_eq_true rfl, Nat.le_of_ble_eq_true rfl⟩ (ctX2_setRef_1 l D cI cZ q x 1 p1 p2 rfl h1 (hon_or h2)), ⟨rfl, rfl, Nat.le_of_ble_eq_true rfl, Nat.le_of_ble_eq_true rfl, Nat.le_of_ble_eq_true rfl, Nat.le_of_ble_eq_true rfl⟩, (ctX3_setRef_1 l D cI cZ qm m n hm h60 p1 p2 h1 (fun h4 => h2 (hq.mpr h4))), ⟨rfl, rfl, Nat.le_of_ble_eq_true rfl, Nat.le_of_ble_eq_true rfl⟩, (by simp only [mS_at, Nat.reduceEqDiff, ↓reduceIte]), fun _ => pk_uLs.trans (congrArg Int32.toInt64 (sim_ref_1 hs h1)), sim_setRef_1 hs h1 h2⟩
set_option maxHeartbeats 4000000 in
theorem dbl_ref (hst : l.stackTraces = false) (hs : Sim n w x m) (p0 p1 : Int32) : Dbl l D cI cZ cL q qm qo yL_ref wsL_ref [.ref (q 0), .int p0, .int p1, .ref qo] yX3_ref wsX3_ref [.ref (qm 0), .int p0, .int p1] Int32.toInt64 x m g := by
  obtain ⟨hn, hm, h60, hw, hmw, h3, hr⟩ := sim_n hs
  by_cases h : xRange p0 2 = 0
  · skip
    exact ⟨n, w, x, g, _, 1, 0, 1, 6, rmL1, _, wr_ref_IOO l D cI cZ cL q qo _ _ ⟨rfl, rfl, Nat.le_of_ble_eq_true rfl, Nat.le_of_ble_eq_true rfl⟩ (ctX2_ref_ns l hst D cI cZ q x p0 p1 h), ⟨rfl, rfl, Nat.le_of_ble_eq_true rfl, Nat.le_of_ble_eq_true rfl, Nat.le_of_ble_eq_true rfl, Nat.le_of_ble_eq_true rfl⟩, (ctX3_ref_ns l D cI cZ qm m p0 p1 h), ⟨rfl, rfl, Nat.le_of_ble_eq_true rfl, Nat.le_of_ble_eq_true rfl⟩, (by simp only [mS_at, Nat.reduceEqDiff, ↓reduceIte]), fun h => absurd h (by decide), sim_14 hs _⟩
  · rcases a_store h with rfl | rfl
    · skip
      by_cases h1 : xRange p1 4 = 0
      · skip
        exact ⟨n, w, x, g, _, 1, 0, 1, 6, rmL1, _, wr_ref_IOO l D cI cZ cL q qo _ _ ⟨rfl, rfl, Nat.le_of_ble_eq_true rfl, Nat.le_of_ble_eq_true rfl⟩ (ctX2_ref_x0 l hst D cI cZ q x 0 p1 rfl h1), ⟨rfl, rfl, Nat.le_of_ble_eq_true rfl, Nat.le_of_ble_eq_true rfl, Nat.le_of_ble_eq_true rfl, Nat.le_of_ble_eq_true rfl⟩, (ctX3_ref_r0 l D cI cZ qm m p1 h1), ⟨rfl, rfl, Nat.le_of_ble_eq_true rfl, Nat.le_of_ble_eq_true rfl⟩, (by simp only [mS_at, Nat.reduceEqDiff, ↓reduceIte]), fun h => absurd h (by decide), sim_14 hs _⟩
      · skip
        exact ⟨n, w, _, _, _, 0, _, 0, 0, rmL0, _, wr_ref l D cI cZ cL q qo _ _ ⟨rfl, rfl, Nat.le_of_ble_eq_true rfl, Nat.le_of_ble_eq_true rfl⟩ (ctX2_ref_0 l D cI cZ q x 0 p1 rfl h1), ⟨rfl, rfl, Nat.le_of_ble_eq_true rfl, Nat.le_of_ble_eq_true rfl, Nat.le_of_ble_eq_true rfl, Nat.le_of_ble_eq_true rfl⟩, (ctX3_ref_0 l D cI cZ qm m p1 h1), ⟨rfl, rfl, Nat.le_of_ble_eq_true rfl, Nat.le_of_ble_eq_true rfl⟩, (by simp only [mS_at, Nat.reduceEqDiff, ↓reduceIte]), fun _ => pk_uLs.trans (congrArg Int32.toInt64 (sim_ref_0 hs h1)), sim_14 hs _⟩
    · skip
      by_cases h1 : xRange p1 4 = 0
      · skip
        exact ⟨n, w, x, g, _, 1, 0, 1, 6, rmL1, _, wr_ref_IOO l D cI cZ cL q qo _ _ ⟨rfl, rfl, Nat.le_of_ble_eq_true rfl, Nat.le_of_ble_eq_true rfl⟩ (ctX2_ref_x1 l hst D cI cZ q x 1 p1 rfl h1), ⟨rfl, rfl, Nat.le_of_ble_eq_true rfl, Nat.le_of_ble_eq_true rfl, Nat.le_of_ble_eq_true rfl, Nat.le_of_ble_eq_true rfl⟩, (ctX3_ref_r1 l D cI cZ qm m p1 h1), ⟨rfl, rfl, Nat.le_of_ble_eq_true rfl, Nat.le_of_ble_eq_true rfl⟩, (by simp only [mS_at, Nat.reduceEqDiff, ↓reduceIte]), fun h => absurd h (by decide), sim_14 hs _⟩
      · skip
        exact ⟨n, w, _, _, _, 0, _, 0, 0, rmL0, _, wr_ref l D cI cZ cL q qo _ _ ⟨rfl, rfl, Nat.le_of_ble_eq_true rfl, Nat.le_of_ble_eq_true rfl⟩ (ctX2_ref_1 l D cI cZ q x 1 p1 rfl h1), ⟨rfl, rfl, Nat.le_of_ble_eq_true rfl, Nat.le_of_ble_eq_true rfl, Nat.le_of_ble_eq_true rfl, Nat.le_of_ble_eq_true rfl⟩, (ctX3_ref_1 l D cI cZ qm m p1 h1), ⟨rfl, rfl, Nat.le_of_ble_eq_true rfl, Nat.le_of_ble_eq_true rfl⟩, (by simp only [mS_at, Nat.reduceEqDiff, ↓reduceIte]), fun _ => pk_uLs.trans (congrArg Int32.toInt64 (sim_ref_1 hs h1)), sim_14 hs _⟩
set_option maxHeartbeats 4000000 in
theorem dbl_fileAt (hst : l.stackTraces = false) (hs : Sim n w x m) (p0 p1 : Int32) : Dbl l D cI cZ cL q qm qo yL_fileAt wsL_fileAt [.ref (q 0), .int p0, .int p1, .ref qo] yX3_fileAt wsX3_fileAt [.ref (qm 0), .int p0, .int p1] Int32.toInt64 x m g := by
  obtain ⟨hn, hm, h60, hw, hmw, h3, hr⟩ := sim_n hs
  by_cases h1 : xRange p0 (nI n) = 0
  · skip
    exact ⟨n, w, x, g, _, 1, 0, 1, 6, rmL1, _, wr_fileAt_IOO l D cI cZ cL q qo _ _ ⟨rfl, rfl, Nat.le_of_ble_eq_true rfl, Nat.le_of_ble_eq_true rfl⟩ (gX_to (ctX2_fileAt_x l hst D cI cZ q x n hn h60 p0 p1 1 (if_pos h1) (by decide)) exA_1), ⟨rfl, rfl, Nat.le_of_ble_eq_true rfl, Nat.le_of_ble_eq_true rfl, Nat.le_of_ble_eq_true rfl, Nat.le_of_ble_eq_true rfl⟩, (ctX3_fileAt_r l D cI cZ qm m n hm h60 p0 p1 (Or.inl h1)), ⟨rfl, rfl, Nat.le_of_ble_eq_true rfl, Nat.le_of_ble_eq_true rfl⟩, (by simp only [mS_at, Nat.reduceEqDiff, ↓reduceIte]), fun h => absurd h (by decide), sim_14 hs _⟩
  · by_cases h2 : xRange p1 4 = 0
    · skip
      exact ⟨n, w, x, g, _, 1, 0, 1, 6, rmL1, _, wr_fileAt_IOO l D cI cZ cL q qo _ _ ⟨rfl, rfl, Nat.le_of_ble_eq_true rfl, Nat.le_of_ble_eq_true rfl⟩ (gX_to (ctX2_fileAt_x l hst D cI cZ q x n hn h60 p0 p1 1 ((if_neg h1).trans (if_pos h2)) (by decide)) exA_1), ⟨rfl, rfl, Nat.le_of_ble_eq_true rfl, Nat.le_of_ble_eq_true rfl, Nat.le_of_ble_eq_true rfl, Nat.le_of_ble_eq_true rfl⟩, (ctX3_fileAt_r l D cI cZ qm m n hm h60 p0 p1 (Or.inr h2)), ⟨rfl, rfl, Nat.le_of_ble_eq_true rfl, Nat.le_of_ble_eq_true rfl⟩, (by simp only [mS_at, Nat.reduceEqDiff, ↓reduceIte]), fun h => absurd h (by decide), sim_14 hs _⟩
    · skip
      exact ⟨n, w, _, _, _, 0, _, 0, 0, rmL0, _, wr_fileAt l D cI cZ cL q qo _ _ ⟨rfl, rfl, Nat.le_of_ble_eq_true rfl, Nat.le_of_ble_eq_true rfl⟩ (ctX2_fileAt l D cI cZ q x n hn h60 p0 p1 h1 h2), ⟨rfl, rfl, Nat.le_of_ble_eq_true rfl, Nat.le_of_ble_eq_true rfl, Nat.le_of_ble_eq_true rfl, Nat.le_of_ble_eq_true rfl⟩, (ctX3_fileAt l D cI cZ qm m n hm h60 p0 p1 h1 h2), ⟨rfl, rfl, Nat.le_of_ble_eq_true rfl, Nat.le_of_ble_eq_true rfl⟩, (by simp only [mS_at, Nat.reduceEqDiff, ↓reduceIte]), fun _ => pk_uLs.trans (congrArg Int32.toInt64 (sim_fileAt hs h1 h2)), sim_14 hs _⟩
set_option maxHeartbeats 4000000 in
theorem dbl_wouldFetch (hst : l.stackTraces = false) (hs : Sim n w x m) (p0 p1 : Int32) : Dbl l D cI cZ cL q qm qo yL_wouldFetch wsL_wouldFetch [.ref (q 0), .int p0, .int p1, .ref qo] yX3_wouldFetch wsX3_wouldFetch [.ref (qm 0), .int p0, .int p1] Int32.toInt64 x m g := by
  obtain ⟨hn, hm, h60, hw, hmw, h3, hr⟩ := sim_n hs
  have hq := sim_fetC hs p0 p1
  by_cases hz : xFetC p0 p1 (x.1 6) = 0
  · obtain ⟨k1, k2, k3, k4, k5, r, j0, dp, hr4, rfl, hj0, hrj, hxr, hj1, hdp, rfl⟩ := sim_fetOk hs hz
    obtain ⟨hfi, hse, hsl⟩ := sim_par hs
    have hX := ctX2_wouldFetch l D cI cZ q x n hn h60 (nI r) (nI dp) k1 k2 k3 k4
    rw [hxr] at hX
    exact ⟨n, w, _, _, _, 0, _, 0, 0, rmL0, _, wr_wouldFetch l D cI cZ cL q qo _ _ ⟨rfl, rfl, Nat.le_of_ble_eq_true rfl, Nat.le_of_ble_eq_true rfl⟩ hX, ⟨rfl, rfl, Nat.le_of_ble_eq_true rfl, Nat.le_of_ble_eq_true rfl, Nat.le_of_ble_eq_true rfl, Nat.le_of_ble_eq_true rfl⟩, (ctX3_wouldFetch l D cI cZ qm m n hm h60 hfi hse r hr4 (nI dp) k5 j0 hj0 hrj), ⟨rfl, rfl, Nat.le_of_ble_eq_true rfl, Nat.le_of_ble_eq_true rfl⟩, (by simp only [mS_at, Nat.reduceEqDiff, ↓reduceIte]), fun _ => pk_uLs.trans (congrArg Int32.toInt64 (sim_would hs hj0 hj1 hdp _ _ _)), sim_wouldS hs _ _ _⟩
  · rcases fetC_v hz with k | k | k
    · skip
      exact ⟨n, w, x, g, _, 1, 0, 1, 6, rmL1, _, wr_wouldFetch_IOO l D cI cZ cL q qo _ _ ⟨rfl, rfl, Nat.le_of_ble_eq_true rfl, Nat.le_of_ble_eq_true rfl⟩ (gX_to (ctX2_wouldFetch_x l hst D cI cZ q x p0 p1 1 k (by decide)) exA_1), ⟨rfl, rfl, Nat.le_of_ble_eq_true rfl, Nat.le_of_ble_eq_true rfl, Nat.le_of_ble_eq_true rfl, Nat.le_of_ble_eq_true rfl⟩, (ctX3_wouldFetch_r l D cI cZ qm m n hm h60 p0 p1 1 (hq.symm.trans k) (by decide)), ⟨rfl, rfl, Nat.le_of_ble_eq_true rfl, Nat.le_of_ble_eq_true rfl⟩, (by simp only [mS_at, Nat.reduceEqDiff, ↓reduceIte]), fun h => absurd h (by decide), sim_14 hs _⟩
    · skip
      exact ⟨n, w, x, g, _, 2, 0, 1, 6, rmL1, _, wr_wouldFetch_IAE l D cI cZ cL q qo _ _ ⟨rfl, rfl, Nat.le_of_ble_eq_true rfl, Nat.le_of_ble_eq_true rfl⟩ (gX_to (ctX2_wouldFetch_x l hst D cI cZ q x p0 p1 2 k (by decide)) exA_2), ⟨rfl, rfl, Nat.le_of_ble_eq_true rfl, Nat.le_of_ble_eq_true rfl, Nat.le_of_ble_eq_true rfl, Nat.le_of_ble_eq_true rfl⟩, (ctX3_wouldFetch_r l D cI cZ qm m n hm h60 p0 p1 2 (hq.symm.trans k) (by decide)), ⟨rfl, rfl, Nat.le_of_ble_eq_true rfl, Nat.le_of_ble_eq_true rfl⟩, (by simp only [mS_at, Nat.reduceEqDiff, ↓reduceIte]), fun h => absurd h (by decide), sim_14 hs _⟩
    · skip
      exact ⟨n, w, x, g, _, 3, 0, 1, 6, rmL1, _, wr_wouldFetch_ISE l D cI cZ cL q qo _ _ ⟨rfl, rfl, Nat.le_of_ble_eq_true rfl, Nat.le_of_ble_eq_true rfl⟩ (gX_to (ctX2_wouldFetch_x l hst D cI cZ q x p0 p1 3 k (by decide)) exA_3), ⟨rfl, rfl, Nat.le_of_ble_eq_true rfl, Nat.le_of_ble_eq_true rfl, Nat.le_of_ble_eq_true rfl, Nat.le_of_ble_eq_true rfl⟩, (ctX3_wouldFetch_r l D cI cZ qm m n hm h60 p0 p1 3 (hq.symm.trans k) (by decide)), ⟨rfl, rfl, Nat.le_of_ble_eq_true rfl, Nat.le_of_ble_eq_true rfl⟩, (by simp only [mS_at, Nat.reduceEqDiff, ↓reduceIte]), fun h => absurd h (by decide), sim_14 hs _⟩
set_option maxHeartbeats 4000000 in
theorem dbl_fetch (hst : l.stackTraces = false) (hs : Sim n w x m) (p0 p1 p2 : Int32) : Dbl l D cI cZ cL q qm qo yL_fetch wsL_fetch [.ref (q 0), .int p0, .int p1, .int p2, .ref qo] yX3_fetch wsX3_fetch [.ref (qm 0), .int p0, .int p1, .int p2] Int32.toInt64 x m g := by
  obtain ⟨hn, hm, h60, hw, hmw, h3, hr⟩ := sim_n hs
  have hq := sim_fetC hs p0 p1
  by_cases hz : xFetC p0 p1 (x.1 6) = 0
  · obtain ⟨k1, k2, k3, k4, k5, r, j0, dp, hr4, rfl, hj0, hrj, hxr, hj1, hdp, rfl⟩ := sim_fetOk hs hz
    obtain ⟨hfi, hse, hsl⟩ := sim_par hs
    have hX := ctX2_fetch l D cI cZ q x n hn h60 (nI r) (nI dp) p2 k1 k2 k3 k4
    rw [hxr] at hX
    obtain ⟨f1, f2, f3, f4⟩ := sim_fetch hs p2 hr4 hj0 hrj hj1 hdp (x.1 3) (x.1 4) (m 10) (m 11) (m 12) (m 13) _ _ _ _ _ rfl rfl rfl rfl rfl
    rw [f2] at hX
    exact ⟨n, w, _, _, _, 0, _, 0, 0, rmL0, _, wr_fetch l D cI cZ cL q qo _ _ _ ⟨rfl, rfl, Nat.le_of_ble_eq_true rfl, Nat.le_of_ble_eq_true rfl⟩ hX, ⟨rfl, rfl, Nat.le_of_ble_eq_true rfl, Nat.le_of_ble_eq_true rfl, Nat.le_of_ble_eq_true rfl, Nat.le_of_ble_eq_true rfl⟩, (ctX3_fetch l D cI cZ qm m n hm h60 hfi hse hsl r hr4 (nI dp) p2 k5 j0 hj0 hrj), ⟨rfl, rfl, Nat.le_of_ble_eq_true rfl, Nat.le_of_ble_eq_true rfl⟩, (by simp only [mS_at, Nat.reduceEqDiff, ↓reduceIte]), fun _ => pk_uLs.trans (congrArg Int32.toInt64 f1), sim_fetchS hs hr4 hrj _ _ _ _ _ _ _ _ _ _ _ _ f3 f4⟩
  · rcases fetC_v hz with k | k | k
    · skip
      exact ⟨n, w, x, g, _, 1, 0, 1, 6, rmL1, _, wr_fetch_IOO l D cI cZ cL q qo _ _ _ ⟨rfl, rfl, Nat.le_of_ble_eq_true rfl, Nat.le_of_ble_eq_true rfl⟩ (gX_to (ctX2_fetch_x l hst D cI cZ q x p0 p1 p2 1 k (by decide)) exA_1), ⟨rfl, rfl, Nat.le_of_ble_eq_true rfl, Nat.le_of_ble_eq_true rfl, Nat.le_of_ble_eq_true rfl, Nat.le_of_ble_eq_true rfl⟩, (ctX3_fetch_r l D cI cZ qm m n hm h60 p0 p1 p2 1 (hq.symm.trans k) (by decide)), ⟨rfl, rfl, Nat.le_of_ble_eq_true rfl, Nat.le_of_ble_eq_true rfl⟩, (by simp only [mS_at, Nat.reduceEqDiff, ↓reduceIte]), fun h => absurd h (by decide), sim_14 hs _⟩
    · skip
      exact ⟨n, w, x, g, _, 2, 0, 1, 6, rmL1, _, wr_fetch_IAE l D cI cZ cL q qo _ _ _ ⟨rfl, rfl, Nat.le_of_ble_eq_true rfl, Nat.le_of_ble_eq_true rfl⟩ (gX_to (ctX2_fetch_x l hst D cI cZ q x p0 p1 p2 2 k (by decide)) exA_2), ⟨rfl, rfl, Nat.le_of_ble_eq_true rfl, Nat.le_of_ble_eq_true rfl, Nat.le_of_ble_eq_true rfl, Nat.le_of_ble_eq_true rfl⟩, (ctX3_fetch_r l D cI cZ qm m n hm h60 p0 p1 p2 2 (hq.symm.trans k) (by decide)), ⟨rfl, rfl, Nat.le_of_ble_eq_true rfl, Nat.le_of_ble_eq_true rfl⟩, (by simp only [mS_at, Nat.reduceEqDiff, ↓reduceIte]), fun h => absurd h (by decide), sim_14 hs _⟩
    · skip
      exact ⟨n, w, x, g, _, 3, 0, 1, 6, rmL1, _, wr_fetch_ISE l D cI cZ cL q qo _ _ _ ⟨rfl, rfl, Nat.le_of_ble_eq_true rfl, Nat.le_of_ble_eq_true rfl⟩ (gX_to (ctX2_fetch_x l hst D cI cZ q x p0 p1 p2 3 k (by decide)) exA_3), ⟨rfl, rfl, Nat.le_of_ble_eq_true rfl, Nat.le_of_ble_eq_true rfl, Nat.le_of_ble_eq_true rfl, Nat.le_of_ble_eq_true rfl⟩, (ctX3_fetch_r l D cI cZ qm m n hm h60 p0 p1 p2 3 (hq.symm.trans k) (by decide)), ⟨rfl, rfl, Nat.le_of_ble_eq_true rfl, Nat.le_of_ble_eq_true rfl⟩, (by simp only [mS_at, Nat.reduceEqDiff, ↓reduceIte]), fun h => absurd h (by decide), sim_14 hs _⟩
set_option maxHeartbeats 4000000 in
theorem dbl_load (hst : l.stackTraces = false) (hs : Sim n w x m) (p0 : Int32) : Dbl l D cI cZ cL q qm qo yL_load wsL_load [.ref (q 0), .int p0, .ref qo] yX3_load wsX3_load [.ref (qm 0), .int p0] bL x m g := by
  obtain ⟨hn, hm, h60, hw, hmw, h3, hr⟩ := sim_n hs
  have hq := loadC_eq (show Fil (x.1 5) (x.1 7) (m 4) from hs.2.2.2.2.2.2.1) p0
  by_cases h1 : xRange p0 100 = 0
  · skip
    exact ⟨n, w, x, g, _, 1, 0, 1, 6, rmL1, _, wr_load_IAE l D cI cZ cL q qo _ ⟨rfl, rfl, Nat.le_of_ble_eq_true rfl, Nat.le_of_ble_eq_true rfl⟩ (gX_to (ctX2_load_x l hst D cI cZ q x p0 1 (if_pos h1) (by decide)) exB_1), ⟨rfl, rfl, Nat.le_of_ble_eq_true rfl, Nat.le_of_ble_eq_true rfl, Nat.le_of_ble_eq_true rfl, Nat.le_of_ble_eq_true rfl⟩, (ctX3_load_r l D cI cZ qm m p0 1 (if_pos h1) (by decide)), ⟨rfl, rfl, Nat.le_of_ble_eq_true rfl, Nat.le_of_ble_eq_true rfl⟩, (by simp only [mS_at, Nat.reduceEqDiff, ↓reduceIte]), fun h => absurd h (by decide), sim_14 hs _⟩
  · by_cases h2 : xHas (x.1 5) p0 = 0
    · have k : xLoadC p0 (x.1 5) = 2 := (if_neg h1).trans (if_pos h2)
      exact ⟨n, w, x, g, _, 2, 0, 1, 6, rmL1, _, wr_load_ISE l D cI cZ cL q qo _ ⟨rfl, rfl, Nat.le_of_ble_eq_true rfl, Nat.le_of_ble_eq_true rfl⟩ (gX_to (ctX2_load_x l hst D cI cZ q x p0 2 k (by decide)) exB_2), ⟨rfl, rfl, Nat.le_of_ble_eq_true rfl, Nat.le_of_ble_eq_true rfl, Nat.le_of_ble_eq_true rfl, Nat.le_of_ble_eq_true rfl⟩, (ctX3_load_r l D cI cZ qm m p0 2 (hq.symm.trans k) (by decide)), ⟨rfl, rfl, Nat.le_of_ble_eq_true rfl, Nat.le_of_ble_eq_true rfl⟩, (by simp only [mS_at, Nat.reduceEqDiff, ↓reduceIte]), fun h => absurd h (by decide), sim_14 hs _⟩
    · have h4 : ¬ m 4 p0.toNatClampNeg = 0 := fun h5 => absurd ((show xLoadC p0 (x.1 5) = 0 from (if_neg h1).trans (if_neg h2)).symm.trans (hq.trans ((if_neg h1).trans (if_pos h5)))) (by decide)
      obtain ⟨f1, f2⟩ := sim_load hs h1
      exact ⟨n, w, _, _, _, 0, _, 0, 0, rmL0, _, wr_load l D cI cZ cL q qo _ ⟨rfl, rfl, Nat.le_of_ble_eq_true rfl, Nat.le_of_ble_eq_true rfl⟩ (ctX2_load l D cI cZ q x p0 h1 h2), ⟨rfl, rfl, Nat.le_of_ble_eq_true rfl, Nat.le_of_ble_eq_true rfl, Nat.le_of_ble_eq_true rfl, Nat.le_of_ble_eq_true rfl⟩, (ctX3_load l D cI cZ qm m p0 h1 h4), ⟨rfl, rfl, Nat.le_of_ble_eq_true rfl, Nat.le_of_ble_eq_true rfl⟩, (by simp only [mS_at, Nat.reduceEqDiff, ↓reduceIte]), fun _ => pk_uLs.trans (congrArg bL f1), f2⟩
set_option maxHeartbeats 4000000 in
theorem dbl_protect (hst : l.stackTraces = false) (hs : Sim n w x m) (p0 p1 : Int32) : Dbl l D cI cZ cL q qm qo yL_protect wsL_protect [.ref (q 0), .int p0, .int (zB p1), .ref qo] yX3_protect wsX3_protect [.ref (qm 0), .int p0, .int (zB p1)] bL x m g := by
  obtain ⟨hn, hm, h60, hw, hmw, h3, hr⟩ := sim_n hs
  by_cases h1 : xRange p0 4 = 0
  · skip
    exact ⟨n, w, x, g, _, 1, 0, 1, 6, rmL1, _, wr_protect_IOO l D cI cZ cL q qo _ _ ⟨rfl, rfl, Nat.le_of_ble_eq_true rfl, Nat.le_of_ble_eq_true rfl⟩ (ctX2_protect_x l hst D cI cZ q x p0 (zB p1) h1), ⟨rfl, rfl, Nat.le_of_ble_eq_true rfl, Nat.le_of_ble_eq_true rfl, Nat.le_of_ble_eq_true rfl, Nat.le_of_ble_eq_true rfl⟩, (ctX3_protect_r l D cI cZ qm m p0 (zB p1) h1), ⟨rfl, rfl, Nat.le_of_ble_eq_true rfl, Nat.le_of_ble_eq_true rfl⟩, (by simp only [mS_at, Nat.reduceEqDiff, ↓reduceIte]), fun h => absurd h (by decide), sim_14 hs _⟩
  · obtain ⟨f1, f2⟩ := sim_protect hs p0.toNatClampNeg (zB p1)
    exact ⟨n, w, _, _, _, 0, _, 0, 0, rmL0, _, wr_protect l D cI cZ cL q qo _ _ ⟨rfl, rfl, Nat.le_of_ble_eq_true rfl, Nat.le_of_ble_eq_true rfl⟩ (ctX2_protect l D cI cZ q x p0 (zB p1) h1 (zB_nar p1)), ⟨rfl, rfl, Nat.le_of_ble_eq_true rfl, Nat.le_of_ble_eq_true rfl, Nat.le_of_ble_eq_true rfl, Nat.le_of_ble_eq_true rfl⟩, (ctX3_protect l D cI cZ qm m p0 (zB p1) h1 (zB_nar p1)), ⟨rfl, rfl, Nat.le_of_ble_eq_true rfl, Nat.le_of_ble_eq_true rfl⟩, (by simp only [mS_at, Nat.reduceEqDiff, ↓reduceIte]), fun _ => pk_uLs.trans (congrArg bL f1), f2⟩
set_option maxHeartbeats 4000000 in
theorem dbl_move (hst : l.stackTraces = false) (hs : Sim n w x m) (p0 p1 p2 : Int32) : Dbl l D cI cZ cL q qm qo yL_move wsL_move [.ref (q 0), .int p0, .int p1, .int p2, .ref qo] yX3_move wsX3_move [.ref (qm 0), .int p0, .int p1, .int p2] Int32.toInt64 x m g := by
  obtain ⟨hn, hm, h60, hw, hmw, h3, hr⟩ := sim_n hs
  have hq := moveC_eq n h3 p0 p1 p2
  have e1 := con_eq n p1
  have e2 := con_eq n p2
  by_cases h1 : xRange p0 4 = 0
  · have k : xMoveC n w p0 p1 p2 = 1 := if_pos h1
    exact ⟨n, w, x, g, _, 1, 0, 1, 6, rmL1, _, wr_move_IOO l D cI cZ cL q qo _ _ _ ⟨rfl, rfl, Nat.le_of_ble_eq_true rfl, Nat.le_of_ble_eq_true rfl⟩ (gX_to (ctX2_move_x l hst D cI cZ q x n hn h60 w hw h3 p0 p1 p2 1 k (by decide)) exC_1), ⟨rfl, rfl, Nat.le_of_ble_eq_true rfl, Nat.le_of_ble_eq_true rfl, Nat.le_of_ble_eq_true rfl, Nat.le_of_ble_eq_true rfl⟩, (ctX3_move_r l D cI cZ qm m n hm h60 w hmw h3 p0 p1 p2 1 (hq.symm.trans k) (by decide)), ⟨rfl, rfl, Nat.le_of_ble_eq_true rfl, Nat.le_of_ble_eq_true rfl⟩, (by simp only [mS_at, Nat.reduceEqDiff, ↓reduceIte]), fun h => absurd h (by decide), sim_14 hs _⟩
  · by_cases h2 : xCoN n p1 = 0
    · have k : xMoveC n w p0 p1 p2 = 1 := (if_neg h1).trans (if_pos h2)
      exact ⟨n, w, x, g, _, 1, 0, 1, 6, rmL1, _, wr_move_IOO l D cI cZ cL q qo _ _ _ ⟨rfl, rfl, Nat.le_of_ble_eq_true rfl, Nat.le_of_ble_eq_true rfl⟩ (gX_to (ctX2_move_x l hst D cI cZ q x n hn h60 w hw h3 p0 p1 p2 1 k (by decide)) exC_1), ⟨rfl, rfl, Nat.le_of_ble_eq_true rfl, Nat.le_of_ble_eq_true rfl, Nat.le_of_ble_eq_true rfl, Nat.le_of_ble_eq_true rfl⟩, (ctX3_move_r l D cI cZ qm m n hm h60 w hmw h3 p0 p1 p2 1 (hq.symm.trans k) (by decide)), ⟨rfl, rfl, Nat.le_of_ble_eq_true rfl, Nat.le_of_ble_eq_true rfl⟩, (by simp only [mS_at, Nat.reduceEqDiff, ↓reduceIte]), fun h => absurd h (by decide), sim_14 hs _⟩
    · by_cases h4 : xCoN n p2 = 0
      · have k : xMoveC n w p0 p1 p2 = 1 := (if_neg h1).trans ((if_neg h2).trans (if_pos h4))
        exact ⟨n, w, x, g, _, 1, 0, 1, 6, rmL1, _, wr_move_IOO l D cI cZ cL q qo _ _ _ ⟨rfl, rfl, Nat.le_of_ble_eq_true rfl, Nat.le_of_ble_eq_true rfl⟩ (gX_to (ctX2_move_x l hst D cI cZ q x n hn h60 w hw h3 p0 p1 p2 1 k (by decide)) exC_1), ⟨rfl, rfl, Nat.le_of_ble_eq_true rfl, Nat.le_of_ble_eq_true rfl, Nat.le_of_ble_eq_true rfl, Nat.le_of_ble_eq_true rfl⟩, (ctX3_move_r l D cI cZ qm m n hm h60 w hmw h3 p0 p1 p2 1 (hq.symm.trans k) (by decide)), ⟨rfl, rfl, Nat.le_of_ble_eq_true rfl, Nat.le_of_ble_eq_true rfl⟩, (by simp only [mS_at, Nat.reduceEqDiff, ↓reduceIte]), fun h => absurd h (by decide), sim_14 hs _⟩
      · by_cases h5 : w < 3
        · skip
          exact ⟨n, w + 1, _, _, _, 0, _, 0, 0, rmL0, _, wr_move l D cI cZ cL q qo _ _ _ ⟨rfl, rfl, Nat.le_of_ble_eq_true rfl, Nat.le_of_ble_eq_true rfl⟩ (ctX2_move l D cI cZ q x n hn h60 w hw h5 p0 p1 p2 h1 (con_or h2) (con_or h4)), ⟨rfl, rfl, Nat.le_of_ble_eq_true rfl, Nat.le_of_ble_eq_true rfl, Nat.le_of_ble_eq_true rfl, Nat.le_of_ble_eq_true rfl⟩, (ctX3_move l D cI cZ qm m n hm h60 w hmw h5 p0 p1 p2 h1 (fun h6 => h2 (e1.mpr h6)) (fun h6 => h4 (e2.mpr h6))), ⟨rfl, rfl, Nat.le_of_ble_eq_true rfl, Nat.le_of_ble_eq_true rfl⟩, (by simp only [mS_at, Nat.reduceEqDiff, ↓reduceIte]), fun _ => pk_uLs, sim_move hs h5 h1 h2 h4⟩
        · have k : xMoveC n w p0 p1 p2 = 2 := (if_neg h1).trans ((if_neg h2).trans ((if_neg h4).trans (if_neg h5)))
          exact ⟨n, w, x, g, _, 2, 0, 1, 6, rmL1, _, wr_move_ISE l D cI cZ cL q qo _ _ _ ⟨rfl, rfl, Nat.le_of_ble_eq_true rfl, Nat.le_of_ble_eq_true rfl⟩ (gX_to (ctX2_move_x l hst D cI cZ q x n hn h60 w hw h3 p0 p1 p2 2 k (by decide)) exC_2), ⟨rfl, rfl, Nat.le_of_ble_eq_true rfl, Nat.le_of_ble_eq_true rfl, Nat.le_of_ble_eq_true rfl, Nat.le_of_ble_eq_true rfl⟩, (ctX3_move_r l D cI cZ qm m n hm h60 w hmw h3 p0 p1 p2 2 (hq.symm.trans k) (by decide)), ⟨rfl, rfl, Nat.le_of_ble_eq_true rfl, Nat.le_of_ble_eq_true rfl⟩, (by simp only [mS_at, Nat.reduceEqDiff, ↓reduceIte]), fun h => absurd h (by decide), sim_14 hs _⟩
set_option maxHeartbeats 4000000 in
theorem dbl_collect (hst : l.stackTraces = false) (hs : Sim n w x m) (p0 : Int32) : Dbl l D cI cZ cL q qm qo yL_collect wsL_collect [.ref (q 0), .int p0, .ref qo] yX3_collect wsX3_collect [.ref (qm 0), .int p0] Int32.toInt64 x m g := by
  obtain ⟨hn, hm, h60, hw, hmw, h3, hr⟩ := sim_n hs
  by_cases h : xRange p0 2 = 0
  · skip
    exact ⟨n, w, x, g, _, 1, 0, 1, 6, rmL1, _, wr_collect_IOO l D cI cZ cL q qo _ ⟨rfl, rfl, Nat.le_of_ble_eq_true rfl, Nat.le_of_ble_eq_true rfl⟩ (ctX2_collect_ns l hst D cI cZ q x p0 h), ⟨rfl, rfl, Nat.le_of_ble_eq_true rfl, Nat.le_of_ble_eq_true rfl, Nat.le_of_ble_eq_true rfl, Nat.le_of_ble_eq_true rfl⟩, (ctX3_collect_ns l D cI cZ qm m p0 h), ⟨rfl, rfl, Nat.le_of_ble_eq_true rfl, Nat.le_of_ble_eq_true rfl⟩, (by simp only [mS_at, Nat.reduceEqDiff, ↓reduceIte]), fun h => absurd h (by decide), sim_14 hs _⟩
  · rcases a_store h with rfl | rfl
    · skip
      obtain ⟨f1, f2⟩ := sim_collect_0 hs (xFiles n (x.1 2) (xAnc n (x.1 0) (x.1 1) (xRefs (x.1 6)) (x.2 0)) (x.1 4)) (m 10) (mOn0 n (m 3) (m 0) (m 1) (mColM n (m 3) 0 (m 5) (m 10))) _ _ _ rfl rfl rfl
      exact ⟨n, w, _, _, _, 0, _, 0, 0, rmL0, _, wr_collect l D cI cZ cL q qo _ ⟨rfl, rfl, Nat.le_of_ble_eq_true rfl, Nat.le_of_ble_eq_true rfl⟩ (ctX2_collect_0 l D cI cZ q x n hn h60 0 rfl), ⟨rfl, rfl, Nat.le_of_ble_eq_true rfl, Nat.le_of_ble_eq_true rfl, Nat.le_of_ble_eq_true rfl, Nat.le_of_ble_eq_true rfl⟩, (ctX3_collect_0 l D cI cZ qm m n hm h60), ⟨rfl, rfl, Nat.le_of_ble_eq_true rfl, Nat.le_of_ble_eq_true rfl⟩, (by simp only [mS_at, Nat.reduceEqDiff, ↓reduceIte]), fun _ => pk_uLs.trans (congrArg Int32.toInt64 f1), f2⟩
    · skip
      obtain ⟨f1, f2⟩ := sim_collect_1 hs (xFiles n (x.1 2) (xAnc n (x.1 0) (x.1 1) (xRefs (x.1 8)) (x.2 1)) (x.1 4)) (m 10) (mOn1 n (m 3) (m 0) (m 1) (mColM n (m 3) 1 (m 5) (m 10))) _ _ _ rfl rfl rfl
      exact ⟨n, w, _, _, _, 0, _, 0, 0, rmL0, _, wr_collect l D cI cZ cL q qo _ ⟨rfl, rfl, Nat.le_of_ble_eq_true rfl, Nat.le_of_ble_eq_true rfl⟩ (ctX2_collect_1 l D cI cZ q x n hn h60 1 rfl), ⟨rfl, rfl, Nat.le_of_ble_eq_true rfl, Nat.le_of_ble_eq_true rfl, Nat.le_of_ble_eq_true rfl, Nat.le_of_ble_eq_true rfl⟩, (ctX3_collect_1 l D cI cZ qm m n hm h60), ⟨rfl, rfl, Nat.le_of_ble_eq_true rfl, Nat.le_of_ble_eq_true rfl⟩, (by simp only [mS_at, Nat.reduceEqDiff, ↓reduceIte]), fun _ => pk_uLs.trans (congrArg Int32.toInt64 f1), f2⟩
set_option maxHeartbeats 4000000 in
theorem dbl_has (hst : l.stackTraces = false) (hs : Sim n w x m) (p0 p1 : Int32) : Dbl l D cI cZ cL q qm qo yL_has wsL_has [.ref (q 0), .int p0, .int p1, .ref qo] yX3_has wsX3_has [.ref (qm 0), .int p0, .int p1] bL x m g := by
  obtain ⟨hn, hm, h60, hw, hmw, h3, hr⟩ := sim_n hs
  by_cases h : xRange p0 2 = 0
  · skip
    exact ⟨n, w, x, g, _, 1, 0, 1, 6, rmL1, _, wr_has_IOO l D cI cZ cL q qo _ _ ⟨rfl, rfl, Nat.le_of_ble_eq_true rfl, Nat.le_of_ble_eq_true rfl⟩ (ctX2_has_ns l hst D cI cZ q x p0 p1 h), ⟨rfl, rfl, Nat.le_of_ble_eq_true rfl, Nat.le_of_ble_eq_true rfl, Nat.le_of_ble_eq_true rfl, Nat.le_of_ble_eq_true rfl⟩, (ctX3_has_ns l D cI cZ qm m p0 p1 h), ⟨rfl, rfl, Nat.le_of_ble_eq_true rfl, Nat.le_of_ble_eq_true rfl⟩, (by simp only [mS_at, Nat.reduceEqDiff, ↓reduceIte]), fun h => absurd h (by decide), sim_14 hs _⟩
  · rcases a_store h with rfl | rfl
    · skip
      by_cases h1 : xRange p1 (nI n) = 0
      · skip
        exact ⟨n, w, x, g, _, 1, 0, 1, 6, rmL1, _, wr_has_IOO l D cI cZ cL q qo _ _ ⟨rfl, rfl, Nat.le_of_ble_eq_true rfl, Nat.le_of_ble_eq_true rfl⟩ (ctX2_has_x0 l hst D cI cZ q x n hn h60 0 p1 rfl h1), ⟨rfl, rfl, Nat.le_of_ble_eq_true rfl, Nat.le_of_ble_eq_true rfl, Nat.le_of_ble_eq_true rfl, Nat.le_of_ble_eq_true rfl⟩, (ctX3_has_r0 l D cI cZ qm m n hm h60 p1 h1), ⟨rfl, rfl, Nat.le_of_ble_eq_true rfl, Nat.le_of_ble_eq_true rfl⟩, (by simp only [mS_at, Nat.reduceEqDiff, ↓reduceIte]), fun h => absurd h (by decide), sim_14 hs _⟩
      · skip
        exact ⟨n, w, _, _, _, 0, _, 0, 0, rmL0, _, wr_has l D cI cZ cL q qo _ _ ⟨rfl, rfl, Nat.le_of_ble_eq_true rfl, Nat.le_of_ble_eq_true rfl⟩ (ctX2_has_0 l D cI cZ q x n hn h60 0 p1 rfl h1), ⟨rfl, rfl, Nat.le_of_ble_eq_true rfl, Nat.le_of_ble_eq_true rfl, Nat.le_of_ble_eq_true rfl, Nat.le_of_ble_eq_true rfl⟩, (ctX3_has_0 l D cI cZ qm m n hm h60 p1 h1), ⟨rfl, rfl, Nat.le_of_ble_eq_true rfl, Nat.le_of_ble_eq_true rfl⟩, (by simp only [mS_at, Nat.reduceEqDiff, ↓reduceIte]), fun _ => pk_uLs.trans (congrArg bL (sim_has_0 hs p1)), sim_14 hs _⟩
    · skip
      by_cases h1 : xRange p1 (nI n) = 0
      · skip
        exact ⟨n, w, x, g, _, 1, 0, 1, 6, rmL1, _, wr_has_IOO l D cI cZ cL q qo _ _ ⟨rfl, rfl, Nat.le_of_ble_eq_true rfl, Nat.le_of_ble_eq_true rfl⟩ (ctX2_has_x1 l hst D cI cZ q x n hn h60 1 p1 rfl h1), ⟨rfl, rfl, Nat.le_of_ble_eq_true rfl, Nat.le_of_ble_eq_true rfl, Nat.le_of_ble_eq_true rfl, Nat.le_of_ble_eq_true rfl⟩, (ctX3_has_r1 l D cI cZ qm m n hm h60 p1 h1), ⟨rfl, rfl, Nat.le_of_ble_eq_true rfl, Nat.le_of_ble_eq_true rfl⟩, (by simp only [mS_at, Nat.reduceEqDiff, ↓reduceIte]), fun h => absurd h (by decide), sim_14 hs _⟩
      · skip
        exact ⟨n, w, _, _, _, 0, _, 0, 0, rmL0, _, wr_has l D cI cZ cL q qo _ _ ⟨rfl, rfl, Nat.le_of_ble_eq_true rfl, Nat.le_of_ble_eq_true rfl⟩ (ctX2_has_1 l D cI cZ q x n hn h60 1 p1 rfl h1), ⟨rfl, rfl, Nat.le_of_ble_eq_true rfl, Nat.le_of_ble_eq_true rfl, Nat.le_of_ble_eq_true rfl, Nat.le_of_ble_eq_true rfl⟩, (ctX3_has_1 l D cI cZ qm m n hm h60 p1 h1), ⟨rfl, rfl, Nat.le_of_ble_eq_true rfl, Nat.le_of_ble_eq_true rfl⟩, (by simp only [mS_at, Nat.reduceEqDiff, ↓reduceIte]), fun _ => pk_uLs.trans (congrArg bL (sim_has_1 hs p1)), sim_14 hs _⟩
set_option maxHeartbeats 4000000 in
theorem dbl_hasFile (hst : l.stackTraces = false) (hs : Sim n w x m) (p0 p1 : Int32) : Dbl l D cI cZ cL q qm qo yL_hasFile wsL_hasFile [.ref (q 0), .int p0, .int p1, .ref qo] yX3_hasFile wsX3_hasFile [.ref (qm 0), .int p0, .int p1] bL x m g := by
  obtain ⟨hn, hm, h60, hw, hmw, h3, hr⟩ := sim_n hs
  by_cases h : xRange p0 2 = 0
  · skip
    exact ⟨n, w, x, g, _, 1, 0, 1, 6, rmL1, _, wr_hasFile_IOO l D cI cZ cL q qo _ _ ⟨rfl, rfl, Nat.le_of_ble_eq_true rfl, Nat.le_of_ble_eq_true rfl⟩ (ctX2_hasFile_ns l hst D cI cZ q x p0 p1 h), ⟨rfl, rfl, Nat.le_of_ble_eq_true rfl, Nat.le_of_ble_eq_true rfl, Nat.le_of_ble_eq_true rfl, Nat.le_of_ble_eq_true rfl⟩, (ctX3_hasFile_ns l D cI cZ qm m p0 p1 h), ⟨rfl, rfl, Nat.le_of_ble_eq_true rfl, Nat.le_of_ble_eq_true rfl⟩, (by simp only [mS_at, Nat.reduceEqDiff, ↓reduceIte]), fun h => absurd h (by decide), sim_14 hs _⟩
  · rcases a_store h with rfl | rfl
    · skip
      by_cases h1 : xRange p1 100 = 0
      · skip
        exact ⟨n, w, x, g, _, 2, 0, 1, 6, rmL1, _, wr_hasFile_IAE l D cI cZ cL q qo _ _ ⟨rfl, rfl, Nat.le_of_ble_eq_true rfl, Nat.le_of_ble_eq_true rfl⟩ (ctX2_hasFile_x0 l hst D cI cZ q x 0 p1 rfl h1), ⟨rfl, rfl, Nat.le_of_ble_eq_true rfl, Nat.le_of_ble_eq_true rfl, Nat.le_of_ble_eq_true rfl, Nat.le_of_ble_eq_true rfl⟩, (ctX3_hasFile_r0 l D cI cZ qm m p1 h1), ⟨rfl, rfl, Nat.le_of_ble_eq_true rfl, Nat.le_of_ble_eq_true rfl⟩, (by simp only [mS_at, Nat.reduceEqDiff, ↓reduceIte]), fun h => absurd h (by decide), sim_14 hs _⟩
      · skip
        exact ⟨n, w, _, _, _, 0, _, 0, 0, rmL0, _, wr_hasFile l D cI cZ cL q qo _ _ ⟨rfl, rfl, Nat.le_of_ble_eq_true rfl, Nat.le_of_ble_eq_true rfl⟩ (ctX2_hasFile_0 l D cI cZ q x 0 p1 rfl h1), ⟨rfl, rfl, Nat.le_of_ble_eq_true rfl, Nat.le_of_ble_eq_true rfl, Nat.le_of_ble_eq_true rfl, Nat.le_of_ble_eq_true rfl⟩, (ctX3_hasFile_0 l D cI cZ qm m p1 h1), ⟨rfl, rfl, Nat.le_of_ble_eq_true rfl, Nat.le_of_ble_eq_true rfl⟩, (by simp only [mS_at, Nat.reduceEqDiff, ↓reduceIte]), fun _ => pk_uLs.trans (congrArg bL (sim_hasFile_0 hs h1)), sim_14 hs _⟩
    · skip
      by_cases h1 : xRange p1 100 = 0
      · skip
        exact ⟨n, w, x, g, _, 2, 0, 1, 6, rmL1, _, wr_hasFile_IAE l D cI cZ cL q qo _ _ ⟨rfl, rfl, Nat.le_of_ble_eq_true rfl, Nat.le_of_ble_eq_true rfl⟩ (ctX2_hasFile_x1 l hst D cI cZ q x 1 p1 rfl h1), ⟨rfl, rfl, Nat.le_of_ble_eq_true rfl, Nat.le_of_ble_eq_true rfl, Nat.le_of_ble_eq_true rfl, Nat.le_of_ble_eq_true rfl⟩, (ctX3_hasFile_r1 l D cI cZ qm m p1 h1), ⟨rfl, rfl, Nat.le_of_ble_eq_true rfl, Nat.le_of_ble_eq_true rfl⟩, (by simp only [mS_at, Nat.reduceEqDiff, ↓reduceIte]), fun h => absurd h (by decide), sim_14 hs _⟩
      · skip
        exact ⟨n, w, _, _, _, 0, _, 0, 0, rmL0, _, wr_hasFile l D cI cZ cL q qo _ _ ⟨rfl, rfl, Nat.le_of_ble_eq_true rfl, Nat.le_of_ble_eq_true rfl⟩ (ctX2_hasFile_1 l D cI cZ q x 1 p1 rfl h1), ⟨rfl, rfl, Nat.le_of_ble_eq_true rfl, Nat.le_of_ble_eq_true rfl, Nat.le_of_ble_eq_true rfl, Nat.le_of_ble_eq_true rfl⟩, (ctX3_hasFile_1 l D cI cZ qm m p1 h1), ⟨rfl, rfl, Nat.le_of_ble_eq_true rfl, Nat.le_of_ble_eq_true rfl⟩, (by simp only [mS_at, Nat.reduceEqDiff, ↓reduceIte]), fun _ => pk_uLs.trans (congrArg bL (sim_hasFile_1 hs h1)), sim_14 hs _⟩
set_option maxHeartbeats 4000000 in
theorem dbl_isShallow (hst : l.stackTraces = false) (hs : Sim n w x m) (p0 : Int32) : Dbl l D cI cZ cL q qm qo yL_isShallow wsL_isShallow [.ref (q 0), .int p0, .ref qo] yX3_isShallow wsX3_isShallow [.ref (qm 0), .int p0] bL x m g := by
  obtain ⟨hn, hm, h60, hw, hmw, h3, hr⟩ := sim_n hs
  by_cases h1 : xRange p0 (nI n) = 0
  · skip
    exact ⟨n, w, x, g, _, 1, 0, 1, 6, rmL1, _, wr_isShallow_IOO l D cI cZ cL q qo _ ⟨rfl, rfl, Nat.le_of_ble_eq_true rfl, Nat.le_of_ble_eq_true rfl⟩ (ctX2_isShallow_x l hst D cI cZ q x n hn h60 p0 h1), ⟨rfl, rfl, Nat.le_of_ble_eq_true rfl, Nat.le_of_ble_eq_true rfl, Nat.le_of_ble_eq_true rfl, Nat.le_of_ble_eq_true rfl⟩, (ctX3_isShallow_r l D cI cZ qm m n hm h60 p0 h1), ⟨rfl, rfl, Nat.le_of_ble_eq_true rfl, Nat.le_of_ble_eq_true rfl⟩, (by simp only [mS_at, Nat.reduceEqDiff, ↓reduceIte]), fun h => absurd h (by decide), sim_14 hs _⟩
  · skip
    exact ⟨n, w, _, _, _, 0, _, 0, 0, rmL0, _, wr_isShallow l D cI cZ cL q qo _ ⟨rfl, rfl, Nat.le_of_ble_eq_true rfl, Nat.le_of_ble_eq_true rfl⟩ (ctX2_isShallow l D cI cZ q x n hn h60 p0 h1), ⟨rfl, rfl, Nat.le_of_ble_eq_true rfl, Nat.le_of_ble_eq_true rfl, Nat.le_of_ble_eq_true rfl, Nat.le_of_ble_eq_true rfl⟩, (ctX3_isShallow l D cI cZ qm m n hm h60 p0 h1), ⟨rfl, rfl, Nat.le_of_ble_eq_true rfl, Nat.le_of_ble_eq_true rfl⟩, (by simp only [mS_at, Nat.reduceEqDiff, ↓reduceIte]), fun _ => pk_uLs.trans (congrArg bL (sim_isShallow hs h1)), sim_14 hs _⟩
set_option maxHeartbeats 4000000 in
theorem dbl_isAncestor (hst : l.stackTraces = false) (hs : Sim n w x m) (p0 p1 p2 : Int32) : Dbl l D cI cZ cL q qm qo yL_isAncestor wsL_isAncestor [.ref (q 0), .int p0, .int p1, .int p2, .ref qo] yX3_isAncestor wsX3_isAncestor [.ref (qm 0), .int p0, .int p1, .int p2] bL x m g := by
  obtain ⟨hn, hm, h60, hw, hmw, h3, hr⟩ := sim_n hs
  by_cases h : xRange p0 2 = 0
  · skip
    exact ⟨n, w, x, g, _, 1, 0, 1, 6, rmL1, _, wr_isAncestor_IOO l D cI cZ cL q qo _ _ _ ⟨rfl, rfl, Nat.le_of_ble_eq_true rfl, Nat.le_of_ble_eq_true rfl⟩ (ctX2_isAncestor_ns l hst D cI cZ q x p0 p1 p2 h), ⟨rfl, rfl, Nat.le_of_ble_eq_true rfl, Nat.le_of_ble_eq_true rfl, Nat.le_of_ble_eq_true rfl, Nat.le_of_ble_eq_true rfl⟩, (ctX3_isAncestor_ns l D cI cZ qm m p0 p1 p2 h), ⟨rfl, rfl, Nat.le_of_ble_eq_true rfl, Nat.le_of_ble_eq_true rfl⟩, (by simp only [mS_at, Nat.reduceEqDiff, ↓reduceIte]), fun h => absurd h (by decide), sim_14 hs _⟩
  · rcases a_store h with rfl | rfl
    · skip
      by_cases h1 : xRange p1 (nI n) = 0
      · skip
        exact ⟨n, w, x, g, _, 1, 0, 1, 6, rmL1, _, wr_isAncestor_IOO l D cI cZ cL q qo _ _ _ ⟨rfl, rfl, Nat.le_of_ble_eq_true rfl, Nat.le_of_ble_eq_true rfl⟩ (gX_to (ctX2_isAncestor_x0 l hst D cI cZ q x n hn h60 0 p1 p2 rfl 1 (if_pos h1) (by decide)) exA_1), ⟨rfl, rfl, Nat.le_of_ble_eq_true rfl, Nat.le_of_ble_eq_true rfl, Nat.le_of_ble_eq_true rfl, Nat.le_of_ble_eq_true rfl⟩, (ctX3_isAncestor_r0 l D cI cZ qm m n hm h60 p1 p2 (Or.inl h1)), ⟨rfl, rfl, Nat.le_of_ble_eq_true rfl, Nat.le_of_ble_eq_true rfl⟩, (by simp only [mS_at, Nat.reduceEqDiff, ↓reduceIte]), fun h => absurd h (by decide), sim_14 hs _⟩
      · by_cases h2 : xRange p2 (nI n) = 0
        · skip
          exact ⟨n, w, x, g, _, 1, 0, 1, 6, rmL1, _, wr_isAncestor_IOO l D cI cZ cL q qo _ _ _ ⟨rfl, rfl, Nat.le_of_ble_eq_true rfl, Nat.le_of_ble_eq_true rfl⟩ (gX_to (ctX2_isAncestor_x0 l hst D cI cZ q x n hn h60 0 p1 p2 rfl 1 ((if_neg h1).trans (if_pos h2)) (by decide)) exA_1), ⟨rfl, rfl, Nat.le_of_ble_eq_true rfl, Nat.le_of_ble_eq_true rfl, Nat.le_of_ble_eq_true rfl, Nat.le_of_ble_eq_true rfl⟩, (ctX3_isAncestor_r0 l D cI cZ qm m n hm h60 p1 p2 (Or.inr h2)), ⟨rfl, rfl, Nat.le_of_ble_eq_true rfl, Nat.le_of_ble_eq_true rfl⟩, (by simp only [mS_at, Nat.reduceEqDiff, ↓reduceIte]), fun h => absurd h (by decide), sim_14 hs _⟩
        · skip
          exact ⟨n, w, _, _, _, 0, _, 0, 0, rmL0, _, wr_isAncestor l D cI cZ cL q qo _ _ _ ⟨rfl, rfl, Nat.le_of_ble_eq_true rfl, Nat.le_of_ble_eq_true rfl⟩ (ctX2_isAncestor_0 l D cI cZ q x n hn h60 0 p1 p2 rfl h1 h2), ⟨rfl, rfl, Nat.le_of_ble_eq_true rfl, Nat.le_of_ble_eq_true rfl, Nat.le_of_ble_eq_true rfl, Nat.le_of_ble_eq_true rfl⟩, (ctX3_isAncestor_0 l D cI cZ qm m n hm h60 p1 p2 h1 h2), ⟨rfl, rfl, Nat.le_of_ble_eq_true rfl, Nat.le_of_ble_eq_true rfl⟩, (by simp only [mS_at, Nat.reduceEqDiff, ↓reduceIte]), fun _ => pk_uLs.trans (congrArg bL (sim_isAnc_0 hs p2 (m 10) h1)), sim_mk hs _ _⟩
    · skip
      by_cases h1 : xRange p1 (nI n) = 0
      · skip
        exact ⟨n, w, x, g, _, 1, 0, 1, 6, rmL1, _, wr_isAncestor_IOO l D cI cZ cL q qo _ _ _ ⟨rfl, rfl, Nat.le_of_ble_eq_true rfl, Nat.le_of_ble_eq_true rfl⟩ (gX_to (ctX2_isAncestor_x1 l hst D cI cZ q x n hn h60 1 p1 p2 rfl 1 (if_pos h1) (by decide)) exA_1), ⟨rfl, rfl, Nat.le_of_ble_eq_true rfl, Nat.le_of_ble_eq_true rfl, Nat.le_of_ble_eq_true rfl, Nat.le_of_ble_eq_true rfl⟩, (ctX3_isAncestor_r1 l D cI cZ qm m n hm h60 p1 p2 (Or.inl h1)), ⟨rfl, rfl, Nat.le_of_ble_eq_true rfl, Nat.le_of_ble_eq_true rfl⟩, (by simp only [mS_at, Nat.reduceEqDiff, ↓reduceIte]), fun h => absurd h (by decide), sim_14 hs _⟩
      · by_cases h2 : xRange p2 (nI n) = 0
        · skip
          exact ⟨n, w, x, g, _, 1, 0, 1, 6, rmL1, _, wr_isAncestor_IOO l D cI cZ cL q qo _ _ _ ⟨rfl, rfl, Nat.le_of_ble_eq_true rfl, Nat.le_of_ble_eq_true rfl⟩ (gX_to (ctX2_isAncestor_x1 l hst D cI cZ q x n hn h60 1 p1 p2 rfl 1 ((if_neg h1).trans (if_pos h2)) (by decide)) exA_1), ⟨rfl, rfl, Nat.le_of_ble_eq_true rfl, Nat.le_of_ble_eq_true rfl, Nat.le_of_ble_eq_true rfl, Nat.le_of_ble_eq_true rfl⟩, (ctX3_isAncestor_r1 l D cI cZ qm m n hm h60 p1 p2 (Or.inr h2)), ⟨rfl, rfl, Nat.le_of_ble_eq_true rfl, Nat.le_of_ble_eq_true rfl⟩, (by simp only [mS_at, Nat.reduceEqDiff, ↓reduceIte]), fun h => absurd h (by decide), sim_14 hs _⟩
        · skip
          exact ⟨n, w, _, _, _, 0, _, 0, 0, rmL0, _, wr_isAncestor l D cI cZ cL q qo _ _ _ ⟨rfl, rfl, Nat.le_of_ble_eq_true rfl, Nat.le_of_ble_eq_true rfl⟩ (ctX2_isAncestor_1 l D cI cZ q x n hn h60 1 p1 p2 rfl h1 h2), ⟨rfl, rfl, Nat.le_of_ble_eq_true rfl, Nat.le_of_ble_eq_true rfl, Nat.le_of_ble_eq_true rfl, Nat.le_of_ble_eq_true rfl⟩, (ctX3_isAncestor_1 l D cI cZ qm m n hm h60 p1 p2 h1 h2), ⟨rfl, rfl, Nat.le_of_ble_eq_true rfl, Nat.le_of_ble_eq_true rfl⟩, (by simp only [mS_at, Nat.reduceEqDiff, ↓reduceIte]), fun _ => pk_uLs.trans (congrArg bL (sim_isAnc_1 hs p2 (m 10) h1)), sim_mk hs _ _⟩
set_option maxHeartbeats 4000000 in
theorem dbl_rounds (hs : Sim n w x m) : Dbl2 l D cI cZ q qm yX2_rounds wsX2_rounds yX3_rounds wsX3_rounds x m := by
  obtain ⟨hn, hm, h60, hw, hmw, h3, hr⟩ := sim_n hs
  have hX := ctX2_rounds l D cI cZ q x
  rw [hr] at hX
  exact ⟨n, w, x, _, _, _, _, hX, ⟨rfl, rfl, Nat.le_of_ble_eq_true rfl, Nat.le_of_ble_eq_true rfl⟩, ctX3_rounds l D cI cZ qm m, ⟨rfl, rfl, Nat.le_of_ble_eq_true rfl, Nat.le_of_ble_eq_true rfl⟩, sim_14 hs _⟩
set_option maxHeartbeats 4000000 in
theorem dbl_commits (hs : Sim n w x m) : Dbl2 l D cI cZ q qm yX2_commits wsX2_commits yX3_commits wsX3_commits x m := by
  obtain ⟨hn, hm, h60, hw, hmw, h3, hr⟩ := sim_n hs
  exact ⟨n, w, x, _, _, _, _, ctX2_commits l D cI cZ q x n hn h60, ⟨rfl, rfl, Nat.le_of_ble_eq_true rfl, Nat.le_of_ble_eq_true rfl⟩, ctX3_commits l D cI cZ qm m n hm h60, ⟨rfl, rfl, Nat.le_of_ble_eq_true rfl, Nat.le_of_ble_eq_true rfl⟩, sim_14 hs _⟩
set_option maxHeartbeats 4000000 in
theorem dbl_missing (hs : Sim n w x m) : Dbl2 l D cI cZ q qm yX2_missing wsX2_missing yX3_missing wsX3_missing x m := by
  obtain ⟨hn, hm, h60, hw, hmw, h3, hr⟩ := sim_n hs
  have hX := ctX2_missing l D cI cZ q x n hn h60
  rw [sim_missing hs] at hX
  exact ⟨n, w, _, _, _, _, _, hX, ⟨rfl, rfl, Nat.le_of_ble_eq_true rfl, Nat.le_of_ble_eq_true rfl⟩, ctX3_missing l D cI cZ qm m n hm h60, ⟨rfl, rfl, Nat.le_of_ble_eq_true rfl, Nat.le_of_ble_eq_true rfl⟩, sim_missS hs _⟩
set_option maxHeartbeats 4000000 in
theorem dbl_push (hs : Sim n w x m) : Dbl2 l D cI cZ q qm yX2_push wsX2_push yX3_push wsX3_push x m := by
  obtain ⟨hn, hm, h60, hw, hmw, h3, hr⟩ := sim_n hs
  obtain ⟨hfi, hse, hsl⟩ := sim_par hs
  obtain ⟨hmr, hmo⟩ := sim_mov hs
  have hf := sim_first hs (m 10)
  have hX := ctX2_push l D cI cZ q x n hn h60 w hw h3
  by_cases hz : xFirst n (x.1 0) (x.1 1) (x.1 6) (x.1 9) (x.2 0) (x.2 1) (x.1 10) (x.1 11) (x.1 12) w = 0
  · simp only [if_pos hz] at hX
    obtain ⟨f1, f2⟩ := sim_push hs hz (xFiles n (x.1 2) (xAnc n (x.1 0) (x.1 1) (xMv (x.1 10) (x.1 12) (x.1 6) w).1 (x.2 1)) (x.1 4)) (mBars n (m 3) (m 0) (m 1) (m 5) (m 6) (m 7) (m 8) (m 9) w 0 (m 10)).2 (itU (mPushO n (m 0) (m 1) (m 2) (m 7) (m 9)) w 0 (0, (mBars n (m 3) (m 0) (m 1) (m 5) (m 6) (m 7) (m 8) (m 9) w 0 (m 10)).2, m 3, m 4, m 5)).2.1 _ _ _ rfl rfl rfl
    rw [f1] at hX
    exact ⟨n, 0, _, _, _, _, _, hX, ⟨rfl, rfl, Nat.le_of_ble_eq_true rfl, Nat.le_of_ble_eq_true rfl⟩, ctX3_push l D cI cZ qm m n hm h60 hsl w h3 hmr hmo hmw (hf.symm.trans hz), ⟨rfl, rfl, Nat.le_of_ble_eq_true rfl, Nat.le_of_ble_eq_true rfl⟩, f2⟩
  · simp only [if_neg hz] at hX
    exact ⟨n, 0, _, _, _, _, _, hX, ⟨rfl, rfl, Nat.le_of_ble_eq_true rfl, Nat.le_of_ble_eq_true rfl⟩, ctX3_push_r l D cI cZ qm m n hm h60 hsl w h3 hmr hmo hmw _ hf.symm hz, ⟨rfl, rfl, Nat.le_of_ble_eq_true rfl, Nat.le_of_ble_eq_true rfl⟩, sim_pushR hs _ _⟩
end DBL
