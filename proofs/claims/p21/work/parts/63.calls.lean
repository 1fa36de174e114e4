/-! THE LAW'S CALLS: what refuses them (0 nothing, 1 no index, 2 no argument, 3 no state), what they answer -/
def fxStore (p0 z : Int32) : Int32 := if xRange p0 2 = 0 then 1 else z
def fxH (u : SX) (p0 : Int32) : Int64 := if p0 = 0 then u.2 0 else u.2 1
def fxLoad (p0 : Int32) (fl : Nat → Int32) : Int32 := if xRange p0 100 = 0 then 2 else if xHas fl p0 = 0 then 3 else 0
def fxMove (n w : Nat) (p0 p1 p2 : Int32) : Int32 := if xRange p0 4 = 0 then 1 else if xCoN n p1 = 0 then 1 else if xCoN n p2 = 0 then 1 else if w < 3 then 0 else 3
def cdx (z : Int32) : Int32 := if z = 1 then (-2000000001) else if z = 2 then (-2000000002) else (-2000000003)
theorem cdx_1 : cdx 1 = -2000000001 := if_pos rfl
theorem cdx_2 : cdx 2 = -2000000002 := (if_neg (by decide)).trans (if_pos rfl)
theorem cdx_3 : cdx 3 = -2000000003 := (if_neg (by decide)).trans (if_neg (by decide))
theorem zI_01 {v : Int32} (h : v = 0 ∨ v = 1) : zI v = v := by rcases h with h | h <;> subst h <;> rfl
theorem xHas_01' (fl : Nat → Int32) (f : Int32) : xHas fl f = 0 ∨ xHas fl f = 1 := by unfold xHas; split; exact Or.inl rfl; split; exact Or.inl rfl; exact Or.inr rfl
theorem xMakeC_v (n : Nat) (s : Int64) (p1 p2 p3 p4 : Int32) : xMakeC n s p1 p2 p3 p4 = 0 ∨ xMakeC n s p1 p2 p3 p4 = 1 ∨ xMakeC n s p1 p2 p3 p4 = 2 ∨ xMakeC n s p1 p2 p3 p4 = 3 := by
  unfold xMakeC
  repeat' split
  all_goals first | exact Or.inl rfl | exact Or.inr (Or.inl rfl) | exact Or.inr (Or.inr (Or.inl rfl)) | exact Or.inr (Or.inr (Or.inr rfl))
theorem xSetRC_v (s : Int64) (p1 p2 : Int32) : xSetRC s p1 p2 = 0 ∨ xSetRC s p1 p2 = 1 := by
  unfold xSetRC
  repeat' split
  all_goals first | exact Or.inl rfl | exact Or.inr rfl
theorem xFileC_v (n : Nat) (p1 p2 : Int32) : xFileC n p1 p2 = 0 ∨ xFileC n p1 p2 = 1 := by
  unfold xFileC
  repeat' split
  all_goals first | exact Or.inl rfl | exact Or.inr rfl
theorem xAncC_v (n : Nat) (p1 p2 : Int32) : xAncC n p1 p2 = 0 ∨ xAncC n p1 p2 = 1 := by
  unfold xAncC
  repeat' split
  all_goals first | exact Or.inl rfl | exact Or.inr rfl
theorem xFetC_v (p0 p1 : Int32) (rf : Nat → Int32) : xFetC p0 p1 rf = 0 ∨ xFetC p0 p1 rf = 1 ∨ xFetC p0 p1 rf = 2 ∨ xFetC p0 p1 rf = 3 := by
  unfold xFetC
  repeat' split
  all_goals first | exact Or.inl rfl | exact Or.inr (Or.inl rfl) | exact Or.inr (Or.inr (Or.inl rfl)) | exact Or.inr (Or.inr (Or.inr rfl))
theorem tx_makes (l : Launch) (hst : l.stackTraces = false) (D : va_G) (cI cZ : ClassId) (q : Nat → Nat) (u : SX) (n : Nat) (hn : u.1 15 0 = nI n) (h60 : n ≤ 60) (p0 p1 p2 p3 p4 : Int32) {z : Int32} (hz : fxStore p0 (xMakeC n (fxH u p0) p1 p2 p3 p4) = z) (hz0 : ¬ z = 0) : gB l yL_makes wsL_makes rmL1 D (tyXZ cI cZ) (XW cI cZ q) LE XT [.ref (q 0), .int p0, .int p1, .int p2, .int p3, .int p4] u (some (.int (cdx z))) u 1 6 1 := by
  by_cases hs : xRange p0 2 = 0
  · have h1 : z = 1 := hz.symm.trans (if_pos hs)
    subst h1; rw [cdx_1]
    exact wr_makes_IOO l D cI cZ q p0 p1 p2 p3 p4 ⟨rfl, rfl, Nat.le_of_ble_eq_true rfl, Nat.le_of_ble_eq_true rfl⟩ (ctX2_make_ns l hst D cI cZ q u p0 p1 p2 p3 p4 hs)
  · have hz1 : (xMakeC n (fxH u p0) p1 p2 p3 p4) = z := (if_neg hs).symm.trans hz
    rcases a_store hs with h0 | h0
    · have e1 : fxH u p0 = u.2 0 := if_pos h0
      rw [e1] at hz1
      have hX := ctX2_make_x0 l hst D cI cZ q u n hn h60 p0 p1 p2 p3 p4 h0 z hz1 hz0
      rcases xMakeC_v n (u.2 0) p1 p2 p3 p4 with h | h | h | h
      · exact absurd (hz1.symm.trans h) hz0
      · have h9 : z = 1 := hz1.symm.trans h
        subst h9; rw [exA_1] at hX; rw [cdx_1]; exact wr_makes_IOO l D cI cZ q p0 p1 p2 p3 p4 ⟨rfl, rfl, Nat.le_of_ble_eq_true rfl, Nat.le_of_ble_eq_true rfl⟩ hX
      · have h9 : z = 2 := hz1.symm.trans h
        subst h9; rw [exA_2] at hX; rw [cdx_2]; exact wr_makes_IAE l D cI cZ q p0 p1 p2 p3 p4 ⟨rfl, rfl, Nat.le_of_ble_eq_true rfl, Nat.le_of_ble_eq_true rfl⟩ hX
      · have h9 : z = 3 := hz1.symm.trans h
        subst h9; rw [exA_3] at hX; rw [cdx_3]; exact wr_makes_ISE l D cI cZ q p0 p1 p2 p3 p4 ⟨rfl, rfl, Nat.le_of_ble_eq_true rfl, Nat.le_of_ble_eq_true rfl⟩ hX
    · have e1 : fxH u p0 = u.2 1 := if_neg (by rw [h0]; decide)
      rw [e1] at hz1
      have hX := ctX2_make_x1 l hst D cI cZ q u n hn h60 p0 p1 p2 p3 p4 h0 z hz1 hz0
      rcases xMakeC_v n (u.2 1) p1 p2 p3 p4 with h | h | h | h
      · exact absurd (hz1.symm.trans h) hz0
      · have h9 : z = 1 := hz1.symm.trans h
        subst h9; rw [exA_1] at hX; rw [cdx_1]; exact wr_makes_IOO l D cI cZ q p0 p1 p2 p3 p4 ⟨rfl, rfl, Nat.le_of_ble_eq_true rfl, Nat.le_of_ble_eq_true rfl⟩ hX
      · have h9 : z = 2 := hz1.symm.trans h
        subst h9; rw [exA_2] at hX; rw [cdx_2]; exact wr_makes_IAE l D cI cZ q p0 p1 p2 p3 p4 ⟨rfl, rfl, Nat.le_of_ble_eq_true rfl, Nat.le_of_ble_eq_true rfl⟩ hX
      · have h9 : z = 3 := hz1.symm.trans h
        subst h9; rw [exA_3] at hX; rw [cdx_3]; exact wr_makes_ISE l D cI cZ q p0 p1 p2 p3 p4 ⟨rfl, rfl, Nat.le_of_ble_eq_true rfl, Nat.le_of_ble_eq_true rfl⟩ hX
theorem tx_sets (l : Launch) (hst : l.stackTraces = false) (D : va_G) (cI cZ : ClassId) (q : Nat → Nat) (u : SX) (p0 p1 p2 : Int32) {z : Int32} (hz : fxStore p0 (xSetRC (fxH u p0) p1 p2) = z) (hz0 : ¬ z = 0) : gB l yL_sets wsL_sets rmL1 D (tyXZ cI cZ) (XW cI cZ q) LE XT [.ref (q 0), .int p0, .int p1, .int p2] u (some (.int (cdx z))) u 1 6 1 := by
  by_cases hs : xRange p0 2 = 0
  · have h1 : z = 1 := hz.symm.trans (if_pos hs)
    subst h1; rw [cdx_1]
    exact wr_sets_IOO l D cI cZ q p0 p1 p2 ⟨rfl, rfl, Nat.le_of_ble_eq_true rfl, Nat.le_of_ble_eq_true rfl⟩ (ctX2_setRef_ns l hst D cI cZ q u p0 p1 p2 hs)
  · have hz1 : (xSetRC (fxH u p0) p1 p2) = z := (if_neg hs).symm.trans hz
    rcases a_store hs with h0 | h0
    · have e1 : fxH u p0 = u.2 0 := if_pos h0
      rw [e1] at hz1
      have hX := ctX2_setRef_x0 l hst D cI cZ q u p0 p1 p2 h0 z hz1 hz0
      rcases xSetRC_v (u.2 0) p1 p2 with h | h
      · exact absurd (hz1.symm.trans h) hz0
      · have h9 : z = 1 := hz1.symm.trans h
        subst h9; rw [exA_1] at hX; rw [cdx_1]; exact wr_sets_IOO l D cI cZ q p0 p1 p2 ⟨rfl, rfl, Nat.le_of_ble_eq_true rfl, Nat.le_of_ble_eq_true rfl⟩ hX
    · have e1 : fxH u p0 = u.2 1 := if_neg (by rw [h0]; decide)
      rw [e1] at hz1
      have hX := ctX2_setRef_x1 l hst D cI cZ q u p0 p1 p2 h0 z hz1 hz0
      rcases xSetRC_v (u.2 1) p1 p2 with h | h
      · exact absurd (hz1.symm.trans h) hz0
      · have h9 : z = 1 := hz1.symm.trans h
        subst h9; rw [exA_1] at hX; rw [cdx_1]; exact wr_sets_IOO l D cI cZ q p0 p1 p2 ⟨rfl, rfl, Nat.le_of_ble_eq_true rfl, Nat.le_of_ble_eq_true rfl⟩ hX
theorem tx_ref (l : Launch) (hst : l.stackTraces = false) (D : va_G) (cI cZ : ClassId) (q : Nat → Nat) (u : SX) (p0 p1 : Int32) {z : Int32} (hz : fxStore p0 (if xRange p1 4 = 0 then 1 else 0) = z) (hz0 : ¬ z = 0) : gB l yL_ref wsL_ref rmL1 D (tyXZ cI cZ) (XW cI cZ q) LE XT [.ref (q 0), .int p0, .int p1] u (some (.int (cdx z))) u 1 6 1 := by
  by_cases hs : xRange p0 2 = 0
  · have h1 : z = 1 := hz.symm.trans (if_pos hs)
    subst h1; rw [cdx_1]
    exact wr_ref_IOO l D cI cZ q p0 p1 ⟨rfl, rfl, Nat.le_of_ble_eq_true rfl, Nat.le_of_ble_eq_true rfl⟩ (ctX2_ref_ns l hst D cI cZ q u p0 p1 hs)
  · have hz1 : (if xRange p1 4 = 0 then 1 else 0) = z := (if_neg hs).symm.trans hz
    rcases a_store hs with h0 | h0
    · have e1 : fxH u p0 = u.2 0 := if_pos h0
      by_cases hc : xRange p1 4 = 0
      · have h9 : z = 1 := hz1.symm.trans (if_pos hc)
        subst h9; rw [cdx_1]; exact wr_ref_IOO l D cI cZ q p0 p1 ⟨rfl, rfl, Nat.le_of_ble_eq_true rfl, Nat.le_of_ble_eq_true rfl⟩ (ctX2_ref_x0 l hst D cI cZ q u p0 p1 h0 hc)
      · exact absurd (hz1.symm.trans (if_neg hc)) hz0
    · have e1 : fxH u p0 = u.2 1 := if_neg (by rw [h0]; decide)
      by_cases hc : xRange p1 4 = 0
      · have h9 : z = 1 := hz1.symm.trans (if_pos hc)
        subst h9; rw [cdx_1]; exact wr_ref_IOO l D cI cZ q p0 p1 ⟨rfl, rfl, Nat.le_of_ble_eq_true rfl, Nat.le_of_ble_eq_true rfl⟩ (ctX2_ref_x1 l hst D cI cZ q u p0 p1 h0 hc)
      · exact absurd (hz1.symm.trans (if_neg hc)) hz0
theorem tx_has (l : Launch) (hst : l.stackTraces = false) (D : va_G) (cI cZ : ClassId) (q : Nat → Nat) (u : SX) (n : Nat) (hn : u.1 15 0 = nI n) (h60 : n ≤ 60) (p0 p1 : Int32) {z : Int32} (hz : fxStore p0 (if xRange p1 (nI n) = 0 then 1 else 0) = z) (hz0 : ¬ z = 0) : gB l yL_has wsL_has rmL1 D (tyXZ cI cZ) (XW cI cZ q) LE XT [.ref (q 0), .int p0, .int p1] u (some (.int (cdx z))) u 1 6 1 := by
  by_cases hs : xRange p0 2 = 0
  · have h1 : z = 1 := hz.symm.trans (if_pos hs)
    subst h1; rw [cdx_1]
    exact wr_has_IOO l D cI cZ q p0 p1 ⟨rfl, rfl, Nat.le_of_ble_eq_true rfl, Nat.le_of_ble_eq_true rfl⟩ (ctX2_has_ns l hst D cI cZ q u p0 p1 hs)
  · have hz1 : (if xRange p1 (nI n) = 0 then 1 else 0) = z := (if_neg hs).symm.trans hz
    rcases a_store hs with h0 | h0
    · have e1 : fxH u p0 = u.2 0 := if_pos h0
      by_cases hc : xRange p1 (nI n) = 0
      · have h9 : z = 1 := hz1.symm.trans (if_pos hc)
        subst h9; rw [cdx_1]; exact wr_has_IOO l D cI cZ q p0 p1 ⟨rfl, rfl, Nat.le_of_ble_eq_true rfl, Nat.le_of_ble_eq_true rfl⟩ (ctX2_has_x0 l hst D cI cZ q u n hn h60 p0 p1 h0 hc)
      · exact absurd (hz1.symm.trans (if_neg hc)) hz0
    · have e1 : fxH u p0 = u.2 1 := if_neg (by rw [h0]; decide)
      by_cases hc : xRange p1 (nI n) = 0
      · have h9 : z = 1 := hz1.symm.trans (if_pos hc)
        subst h9; rw [cdx_1]; exact wr_has_IOO l D cI cZ q p0 p1 ⟨rfl, rfl, Nat.le_of_ble_eq_true rfl, Nat.le_of_ble_eq_true rfl⟩ (ctX2_has_x1 l hst D cI cZ q u n hn h60 p0 p1 h0 hc)
      · exact absurd (hz1.symm.trans (if_neg hc)) hz0
theorem tx_hasFile (l : Launch) (hst : l.stackTraces = false) (D : va_G) (cI cZ : ClassId) (q : Nat → Nat) (u : SX) (p0 p1 : Int32) {z : Int32} (hz : fxStore p0 (if xRange p1 100 = 0 then 2 else 0) = z) (hz0 : ¬ z = 0) : gB l yL_hasFile wsL_hasFile rmL1 D (tyXZ cI cZ) (XW cI cZ q) LE XT [.ref (q 0), .int p0, .int p1] u (some (.int (cdx z))) u 1 6 1 := by
  by_cases hs : xRange p0 2 = 0
  · have h1 : z = 1 := hz.symm.trans (if_pos hs)
    subst h1; rw [cdx_1]
    exact wr_hasFile_IOO l D cI cZ q p0 p1 ⟨rfl, rfl, Nat.le_of_ble_eq_true rfl, Nat.le_of_ble_eq_true rfl⟩ (ctX2_hasFile_ns l hst D cI cZ q u p0 p1 hs)
  · have hz1 : (if xRange p1 100 = 0 then 2 else 0) = z := (if_neg hs).symm.trans hz
    rcases a_store hs with h0 | h0
    · have e1 : fxH u p0 = u.2 0 := if_pos h0
      by_cases hc : xRange p1 100 = 0
      · have h9 : z = 2 := hz1.symm.trans (if_pos hc)
        subst h9; rw [cdx_2]; exact wr_hasFile_IAE l D cI cZ q p0 p1 ⟨rfl, rfl, Nat.le_of_ble_eq_true rfl, Nat.le_of_ble_eq_true rfl⟩ (ctX2_hasFile_x0 l hst D cI cZ q u p0 p1 h0 hc)
      · exact absurd (hz1.symm.trans (if_neg hc)) hz0
    · have e1 : fxH u p0 = u.2 1 := if_neg (by rw [h0]; decide)
      by_cases hc : xRange p1 100 = 0
      · have h9 : z = 2 := hz1.symm.trans (if_pos hc)
        subst h9; rw [cdx_2]; exact wr_hasFile_IAE l D cI cZ q p0 p1 ⟨rfl, rfl, Nat.le_of_ble_eq_true rfl, Nat.le_of_ble_eq_true rfl⟩ (ctX2_hasFile_x1 l hst D cI cZ q u p0 p1 h0 hc)
      · exact absurd (hz1.symm.trans (if_neg hc)) hz0
theorem tx_ancestor (l : Launch) (hst : l.stackTraces = false) (D : va_G) (cI cZ : ClassId) (q : Nat → Nat) (u : SX) (n : Nat) (hn : u.1 15 0 = nI n) (h60 : n ≤ 60) (p0 p1 p2 : Int32) {z : Int32} (hz : fxStore p0 (xAncC n p1 p2) = z) (hz0 : ¬ z = 0) : gB l yL_ancestor wsL_ancestor rmL1 D (tyXZ cI cZ) (XW cI cZ q) LE XT [.ref (q 0), .int p0, .int p1, .int p2] u (some (.int (cdx z))) u 1 6 1 := by
  by_cases hs : xRange p0 2 = 0
  · have h1 : z = 1 := hz.symm.trans (if_pos hs)
    subst h1; rw [cdx_1]
    exact wr_ancestor_IOO l D cI cZ q p0 p1 p2 ⟨rfl, rfl, Nat.le_of_ble_eq_true rfl, Nat.le_of_ble_eq_true rfl⟩ (ctX2_isAncestor_ns l hst D cI cZ q u p0 p1 p2 hs)
  · have hz1 : (xAncC n p1 p2) = z := (if_neg hs).symm.trans hz
    rcases a_store hs with h0 | h0
    · have e1 : fxH u p0 = u.2 0 := if_pos h0
      have hX := ctX2_isAncestor_x0 l hst D cI cZ q u n hn h60 p0 p1 p2 h0 z hz1 hz0
      rcases xAncC_v n p1 p2 with h | h
      · exact absurd (hz1.symm.trans h) hz0
      · have h9 : z = 1 := hz1.symm.trans h
        subst h9; rw [exA_1] at hX; rw [cdx_1]; exact wr_ancestor_IOO l D cI cZ q p0 p1 p2 ⟨rfl, rfl, Nat.le_of_ble_eq_true rfl, Nat.le_of_ble_eq_true rfl⟩ hX
    · have e1 : fxH u p0 = u.2 1 := if_neg (by rw [h0]; decide)
      have hX := ctX2_isAncestor_x1 l hst D cI cZ q u n hn h60 p0 p1 p2 h0 z hz1 hz0
      rcases xAncC_v n p1 p2 with h | h
      · exact absurd (hz1.symm.trans h) hz0
      · have h9 : z = 1 := hz1.symm.trans h
        subst h9; rw [exA_1] at hX; rw [cdx_1]; exact wr_ancestor_IOO l D cI cZ q p0 p1 p2 ⟨rfl, rfl, Nat.le_of_ble_eq_true rfl, Nat.le_of_ble_eq_true rfl⟩ hX
theorem tx_collects (l : Launch) (hst : l.stackTraces = false) (D : va_G) (cI cZ : ClassId) (q : Nat → Nat) (u : SX) (p0 : Int32) {z : Int32} (hz : fxStore p0 0 = z) (hz0 : ¬ z = 0) : gB l yL_collects wsL_collects rmL1 D (tyXZ cI cZ) (XW cI cZ q) LE XT [.ref (q 0), .int p0] u (some (.int (cdx z))) u 1 6 1 := by
  by_cases hs : xRange p0 2 = 0
  · have h1 : z = 1 := hz.symm.trans (if_pos hs)
    subst h1; rw [cdx_1]
    exact wr_collects_IOO l D cI cZ q p0 ⟨rfl, rfl, Nat.le_of_ble_eq_true rfl, Nat.le_of_ble_eq_true rfl⟩ (ctX2_collect_ns l hst D cI cZ q u p0 hs)
  · exact absurd (hz.symm.trans (if_neg hs)) hz0
theorem tx_file (l : Launch) (hst : l.stackTraces = false) (D : va_G) (cI cZ : ClassId) (q : Nat → Nat) (u : SX) (n : Nat) (hn : u.1 15 0 = nI n) (h60 : n ≤ 60) (p0 p1 : Int32) {z : Int32} (hz : xFileC n p0 p1 = z) (hz0 : ¬ z = 0) : gB l yL_file wsL_file rmL1 D (tyXZ cI cZ) (XW cI cZ q) LE XT [.ref (q 0), .int p0, .int p1] u (some (.int (cdx z))) u 1 6 1 := by
  have hX := ctX2_fileAt_x l hst D cI cZ q u n hn h60 p0 p1 z hz hz0
  rcases xFileC_v n p0 p1 with h | h
  · exact absurd (hz.symm.trans h) hz0
  · have h9 : z = 1 := hz.symm.trans h
    subst h9; rw [exA_1] at hX; rw [cdx_1]; exact wr_file_IOO l D cI cZ q p0 p1 ⟨rfl, rfl, Nat.le_of_ble_eq_true rfl, Nat.le_of_ble_eq_true rfl⟩ hX
theorem tx_fetches (l : Launch) (hst : l.stackTraces = false) (D : va_G) (cI cZ : ClassId) (q : Nat → Nat) (u : SX) (p0 p1 p2 : Int32) {z : Int32} (hz : xFetC p0 p1 (u.1 6) = z) (hz0 : ¬ z = 0) : gB l yL_fetches wsL_fetches rmL1 D (tyXZ cI cZ) (XW cI cZ q) LE XT [.ref (q 0), .int p0, .int p1, .int p2] u (some (.int (cdx z))) u 1 6 1 := by
  have hX := ctX2_fetch_x l hst D cI cZ q u p0 p1 p2 z hz hz0
  rcases xFetC_v p0 p1 (u.1 6) with h | h | h | h
  · exact absurd (hz.symm.trans h) hz0
  · have h9 : z = 1 := hz.symm.trans h
    subst h9; rw [exA_1] at hX; rw [cdx_1]; exact wr_fetches_IOO l D cI cZ q p0 p1 p2 ⟨rfl, rfl, Nat.le_of_ble_eq_true rfl, Nat.le_of_ble_eq_true rfl⟩ hX
  · have h9 : z = 2 := hz.symm.trans h
    subst h9; rw [exA_2] at hX; rw [cdx_2]; exact wr_fetches_IAE l D cI cZ q p0 p1 p2 ⟨rfl, rfl, Nat.le_of_ble_eq_true rfl, Nat.le_of_ble_eq_true rfl⟩ hX
  · have h9 : z = 3 := hz.symm.trans h
    subst h9; rw [exA_3] at hX; rw [cdx_3]; exact wr_fetches_ISE l D cI cZ q p0 p1 p2 ⟨rfl, rfl, Nat.le_of_ble_eq_true rfl, Nat.le_of_ble_eq_true rfl⟩ hX
theorem tx_would (l : Launch) (hst : l.stackTraces = false) (D : va_G) (cI cZ : ClassId) (q : Nat → Nat) (u : SX) (p0 p1 : Int32) {z : Int32} (hz : xFetC p0 p1 (u.1 6) = z) (hz0 : ¬ z = 0) : gB l yL_would wsL_would rmL1 D (tyXZ cI cZ) (XW cI cZ q) LE XT [.ref (q 0), .int p0, .int p1] u (some (.int (cdx z))) u 1 6 1 := by
  have hX := ctX2_wouldFetch_x l hst D cI cZ q u p0 p1 z hz hz0
  rcases xFetC_v p0 p1 (u.1 6) with h | h | h | h
  · exact absurd (hz.symm.trans h) hz0
  · have h9 : z = 1 := hz.symm.trans h
    subst h9; rw [exA_1] at hX; rw [cdx_1]; exact wr_would_IOO l D cI cZ q p0 p1 ⟨rfl, rfl, Nat.le_of_ble_eq_true rfl, Nat.le_of_ble_eq_true rfl⟩ hX
  · have h9 : z = 2 := hz.symm.trans h
    subst h9; rw [exA_2] at hX; rw [cdx_2]; exact wr_would_IAE l D cI cZ q p0 p1 ⟨rfl, rfl, Nat.le_of_ble_eq_true rfl, Nat.le_of_ble_eq_true rfl⟩ hX
  · have h9 : z = 3 := hz.symm.trans h
    subst h9; rw [exA_3] at hX; rw [cdx_3]; exact wr_would_ISE l D cI cZ q p0 p1 ⟨rfl, rfl, Nat.le_of_ble_eq_true rfl, Nat.le_of_ble_eq_true rfl⟩ hX
theorem tx_loads (l : Launch) (hst : l.stackTraces = false) (D : va_G) (cI cZ : ClassId) (q : Nat → Nat) (u : SX) (p0 : Int32) {z : Int32} (hz : fxLoad p0 (u.1 5) = z) (hz0 : ¬ z = 0) : gB l yL_loads wsL_loads rmL1 D (tyXZ cI cZ) (XW cI cZ q) LE XT [.ref (q 0), .int p0] u (some (.int (cdx z))) u 1 6 1 := by
  by_cases h1 : xRange p0 100 = 0
  · have h9 : z = 2 := hz.symm.trans (if_pos h1)
    have hX := ctX2_load_x l hst D cI cZ q u p0 1 (if_pos h1) (by decide)
    subst h9; rw [exB_1] at hX; rw [cdx_2]; exact wr_loads_IAE l D cI cZ q p0 ⟨rfl, rfl, Nat.le_of_ble_eq_true rfl, Nat.le_of_ble_eq_true rfl⟩ hX
  · by_cases h2 : xHas (u.1 5) p0 = 0
    · have h9 : z = 3 := hz.symm.trans ((if_neg h1).trans (if_pos h2))
      have hX := ctX2_load_x l hst D cI cZ q u p0 2 ((if_neg h1).trans (if_pos h2)) (by decide)
      subst h9; rw [exB_2] at hX; rw [cdx_3]; exact wr_loads_ISE l D cI cZ q p0 ⟨rfl, rfl, Nat.le_of_ble_eq_true rfl, Nat.le_of_ble_eq_true rfl⟩ hX
    · exact absurd (hz.symm.trans ((if_neg h1).trans (if_neg h2))) hz0
theorem tx_protects (l : Launch) (hst : l.stackTraces = false) (D : va_G) (cI cZ : ClassId) (q : Nat → Nat) (u : SX) (p0 p1 : Int32) {z : Int32} (hz : (if xRange p0 4 = 0 then (1 : Int32) else 0) = z) (hz0 : ¬ z = 0) : gB l yL_protects wsL_protects rmL1 D (tyXZ cI cZ) (XW cI cZ q) LE XT [.ref (q 0), .int p0, .int p1] u (some (.int (cdx z))) u 1 6 1 := by
  by_cases h1 : xRange p0 4 = 0
  · have h9 : z = 1 := hz.symm.trans (if_pos h1)
    subst h9; rw [cdx_1]; exact wr_protects_IOO l D cI cZ q p0 p1 ⟨rfl, rfl, Nat.le_of_ble_eq_true rfl, Nat.le_of_ble_eq_true rfl⟩ (ctX2_protect_x l hst D cI cZ q u p0 p1 h1)
  · exact absurd (hz.symm.trans (if_neg h1)) hz0
theorem tx_moves (l : Launch) (hst : l.stackTraces = false) (D : va_G) (cI cZ : ClassId) (q : Nat → Nat) (u : SX) (n : Nat) (hn : u.1 15 0 = nI n) (h60 : n ≤ 60) (w : Nat) (hw : u.1 13 0 = nI w) (h3 : w ≤ 3) (p0 p1 p2 : Int32) {z : Int32} (hz : fxMove n w p0 p1 p2 = z) (hz0 : ¬ z = 0) : gB l yL_moves wsL_moves rmL1 D (tyXZ cI cZ) (XW cI cZ q) LE XT [.ref (q 0), .int p0, .int p1, .int p2] u (some (.int (cdx z))) u 1 6 1 := by
  have key : (xMoveC n w p0 p1 p2 = 1 ∧ z = 1) ∨ (xMoveC n w p0 p1 p2 = 2 ∧ z = 3) := by
    subst hz
    unfold fxMove at hz0 ⊢
    unfold xMoveC
    by_cases a1 : xRange p0 4 = 0
    · rw [if_pos a1, if_pos a1]; exact Or.inl ⟨rfl, rfl⟩
    · rw [if_neg a1] at hz0 ⊢
      rw [if_neg a1]
      by_cases a2 : xCoN n p1 = 0
      · rw [if_pos a2, if_pos a2]; exact Or.inl ⟨rfl, rfl⟩
      · rw [if_neg a2] at hz0 ⊢
        rw [if_neg a2]
        by_cases a3 : xCoN n p2 = 0
        · rw [if_pos a3, if_pos a3]; exact Or.inl ⟨rfl, rfl⟩
        · rw [if_neg a3] at hz0 ⊢
          rw [if_neg a3]
          by_cases a4 : w < 3
          · rw [if_pos a4] at hz0; exact absurd rfl hz0
          · rw [if_neg a4, if_neg a4]; exact Or.inr ⟨rfl, rfl⟩
  rcases key with ⟨h, h9⟩ | ⟨h, h9⟩
  · have hX := ctX2_move_x l hst D cI cZ q u n hn h60 w hw h3 p0 p1 p2 1 h (by decide)
    subst h9; rw [exC_1] at hX; rw [cdx_1]; exact wr_moves_IOO l D cI cZ q p0 p1 p2 ⟨rfl, rfl, Nat.le_of_ble_eq_true rfl, Nat.le_of_ble_eq_true rfl⟩ hX
  · have hX := ctX2_move_x l hst D cI cZ q u n hn h60 w hw h3 p0 p1 p2 2 h (by decide)
    subst h9; rw [exC_2] at hX; rw [cdx_3]; exact wr_moves_ISE l D cI cZ q p0 p1 p2 ⟨rfl, rfl, Nat.le_of_ble_eq_true rfl, Nat.le_of_ble_eq_true rfl⟩ hX
theorem tx_shallow (l : Launch) (hst : l.stackTraces = false) (D : va_G) (cI cZ : ClassId) (q : Nat → Nat) (u : SX) (n : Nat) (hn : u.1 15 0 = nI n) (h60 : n ≤ 60) (p0 : Int32) {z : Int32} (hz : (if xRange p0 (nI n) = 0 then (1 : Int32) else 0) = z) (hz0 : ¬ z = 0) : gB l yL_shallow wsL_shallow rmL1 D (tyXZ cI cZ) (XW cI cZ q) LE XT [.ref (q 0), .int p0] u (some (.int (cdx z))) u 1 6 1 := by
  by_cases h1 : xRange p0 (nI n) = 0
  · have h9 : z = 1 := hz.symm.trans (if_pos h1)
    subst h9; rw [cdx_1]; exact wr_shallow_IOO l D cI cZ q p0 ⟨rfl, rfl, Nat.le_of_ble_eq_true rfl, Nat.le_of_ble_eq_true rfl⟩ (ctX2_isShallow_x l hst D cI cZ q u n hn h60 p0 h1)
  · exact absurd (hz.symm.trans (if_neg h1)) hz0
theorem nI_1e : nI 1 = 1 := by decide +kernel
theorem lr_ref (l : Launch) (D : va_G) (cI cZ : ClassId) (q : Nat → Nat) (u : SX) (b : Nat) (hb : b < 2) (p1 : Int32) (h1 : ¬ xRange p1 4 = 0) : gB l yL_ref wsL_ref rmL0 D (tyXZ cI cZ) (XW cI cZ q) LE XT [.ref (q 0), .int (nI b), .int p1] u (some (.int (xRefOf (u.1 (6 + 2 * b)) p1))) u 0 0 0 := by
  rcases (show b = 0 ∨ b = 1 by omega) with rfl | rfl
  · exact wr_ref l D cI cZ q (nI 0) p1 ⟨rfl, rfl, Nat.le_of_ble_eq_true rfl, Nat.le_of_ble_eq_true rfl⟩ (ctX2_ref_0 l D cI cZ q u (nI 0) p1 nI_0 h1)
  · exact wr_ref l D cI cZ q (nI 1) p1 ⟨rfl, rfl, Nat.le_of_ble_eq_true rfl, Nat.le_of_ble_eq_true rfl⟩ (ctX2_ref_1 l D cI cZ q u (nI 1) p1 nI_1e h1)
theorem lr_has (l : Launch) (D : va_G) (cI cZ : ClassId) (q : Nat → Nat) (u : SX) (n : Nat) (hn : u.1 15 0 = nI n) (h60 : n ≤ 60) (b : Nat) (hb : b < 2) (p1 : Int32) (h1 : ¬ xRange p1 (nI n) = 0) : gB l yL_has wsL_has rmL0 D (tyXZ cI cZ) (XW cI cZ q) LE XT [.ref (q 0), .int (nI b), .int p1] u (some (.int (xCon (u.2 b) p1))) u 0 0 0 := by
  rcases (show b = 0 ∨ b = 1 by omega) with rfl | rfl
  · have h := wr_has l D cI cZ q (nI 0) p1 ⟨rfl, rfl, Nat.le_of_ble_eq_true rfl, Nat.le_of_ble_eq_true rfl⟩ (ctX2_has_0 l D cI cZ q u n hn h60 (nI 0) p1 nI_0 h1)
    rw [zI_01 (xCon_01 _ _)] at h
    exact h
  · have h := wr_has l D cI cZ q (nI 1) p1 ⟨rfl, rfl, Nat.le_of_ble_eq_true rfl, Nat.le_of_ble_eq_true rfl⟩ (ctX2_has_1 l D cI cZ q u n hn h60 (nI 1) p1 nI_1e h1)
    rw [zI_01 (xCon_01 _ _)] at h
    exact h
theorem lr_hasFile (l : Launch) (D : va_G) (cI cZ : ClassId) (q : Nat → Nat) (u : SX) (b : Nat) (hb : b < 2) (p1 : Int32) (h1 : ¬ xRange p1 100 = 0) : gB l yL_hasFile wsL_hasFile rmL0 D (tyXZ cI cZ) (XW cI cZ q) LE XT [.ref (q 0), .int (nI b), .int p1] u (some (.int (xHas (u.1 (5 + 2 * b)) p1))) u 0 0 0 := by
  rcases (show b = 0 ∨ b = 1 by omega) with rfl | rfl
  · have h := wr_hasFile l D cI cZ q (nI 0) p1 ⟨rfl, rfl, Nat.le_of_ble_eq_true rfl, Nat.le_of_ble_eq_true rfl⟩ (ctX2_hasFile_0 l D cI cZ q u (nI 0) p1 nI_0 h1)
    rw [zI_01 (xHas_01' _ _)] at h
    exact h
  · have h := wr_hasFile l D cI cZ q (nI 1) p1 ⟨rfl, rfl, Nat.le_of_ble_eq_true rfl, Nat.le_of_ble_eq_true rfl⟩ (ctX2_hasFile_1 l D cI cZ q u (nI 1) p1 nI_1e h1)
    rw [zI_01 (xHas_01' _ _)] at h
    exact h
theorem lr_ancestor (l : Launch) (D : va_G) (cI cZ : ClassId) (q : Nat → Nat) (u : SX) (n : Nat) (hn : u.1 15 0 = nI n) (h60 : n ≤ 60) (b : Nat) (hb : b < 2) (p1 p2 : Int32) (h1 : ¬ xRange p1 (nI n) = 0) (h2 : ¬ xRange p2 (nI n) = 0) : gB l yL_ancestor wsL_ancestor rmL0 D (tyXZ cI cZ) (XW cI cZ q) LE XT [.ref (q 0), .int (nI b), .int p1, .int p2] u (some (.int (xCon (xAnc n (u.1 0) (u.1 1) (xSet p2) (u.2 b)) p1))) u 0 0 0 := by
  rcases (show b = 0 ∨ b = 1 by omega) with rfl | rfl
  · have h := wr_ancestor l D cI cZ q (nI 0) p1 p2 ⟨rfl, rfl, Nat.le_of_ble_eq_true rfl, Nat.le_of_ble_eq_true rfl⟩ (ctX2_isAncestor_0 l D cI cZ q u n hn h60 (nI 0) p1 p2 nI_0 h1 h2)
    rw [zI_01 (xCon_01 _ _)] at h
    exact h
  · have h := wr_ancestor l D cI cZ q (nI 1) p1 p2 ⟨rfl, rfl, Nat.le_of_ble_eq_true rfl, Nat.le_of_ble_eq_true rfl⟩ (ctX2_isAncestor_1 l D cI cZ q u n hn h60 (nI 1) p1 p2 nI_1e h1 h2)
    rw [zI_01 (xCon_01 _ _)] at h
    exact h
theorem lr_file (l : Launch) (D : va_G) (cI cZ : ClassId) (q : Nat → Nat) (u : SX) (n : Nat) (hn : u.1 15 0 = nI n) (h60 : n ≤ 60) (p0 p1 : Int32) (h1 : ¬ xRange p0 (nI n) = 0) (h2 : ¬ xRange p1 4 = 0) : gB l yL_file wsL_file rmL0 D (tyXZ cI cZ) (XW cI cZ q) LE XT [.ref (q 0), .int p0, .int p1] u (some (.int (xFileIn n (u.1 2) p0 p1))) u 0 0 0 := by
  exact wr_file l D cI cZ q p0 p1 ⟨rfl, rfl, Nat.le_of_ble_eq_true rfl, Nat.le_of_ble_eq_true rfl⟩ (ctX2_fileAt l D cI cZ q u n hn h60 p0 p1 h1 h2)
theorem lr_shallow (l : Launch) (D : va_G) (cI cZ : ClassId) (q : Nat → Nat) (u : SX) (n : Nat) (hn : u.1 15 0 = nI n) (h60 : n ≤ 60) (p0 : Int32) (h1 : ¬ xRange p0 (nI n) = 0) : gB l yL_shallow wsL_shallow rmL0 D (tyXZ cI cZ) (XW cI cZ q) LE XT [.ref (q 0), .int p0] u (some (.int (xCon (xShallow n (u.1 0) (u.1 1) (u.2 1)) p0))) u 0 0 0 := by
  have h := wr_shallow l D cI cZ q p0 ⟨rfl, rfl, Nat.le_of_ble_eq_true rfl, Nat.le_of_ble_eq_true rfl⟩ (ctX2_isShallow l D cI cZ q u n hn h60 p0 h1)
  rw [zI_01 (xCon_01 _ _)] at h
  exact h
/-- the state behind a make in the store b -/
def xMkS (b n : Nat) (u : SX) (p1 p2 p3 p4 : Int32) : SX := gL (gS (gS (gS (gS (gS u 0 (upd (u.1 0) n p1)) 1 (upd (u.1 1) n p2)) 2 (xSlots n p1 p3 p4 (u.1 2))) (5 + 2 * b) (xAddF (u.1 (5 + 2 * b)) p4)) 15 (fun _ => (nI n + 1))) b ((u.2 b) ||| (xSet (nI n)))
theorem lr_makes (l : Launch) (D : va_G) (cI cZ : ClassId) (q : Nat → Nat) (u : SX) (n : Nat) (hn : u.1 15 0 = nI n) (h60 : n ≤ 60) (h59 : n < 60) (b : Nat) (hb : b < 2) (p1 p2 p3 p4 : Int32) (h1 : ¬ xRange p3 4 = 0) (h2 : p1 = -1 ∨ ¬ xCon (u.2 b) p1 = 0) (h3 : p2 = -1 ∨ ¬ xCon (u.2 b) p2 = 0) (h4 : p4 = -1 ∨ ¬ xRange p4 100 = 0) (h5 : p2 = -1 ∨ (¬ p1 = -1 ∧ ¬ p1 = p2)) : gB l yL_makes wsL_makes rmL0 D (tyXZ cI cZ) (XW cI cZ q) LE XT [.ref (q 0), .int (nI b), .int p1, .int p2, .int p3, .int p4] u (some (.int (nI n))) (xMkS b n u p1 p2 p3 p4) 0 0 0 := by
  rcases (show b = 0 ∨ b = 1 by omega) with rfl | rfl
  · exact wr_makes l D cI cZ q (nI 0) p1 p2 p3 p4 ⟨rfl, rfl, Nat.le_of_ble_eq_true rfl, Nat.le_of_ble_eq_true rfl⟩ (ctX2_make_0 l D cI cZ q u n hn h60 h59 (nI 0) p1 p2 p3 p4 nI_0 h1 h2 h3 h4 h5)
  · exact wr_makes l D cI cZ q (nI 1) p1 p2 p3 p4 ⟨rfl, rfl, Nat.le_of_ble_eq_true rfl, Nat.le_of_ble_eq_true rfl⟩ (ctX2_make_1 l D cI cZ q u n hn h60 h59 (nI 1) p1 p2 p3 p4 nI_1e h1 h2 h3 h4 h5)
