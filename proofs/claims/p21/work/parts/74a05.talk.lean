/-! THE TALK: rounds of the class and of the reference -/
theorem xHiL_stop (s : Int64) : ∀ (d : Nat) (lf : Int32) (fd : Int64), lf ≤ 0 → xHiL s d lf fd = fd
  | 0, _, _, _ => rfl
  | _ + 1, _, _, h => if_pos h
theorem xHiL_no {s : Int64} {d : Nat} (lf : Int32) (fd : Int64) (hd : d < 60) (h : ¬ Bt s d) : xHiL s (d + 1) lf fd = xHiL s d lf fd := by
  show (if lf ≤ 0 then fd else if xCon s (nI d) = 0 then xHiL s d lf fd else xHiL s d (lf - 1) (fd ||| xSet (nI d))) = _
  by_cases c : lf ≤ 0
  · rw [if_pos c, xHiL_stop s d lf fd c]
  · rw [if_neg c, if_pos ((xCon_0 s hd).mpr h)]
theorem xHiL_yes {s : Int64} {d : Nat} {lf : Int32} (fd : Int64) (hd : d < 60) (hl : ¬ lf ≤ 0) (h : Bt s d) : xHiL s (d + 1) lf fd = xHiL s d (lf - 1) (fd ||| xSet (nI d)) := by
  show (if lf ≤ 0 then fd else if xCon s (nI d) = 0 then xHiL s d lf fd else xHiL s d (lf - 1) (fd ||| xSet (nI d))) = _
  rw [if_neg hl, if_neg (fun c => (xCon_0 s hd).mp c h)]
theorem xHiL_hi {s : Int64} {n : Nat} (hs : ∀ j, n ≤ j → ¬ Bt s j) : ∀ (e : Nat) (lf : Int32) (fd : Int64), n + e ≤ 60 → xHiL s (n + e) lf fd = xHiL s n lf fd
  | 0, _, _, _ => rfl
  | e + 1, lf, fd, h => by
    rw [show n + (e + 1) = (n + e) + 1 from rfl, xHiL_no lf fd (by omega) (hs _ (by omega))]
    exact xHiL_hi hs e lf fd (by omega)
/-- d is to be told -/
def Cand (hc cm wt : Nat → Int32) (d : Nat) : Prop := Hc hc 1 d ∧ cm d = 0 ∧ wt d = 0
theorem tell_stop (n : Nat) (hc cm : Nat → Int32) : ∀ (d c : Nat) (ma wt : Nat → Int32), 4 ≤ c → mTellL n hc cm d c ma wt = (c, ma, wt)
  | 0, _, _, _, _ => rfl
  | _ + 1, _, _, _, h => if_pos h
theorem tell_no {n : Nat} {hc cm : Nat → Int32} {d : Nat} (c : Nat) {ma wt : Nat → Int32} (hn : n ≤ 60) (hd : d < n) (h : ¬ Cand hc cm wt d) : mTellL n hc cm (d + 1) c ma wt = mTellL n hc cm d c ma wt := by
  show (if 4 ≤ c then (c, ma, wt) else if mHas n hc 1 (nI d) = 0 then mTellL n hc cm d c ma wt else if cm d = 0 then (if wt d = 0 then mTellL n hc cm d (c + 1) (upd ma d (mHas n hc 0 (nI d))) (upd wt d 1) else mTellL n hc cm d c ma wt) else mTellL n hc cm d c ma wt) = _
  by_cases c1 : 4 ≤ c
  · rw [if_pos c1, tell_stop n hc cm d c ma wt c1]
  · rw [if_neg c1]
    by_cases c2 : mHas n hc 1 (nI d) = 0
    · rw [if_pos c2]
    · rw [if_neg c2]
      by_cases c3 : cm d = 0
      · rw [if_pos c3]
        by_cases c4 : wt d = 0
        · exact absurd ⟨fun h2 => c2 ((mHas_0 hn hd).mpr h2), c3, c4⟩ h
        · rw [if_neg c4]
      · rw [if_neg c3]
theorem tell_yes {n : Nat} {hc cm : Nat → Int32} {d c : Nat} {ma wt : Nat → Int32} (hn : n ≤ 60) (hd : d < n) (hc4 : ¬ 4 ≤ c) (h : Cand hc cm wt d) : mTellL n hc cm (d + 1) c ma wt = mTellL n hc cm d (c + 1) (upd ma d (mHas n hc 0 (nI d))) (upd wt d 1) := by
  show (if 4 ≤ c then (c, ma, wt) else if mHas n hc 1 (nI d) = 0 then mTellL n hc cm d c ma wt else if cm d = 0 then (if wt d = 0 then mTellL n hc cm d (c + 1) (upd ma d (mHas n hc 0 (nI d))) (upd wt d 1) else mTellL n hc cm d c ma wt) else mTellL n hc cm d c ma wt) = _
  rw [if_neg hc4, if_neg (fun h2 => h.1 ((mHas_0 hn hd).mp h2)), if_pos h.2.1, if_pos h.2.2]
theorem tell_ge (n : Nat) (hc cm : Nat → Int32) (hn : n ≤ 60) : ∀ (d c : Nat) (ma wt : Nat → Int32), d ≤ n → c ≤ (mTellL n hc cm d c ma wt).1
  | 0, c, _, _, _ => Nat.le_refl c
  | d + 1, c, ma, wt, hd => by
    by_cases h : Cand hc cm wt d
    · by_cases c4 : 4 ≤ c
      · rw [tell_stop n hc cm (d + 1) c ma wt c4]
        exact Nat.le_refl c
      · rw [tell_yes hn (by omega) c4 h]
        exact Nat.le_trans (Nat.le_succ c) (tell_ge n hc cm hn d (c + 1) _ _ (by omega))
    · rw [tell_no c hn (by omega) h]
      exact tell_ge n hc cm hn d c ma wt (by omega)
theorem tell_none (n : Nat) (hc cm : Nat → Int32) (hn : n ≤ 60) : ∀ (d c : Nat) (ma wt : Nat → Int32), d ≤ n → (∀ j, j < d → ¬ Cand hc cm wt j) → (mTellL n hc cm d c ma wt).1 = c
  | 0, _, _, _, _, _ => rfl
  | d + 1, c, ma, wt, hd, h => by
    rw [tell_no c hn (by omega) (h d (by omega))]
    exact tell_none n hc cm hn d c ma wt (by omega) (fun j hj => h j (by omega))
theorem tell_some (n : Nat) (hc cm : Nat → Int32) (hn : n ≤ 60) : ∀ (d c : Nat) (ma wt : Nat → Int32), d ≤ n → ¬ 4 ≤ c → (∃ j, j < d ∧ Cand hc cm wt j) → c < (mTellL n hc cm d c ma wt).1
  | 0, _, _, _, _, _, ⟨_, h, _⟩ => absurd h (Nat.not_lt_zero _)
  | d + 1, c, ma, wt, hd, c4, ⟨j, hj, h⟩ => by
    by_cases hcd : Cand hc cm wt d
    · rw [tell_yes hn (by omega) c4 hcd]
      exact tell_ge n hc cm hn d (c + 1) _ _ (by omega)
    · rw [tell_no c hn (by omega) hcd]
      refine tell_some n hc cm hn d c ma wt (by omega) c4 ⟨j, ?_, h⟩
      refine Nat.lt_of_le_of_ne (by omega) (fun e => hcd (e ▸ h))
/-- what a round tells: the class's bits and the reference's flags -/
theorem tell_rel {n : Nat} {hc cm : Nat → Int32} {un : Int64} (hn : n ≤ 60) : ∀ (d c : Nat) (fd : Int64) (ma wt : Nat → Int32), d ≤ n → c ≤ 4 → (∀ j, j < d → (Bt un j ↔ Cand hc cm wt j)) → (∀ j, j < d → ¬ Bt fd j) → (∀ j, j < d → ma j = 0) →
    (∀ j, j < d → (Bt (xHiL un d (nI (4 - c)) fd) j → Bt un j) ∧ (¬ (mTellL n hc cm d c ma wt).2.2 j = 0 ↔ ¬ wt j = 0 ∨ Bt (xHiL un d (nI (4 - c)) fd) j) ∧ (¬ (mTellL n hc cm d c ma wt).2.1 j = 0 ↔ Bt (xHiL un d (nI (4 - c)) fd) j ∧ Hc hc 0 j)) ∧
    (∀ j, d ≤ j → (Bt (xHiL un d (nI (4 - c)) fd) j ↔ Bt fd j) ∧ (mTellL n hc cm d c ma wt).2.2 j = wt j ∧ (mTellL n hc cm d c ma wt).2.1 j = ma j)
  | 0, _, _, _, _, _, _, _, _, _ => ⟨fun _ h => absurd h (Nat.not_lt_zero _), fun _ _ => ⟨Iff.rfl, rfl, rfl⟩⟩
  | d + 1, c, fd, ma, wt, hd, hc4, h1, h2, h3 => by
    by_cases c4 : 4 ≤ c
    · rw [tell_stop n hc cm (d + 1) c ma wt c4, xHiL_stop un (d + 1) _ fd (by rw [show 4 - c = 0 from by omega]; decide)]
      refine ⟨fun j hj => ⟨fun h => absurd h (h2 j hj), ⟨fun h => Or.inl h, fun h => h.elim id (fun h => absurd h (h2 j hj))⟩, ⟨fun h => absurd (h3 j hj) h, fun h => absurd h.1 (h2 j hj)⟩⟩, fun j _ => ⟨Iff.rfl, rfl, rfl⟩⟩
    · by_cases hb : Bt un d
      · have hcd := (h1 d (by omega)).mp hb
        have hlf : ¬ nI (4 - c) ≤ 0 := nI_nle (by omega) (by omega)
        have hlf1 : nI (4 - c) - 1 = nI (4 - (c + 1)) := by
          rw [show 4 - c = (4 - (c + 1)) + 1 from by omega, nI_pred]
        rw [tell_yes hn (by omega) c4 hcd, xHiL_yes fd (by omega) hlf hb, hlf1]
        obtain ⟨k1, k2⟩ := tell_rel (cm := cm) hn d (c + 1) (fd ||| xSet (nI d)) (upd ma d (mHas n hc 0 (nI d))) (upd wt d 1) (by omega) (by omega)
          (fun j hj => by
            rw [h1 j (by omega)]
            unfold Cand
            rw [upd_n _ _ (show j ≠ d by omega)])
          (fun j hj h => by
            rcases (Bt_or _ _ _).mp h with h | h
            · exact h2 j (by omega) h
            · have := (nI_eq (by omega) (by omega)).mp ((Bt_set _ _).mp h).2
              omega)
          (fun j hj => by
            rw [upd_n _ _ (show j ≠ d by omega)]
            exact h3 j (by omega))
        generalize xHiL un d (nI (4 - (c + 1))) (fd ||| xSet (nI d)) = f at k1 k2 ⊢
        generalize mTellL n hc cm d (c + 1) (upd ma d (mHas n hc 0 (nI d))) (upd wt d 1) = r at k1 k2 ⊢
        refine ⟨fun j hj => ?_, fun j hj => ?_⟩
        · by_cases e : j = d
          · subst e
            obtain ⟨e1, e2, e3⟩ := k2 j (Nat.le_refl j)
            have hf : Bt f j := e1.mpr ((Bt_or _ _ _).mpr (Or.inr ((Bt_set _ _).mpr ⟨by omega, rfl⟩)))
            refine ⟨fun _ => hb, ?_, ?_⟩
            · rw [e2, upd_s]
              exact ⟨fun _ => Or.inr hf, fun _ => by decide⟩
            · rw [e3, upd_s]
              exact ⟨fun h => ⟨hf, fun h4 => h ((mHas_0 hn (by omega)).mpr h4)⟩, fun h h4 => h.2 ((mHas_0 hn (by omega)).mp h4)⟩
          · obtain ⟨e1, e2, e3⟩ := k1 j (by omega)
            rw [upd_n _ _ e] at e2
            exact ⟨e1, e2, e3⟩
        · obtain ⟨e1, e2, e3⟩ := k2 j (by omega)
          rw [upd_n _ _ (show j ≠ d by omega)] at e2 e3
          refine ⟨e1.trans ?_, e2, e3⟩
          rw [Bt_or, Bt_set]
          refine ⟨fun h => h.elim id (fun h => ?_), fun h => Or.inl h⟩
          have := (nI_eq (by omega) (by omega)).mp h.2
          omega
      · have hcd : ¬ Cand hc cm wt d := fun h => hb ((h1 d (by omega)).mpr h)
        rw [tell_no c hn (by omega) hcd, xHiL_no _ fd (by omega) hb]
        obtain ⟨k1, k2⟩ := tell_rel (cm := cm) hn d c fd ma wt (by omega) hc4 (fun j hj => h1 j (by omega)) (fun j hj => h2 j (by omega)) (fun j hj => h3 j (by omega))
        generalize xHiL un d (nI (4 - c)) fd = f at k1 k2 ⊢
        generalize mTellL n hc cm d c ma wt = r at k1 k2 ⊢
        refine ⟨fun j hj => ?_, fun j hj => k2 j (by omega)⟩
        by_cases e : j = d
        · subst e
          obtain ⟨e1, e2, e3⟩ := k2 j (Nat.le_refl j)
          have hf : ¬ Bt f j := fun h => h2 j (by omega) (e1.mp h)
          refine ⟨fun h => absurd h hf, ?_, ?_⟩
          · rw [e2]
            exact ⟨fun h => Or.inl h, fun h => h.elim id (fun h => absurd h hf)⟩
          · rw [e3]
            exact ⟨fun h => absurd (h3 j (by omega)) h, fun h => absurd h.1 hf⟩
        · exact k1 j (by omega)
theorem mCm_nz (mk cm : Nat → Int32) {j : Nat} (hj : j < 60) : ¬ mCm mk cm j = 0 ↔ ¬ cm j = 0 ∨ ¬ mk j = 0 := by
  unfold mCm
  rw [opq_eq]
  have h := itU_ex (f := mCmStep mk) (fun c => ¬ c j = 0) (fun k => k = j ∧ ¬ mk k = 0) 60 0 (fun k _ _ a => by
    unfold mCmStep
    by_cases e : k = j
    · subst e
      by_cases c1 : a k = 0 <;> by_cases c2 : mk k = 0 <;> simp [c1, c2, upd_s]
    · have e2 : j ≠ k := fun h => e h.symm
      by_cases c1 : a k = 0 <;> by_cases c2 : mk k = 0 <;> simp [c1, c2, e, upd_n _ _ e2]) cm
  rw [h]
  constructor
  · rintro (h1 | ⟨k, -, -, rfl, h2⟩)
    · exact Or.inl h1
    · exact Or.inr h2
  · rintro (h1 | h1)
    · exact Or.inl h1
    · exact Or.inr ⟨j, by omega, by omega, rfl, h1⟩
theorem mClr2_0 (cm wt : Nat → Int32) {j : Nat} (hj : j < 60) : (mClr2 cm wt).1 j = 0 ∧ (mClr2 cm wt).2 j = 0 := by
  unfold mClr2
  rw [opq_eq]
  have h := itU_inv (f := mClr2Step) (fun i z => ∀ j, j < i → z.1 j = 0 ∧ z.2 j = 0) 60 0 (fun k _ _ z hz j hj => by
    unfold mClr2Step
    by_cases e : j = k
    · subst e
      exact ⟨upd_s _ _ _, upd_s _ _ _⟩
    · exact ⟨(upd_n _ _ e).trans (hz j (by omega)).1, (upd_n _ _ e).trans (hz j (by omega)).2⟩) (cm, wt) (fun j h => absurd h (Nat.not_lt_zero _))
  exact h j hj
