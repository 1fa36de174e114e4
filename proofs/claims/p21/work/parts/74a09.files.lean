/-! FILES, and counts -/
theorem xHas_0 (fl : Nat → Int32) {f : Nat} (hf : f < 100) : xHas fl (nI f) = 0 ↔ fl f = 0 := by
  unfold xHas
  rw [if_neg (show ¬ xRange (nI f) 100 = 0 from by rw [show (100 : Int32) = nI 100 from rfl, xRange_in hf (by omega)]; decide), nI_clamp (by omega)]
  by_cases h : fl f = 0
  · rw [if_pos h]
    exact ⟨fun _ => h, fun _ => rfl⟩
  · rw [if_neg h]
    exact ⟨fun h2 => absurd h2 (by decide), fun h2 => absurd h2 h⟩
theorem xFileIn_at {n : Nat} (hn : n ≤ 60) (sf : Nat → Int32) {k t : Nat} (hk : k < n) (ht : t < 4) : xFileIn n sf (nI k) (nI t) = sf (4 * k + t) := by
  unfold xFileIn
  rw [if_neg (by rw [xRange_in hk (by omega)]; decide), if_neg (by rw [show (4 : Int32) = nI 4 from rfl, xRange_in ht (by omega)]; decide), nI_clamp (by omega), nI_clamp (by omega), Nat.mul_comm]
theorem xRange_100 (v : Int32) : ¬ xRange v 100 = 0 ↔ ∃ j : Nat, j < 100 ∧ v = nI j := xRange_0 (n := 100) (by omega)
theorem xRange_4 (v : Int32) : ¬ xRange v 4 = 0 ↔ ∃ j : Nat, j < 4 ∧ v = nI j := xRange_0 (n := 4) (by omega)
/-- a commit of S has the file f -/
def FileOf (n : Nat) (sl : Nat → Int32) (S : Nat → Prop) (f : Nat) : Prop := ∃ k, k < n ∧ S k ∧ ∃ t, t < 4 ∧ sl (4 * k + t) = nI f
theorem xFind_nz {n : Nat} (hn : n ≤ 60) (sf : Nat → Int32) {k : Nat} (hk : k < n) (ff : Nat → Int32) {f : Nat} (hf : f < 100) : ¬ xFind n sf (nI k) ff f = 0 ↔ ¬ ff f = 0 ∨ ∃ t, t < 4 ∧ sf (4 * k + t) = nI f := by
  unfold xFind
  have h := itU_ex (f := xFindStep n sf (nI k)) (fun c => ¬ c f = 0) (fun t => sf (4 * k + t) = nI f) 4 0 (fun t _ ht a => by
    unfold xFindStep
    rw [xFileIn_at hn sf hk (by omega)]
    by_cases c : xRange (sf (4 * k + t)) 100 = 0
    · rw [if_pos c]
      refine ⟨fun h => Or.inl h, fun h => h.elim id (fun h2 => ?_)⟩
      exact absurd c ((xRange_100 _).mpr ⟨f, hf, h2⟩)
    · rw [if_neg c]
      obtain ⟨g, hg, e⟩ := (xRange_100 _).mp c
      rw [e, nI_clamp (by omega)]
      by_cases e2 : f = g
      · subst e2
        rw [upd_s]
        exact ⟨fun _ => Or.inr rfl, fun _ => by decide⟩
      · rw [upd_n _ _ e2]
        exact ⟨fun h => Or.inl h, fun h => h.elim id (fun h2 => absurd ((nI_eq (by omega) (by omega)).mp h2).symm e2)⟩) ff
  rw [h]
  constructor
  · rintro (h1 | ⟨t, -, h2, h3⟩)
    · exact Or.inl h1
    · exact Or.inr ⟨t, by omega, h3⟩
  · rintro (h1 | ⟨t, h2, h3⟩)
    · exact Or.inl h1
    · exact Or.inr ⟨t, by omega, by omega, h3⟩
theorem xClr_0 (ff : Nat → Int32) {f : Nat} (hf : f < 100) : xClr ff f = 0 := by
  unfold xClr
  have h := itU_inv (f := xClrStep) (fun i z => ∀ j, j < i → z j = 0) 100 0 (fun k _ _ z hz j hj => by
    unfold xClrStep
    by_cases e : j = k
    · subst e
      exact upd_s _ _ _
    · exact (upd_n _ _ e).trans (hz j (by omega))) ff (fun j h => absurd h (Nat.not_lt_zero _))
  exact h f hf
theorem xFiles_nz {n : Nat} (hn : n ≤ 60) (sf : Nat → Int32) (cs : Int64) (ff : Nat → Int32) {f : Nat} (hf : f < 100) : ¬ xFiles n sf cs ff f = 0 ↔ FileOf n sf (Bt cs) f := by
  unfold xFiles
  have h := itU_ex (f := xFilesStep n sf cs) (fun c => ¬ c f = 0) (fun k => Bt cs k ∧ ∃ t, t < 4 ∧ sf (4 * k + t) = nI f) n 0 (fun k _ hk a => by
    unfold xFilesStep
    have h0 := xCon_0 cs (k := k) (by omega)
    by_cases c : xCon cs (nI k) = 0
    · rw [if_pos c]
      exact ⟨fun h => Or.inl h, fun h => h.elim id (fun h2 => absurd h2.1 (h0.mp c))⟩
    · rw [if_neg c, xFind_nz hn sf (by omega) a hf]
      exact ⟨fun h => h.elim Or.inl (fun h2 => Or.inr ⟨Classical.byContradiction (fun h3 => c (h0.mpr h3)), h2⟩), fun h => h.elim Or.inl (fun h2 => Or.inr h2.2)⟩) (xClr ff)
  rw [h]
  constructor
  · rintro (h1 | ⟨k, -, h2, h3⟩)
    · exact absurd (xClr_0 ff hf) h1
    · exact ⟨k, by omega, h3⟩
  · rintro ⟨k, h2, h3⟩
    exact Or.inr ⟨k, by omega, by omega, h3⟩
theorem FileOf_congr {n : Nat} {sl : Nat → Int32} {S T : Nat → Prop} (h : ∀ k, k < n → (S k ↔ T k)) (f : Nat) : FileOf n sl S f ↔ FileOf n sl T f := by
  unfold FileOf
  constructor
  · rintro ⟨k, h1, h2, h3⟩
    exact ⟨k, h1, (h k h1).mp h2, h3⟩
  · rintro ⟨k, h1, h2, h3⟩
    exact ⟨k, h1, (h k h1).mpr h2, h3⟩
theorem mNeed_nz {n : Nat} (hn : n ≤ 60) (hc : Nat → Int32) (b : Nat) (sl : Nat → Int32) (f : Nat) : ¬ mNeed n hc b sl (nI f) = 0 ↔ FileOf n sl (Hc hc b) f := by
  unfold mNeed
  have h := itU_ex (f := mNeedStep n hc b sl (nI f)) (fun c => ¬ c = 0) (fun k => sl k = nI f ∧ Hc hc b (k / 4)) (4 * n) 0 (fun k _ hk a => by
    unfold mNeedStep
    have h0 := mHas_0 (hc := hc) (b := b) hn (show k / 4 < n by omega)
    unfold Hc
    by_cases c1 : a = 0
    · rw [if_pos c1]
      by_cases c2 : sl k = nI f
      · rw [if_pos c2]
        by_cases c3 : mHas n hc b (nI (k / 4)) = 0
        · rw [if_pos c3]
          exact ⟨fun h => absurd rfl h, fun h => h.elim (fun h2 => absurd c1 h2) (fun h2 => absurd (h0.mp c3) h2.2)⟩
        · rw [if_neg c3]
          exact ⟨fun _ => Or.inr ⟨c2, fun h2 => c3 (h0.mpr h2)⟩, fun _ => by decide⟩
      · rw [if_neg c2]
        exact ⟨fun h => absurd rfl h, fun h => h.elim (fun h2 => absurd c1 h2) (fun h2 => absurd h2.1 c2)⟩
    · rw [if_neg c1]
      exact ⟨fun _ => Or.inl c1, fun _ => by decide⟩) 0
  rw [h]
  constructor
  · rintro (h1 | ⟨k, -, h2, h3, h4⟩)
    · exact absurd rfl h1
    · exact ⟨k / 4, by omega, h4, k % 4, by omega, by rw [show 4 * (k / 4) + k % 4 = k from by omega]; exact h3⟩
  · rintro ⟨k, h1, h2, t, h3, h4⟩
    exact Or.inr ⟨4 * k + t, by omega, by omega, h4, by rw [show (4 * k + t) / 4 = k from by omega]; exact h2⟩
theorem xAddFs_nz (wn ot fl : Nat → Int32) {f : Nat} (hf : f < 100) : ¬ xAddFs wn ot fl f = 0 ↔ ¬ fl f = 0 ∨ (¬ wn f = 0 ∧ ¬ ot f = 0) := by
  unfold xAddFs
  have h := itU_ex (f := xAddFsStep wn ot) (fun c => ¬ c f = 0) (fun k => k = f ∧ ¬ wn k = 0 ∧ ¬ ot k = 0) 100 0 (fun k _ hk a => by
    unfold xAddFsStep
    have h0 := xHas_0 ot (f := k) (by omega)
    by_cases c1 : wn k = 0
    · rw [if_pos c1]
      exact ⟨fun h => Or.inl h, fun h => h.elim id (fun h2 => absurd c1 h2.2.1)⟩
    · rw [if_neg c1]
      by_cases c2 : xHas ot (nI k) = 0
      · rw [if_pos c2]
        exact ⟨fun h => Or.inl h, fun h => h.elim id (fun h2 => absurd (h0.mp c2) h2.2.2)⟩
      · rw [if_neg c2]
        by_cases e : f = k
        · subst e
          rw [upd_s]
          exact ⟨fun _ => Or.inr ⟨rfl, c1, fun h2 => c2 (h0.mpr h2)⟩, fun _ => by decide⟩
        · rw [upd_n _ _ e]
          exact ⟨fun h => Or.inl h, fun h => h.elim id (fun h2 => absurd h2.1.symm e)⟩) fl
  rw [h]
  constructor
  · rintro (h1 | ⟨k, -, -, rfl, h2⟩)
    · exact Or.inl h1
    · exact Or.inr h2
  · rintro (h1 | h1)
    · exact Or.inl h1
    · exact Or.inr ⟨f, by omega, by omega, rfl, h1⟩
theorem xKeep_nz (nd fl : Nat → Int32) {f : Nat} (hf : f < 100) : ¬ xKeep nd fl f = 0 ↔ ¬ fl f = 0 ∧ ¬ nd f = 0 := by
  unfold xKeep
  have h := itU_inv (f := xKeepStep nd) (fun i z => (∀ j, j < i → (¬ z j = 0 ↔ ¬ fl j = 0 ∧ ¬ nd j = 0)) ∧ ∀ j, i ≤ j → z j = fl j) 100 0 (fun k _ _ z hz => by
    have hk := hz.2 k (Nat.le_refl k)
    have key : ∀ v : Int32, (¬ v = 0 ↔ ¬ fl k = 0 ∧ ¬ nd k = 0) → (∀ j, j < k + 1 → (¬ upd z k v j = 0 ↔ ¬ fl j = 0 ∧ ¬ nd j = 0)) ∧ ∀ j, k + 1 ≤ j → upd z k v j = fl j := fun v hv => by
      refine ⟨fun j hj => ?_, fun j hj => ?_⟩
      · by_cases e : j = k
        · subst e
          rw [upd_s]
          exact hv
        · rw [upd_n _ _ e]
          exact hz.1 j (by omega)
      · rw [upd_n _ _ (show j ≠ k by omega)]
        exact hz.2 j (by omega)
    unfold xKeepStep
    rw [hk]
    by_cases c1 : fl k = 0
    · rw [if_pos c1]
      exact key 0 ⟨fun h => absurd rfl h, fun h => absurd c1 h.1⟩
    · rw [if_neg c1]
      by_cases c2 : nd k = 0
      · rw [if_pos c2]
        exact key 0 ⟨fun h => absurd rfl h, fun h => absurd c2 h.2⟩
      · rw [if_neg c2]
        exact key 1 ⟨fun _ => ⟨c1, c2⟩, fun _ => by decide⟩) fl ⟨fun j h => absurd h (Nat.not_lt_zero _), fun _ _ => rfl⟩
  exact h.1 f hf
theorem gCnt_ext {p : Nat → Bool} {n : Nat} (h : ∀ i, n ≤ i → p i = false) : ∀ e, gCnt p (n + e) = gCnt p n
  | 0 => rfl
  | e + 1 => by
    show gCnt p (n + e) + (if p (n + e) = true then 1 else 0) = gCnt p n
    rw [gCnt_ext h e, h (n + e) (by omega)]
    rfl
theorem gCnt_add {p a b : Nat → Bool} : ∀ n, (∀ k, k < n → p k = (a k || b k) ∧ (a k && b k) = false) → gCnt p n = gCnt a n + gCnt b n
  | 0, _ => rfl
  | n + 1, h => by
    have h1 := gCnt_add n (fun k hk => h k (by omega))
    obtain ⟨h2, h3⟩ := h n (by omega)
    show gCnt p n + _ = (gCnt a n + _) + (gCnt b n + _)
    rw [h1, h2]
    cases ha : a n <;> cases hb : b n <;> simp_all <;> omega
/-- the number of a set -/
theorem bits_cnt {s : Int64} {n : Nat} {q : Nat → Bool} (hn : n ≤ 60) (h : ∀ k, k < n → (Bt s k ↔ q k = true)) (h2 : ∀ k, n ≤ k → ¬ Bt s k) : xBits s = nI (gCnt q n) := by
  rw [pu_bits]
  congr 1
  have h3 := gCnt_ext (p := fun i => s.toBitVec.getLsbD i) (n := n) (fun i hi => Bool.eq_false_iff.mpr (h2 i hi)) (64 - n)
  rw [show n + (64 - n) = 64 from by omega] at h3
  rw [h3]
  exact gCnt_congr n (fun i hi => Bool.eq_iff_iff.mpr (h i hi))
theorem nI_cnt (p : Nat → Bool) (i : Nat) (b : Bool) (hb : p i = b) : nI (gCnt p i) + (if b = true then 1 else 0) = nI (gCnt p (i + 1)) := by
  show _ = nI (gCnt p i + (if p i = true then 1 else 0))
  rw [hb]
  cases b
  · show nI (gCnt p i) + 0 = nI (gCnt p i + 0)
    exact nI_add (gCnt p i) 0
  · exact nI_1 _
theorem xLack_cnt (nd fl : Nat → Int32) : xLack nd fl = nI (gCnt (fun f => decide (¬ nd f = 0 ∧ fl f = 0)) 100) := by
  unfold xLack
  have h := itU_inv (f := xLackStep nd fl) (fun i z => z = nI (gCnt (fun f => decide (¬ nd f = 0 ∧ fl f = 0)) i)) 100 0 (fun k _ _ z hz => by
    subst hz
    unfold xLackStep
    by_cases c1 : nd k = 0
    · rw [if_pos c1, ← nI_cnt _ k false (by simp [c1])]
      exact (nI_add (gCnt _ k) 0).symm
    · rw [if_neg c1]
      by_cases c2 : fl k = 0
      · rw [if_pos c2, ← nI_cnt _ k true (by simp [c1, c2])]
        rfl
      · rw [if_neg c2, ← nI_cnt _ k false (by simp [c2])]
        exact (nI_add (gCnt _ k) 0).symm) 0 rfl
  exact h
theorem mMiss_cnt (n : Nat) (hc sl hf : Nat → Int32) : mMiss n hc sl hf = nI (gCnt (fun f => decide (¬ mNeed n hc 1 sl (nI f) = 0 ∧ hf (100 + f) = 0)) 100) := by
  unfold mMiss
  rw [opq_eq]
  have h := itU_inv (f := mMissStep n hc sl hf) (fun i z => z = nI (gCnt (fun f => decide (¬ mNeed n hc 1 sl (nI f) = 0 ∧ hf (100 + f) = 0)) i)) 100 0 (fun k _ _ z hz => by
    subst hz
    unfold mMissStep
    by_cases c1 : hf (100 + k) = 0
    · rw [if_pos c1]
      by_cases c2 : mNeed n hc 1 sl (nI k) = 0
      · rw [if_pos c2, ← nI_cnt _ k false (by simp [c2])]
        rfl
      · rw [if_neg c2, ← nI_cnt _ k true (by simp [c1, c2])]
        rfl
    · rw [if_neg c1, ← nI_cnt _ k false (by simp [c1])]
      rfl) 0 rfl
  exact h
theorem mWould_cnt {n : Nat} (hn : n ≤ 60) (mk hc : Nat → Int32) : mWould n mk hc = nI (gCnt (fun k => decide (¬ mk k = 0 ∧ hc (60 * 1 + k) = 0)) n) := by
  unfold mWould
  have h := itU_inv (f := mWouldStep n mk hc) (fun i z => z = nI (gCnt (fun k => decide (¬ mk k = 0 ∧ hc (60 * 1 + k) = 0)) i)) n 0 (fun k _ hk z hz => by
    subst hz
    have h0 := mHas_0 (hc := hc) (b := 1) hn (show k < n by omega)
    unfold mWouldStep
    by_cases c1 : mk k = 0
    · rw [if_pos c1, ← nI_cnt _ k false (by simp [c1])]
      rfl
    · rw [if_neg c1]
      by_cases c2 : mHas n hc 1 (nI k) = 0
      · rw [if_pos c2, ← nI_cnt _ k true (by simp [c1, h0.mp c2])]
        rfl
      · rw [if_neg c2, ← nI_cnt _ k false (by simp; intro _ h3; exact c2 (h0.mpr h3))]
        rfl) 0 rfl
  rw [Nat.zero_add] at h
  exact h
