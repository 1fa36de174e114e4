/-! collect -/
theorem Bt_refs (rf : Nat → Int32) (j : Nat) : Bt (xRefs rf) j ↔ j < 60 ∧ ∃ k, k < 4 ∧ rf k = nI j := by
  unfold xRefs
  have h := itU_ex (f := xRefsStep rf) (fun s => Bt s j) (fun k => j < 60 ∧ rf k = nI j) 4 0 (fun k _ _ a => by
    unfold xRefsStep
    rw [Bt_or, Bt_set]) 0
  rw [h]
  constructor
  · rintro (h1 | ⟨k, -, h2, h3, h4⟩)
    · exact absurd h1 (Bt_0 j)
    · exact ⟨h3, k, by omega, h4⟩
  · rintro ⟨h1, k, h2, h3⟩
    exact Or.inr ⟨k, by omega, by omega, h1, h3⟩
theorem mColM_nz {n : Nat} (hn : n ≤ 60) (hc : Nat → Int32) (b : Nat) (rf ma : Nat → Int32) {j : Nat} (hj : j < n) : ¬ mColM n hc b rf ma j = 0 ↔ Hc hc b j ∧ ∃ k, k < 4 ∧ rf (4 * b + k) = nI j := by
  unfold mColM
  rw [opq_eq]
  have h := itU_ex (f := mColStep n hc b rf) (fun c => ¬ c j = 0) (fun k => rf (4 * b + k) = nI j ∧ Hc hc b j) 4 0 (fun k _ _ a => by
    unfold mColStep
    rw [mMark_nz hn]
    exact ⟨fun h => h.elim Or.inl (fun h2 => Or.inr ⟨h2.2.1, h2.2.2⟩), fun h => h.elim Or.inl (fun h2 => Or.inr ⟨hj, h2.1, h2.2⟩)⟩) (mClr ma)
  rw [h]
  constructor
  · rintro (h1 | ⟨k, -, h2, h3, h4⟩)
    · exact absurd (mClr_0 ma (by omega)) h1
    · exact ⟨h4, k, by omega, h3⟩
  · rintro ⟨h1, k, h2, h3⟩
    exact Or.inr ⟨k, by omega, by omega, h3, h1⟩
theorem col_start {n : Nat} (hn : n ≤ 60) {s : Int64} {hc : Nat → Int32} {b : Nat} (hS : RM n s (Hc hc b)) {r rf : Nat → Int32} (hr : ∀ k, k < 4 → r k = rf (4 * b + k)) (ma : Nat → Int32) : RM n (xRefs r &&& s) (Nz (mColM n hc b rf ma)) := by
  intro j
  unfold Nz
  rw [Bt_and, Bt_refs, hS j]
  constructor
  · rintro ⟨⟨-, k, h1, h2⟩, h3, h4⟩
    exact ⟨h3, (mColM_nz hn hc b rf ma h3).mpr ⟨h4, k, h1, by rw [← hr k h1]; exact h2⟩⟩
  · rintro ⟨h1, h2⟩
    obtain ⟨h3, k, h4, h5⟩ := (mColM_nz hn hc b rf ma h1).mp h2
    exact ⟨⟨by omega, k, h4, by rw [hr k h4]; exact h5⟩, h1, h3⟩
theorem mColC_res {n : Nat} (hn : n ≤ 60) (b : Nat) (ma hc : Nat → Int32) :
    (itU (mColC n b ma) n 0 (0, hc)).1 = nI (gCnt (fun k => decide (¬ hc (60 * b + k) = 0 ∧ ma k = 0)) n) ∧ (∀ k, k < 60 → (itU (mColC n b ma) n 0 (0, hc)).2 (60 * b + k) = if k < n then ma k else hc (60 * b + k)) ∧ ∀ c k, c ≠ b → k < 60 → (itU (mColC n b ma) n 0 (0, hc)).2 (60 * c + k) = hc (60 * c + k) := by
  have h := itU_inv (f := mColC n b ma) (fun i z => z.1 = nI (gCnt (fun k => decide (¬ hc (60 * b + k) = 0 ∧ ma k = 0)) i) ∧ (∀ k, k < 60 → z.2 (60 * b + k) = if k < i then ma k else hc (60 * b + k)) ∧ ∀ c k, c ≠ b → k < 60 → z.2 (60 * c + k) = hc (60 * c + k)) n 0 (fun k _ hk z hz => by
    obtain ⟨z1, z2, z3⟩ := hz
    have h0 := mHas_0 (hc := z.2) (b := b) hn (show k < n by omega)
    have zk := z2 k (by omega)
    rw [if_neg (Nat.lt_irrefl k)] at zk
    rw [zk] at h0
    have hst : (∀ i, i < 60 → upd z.2 (60 * b + k) (ma k) (60 * b + i) = if i < k + 1 then ma i else hc (60 * b + i)) ∧ ∀ c i, c ≠ b → i < 60 → upd z.2 (60 * b + k) (ma k) (60 * c + i) = hc (60 * c + i) := by
      refine ⟨fun i hi => ?_, fun c i hc2 hi => ?_⟩
      · by_cases e : i = k
        · subst e
          rw [upd_s, if_pos (Nat.lt_succ_self i)]
        · rw [upd_n _ _ (show 60 * b + i ≠ 60 * b + k by omega), z2 i hi]
          by_cases e2 : i < k
          · rw [if_pos e2, if_pos (by omega)]
          · rw [if_neg e2, if_neg (by omega)]
      · rw [upd_n _ _ (show 60 * c + i ≠ 60 * b + k by omega)]
        exact z3 c i hc2 hi
    unfold mColC
    by_cases c1 : mHas n z.2 b (nI k) = 0
    · rw [if_pos c1]
      refine ⟨?_, hst⟩
      show z.1 + 0 = _
      rw [z1, ← nI_cnt _ k false (by simp [h0.mp c1])]
      rfl
    · rw [if_neg c1]
      by_cases c2 : ma k = 0
      · rw [if_pos c2]
        refine ⟨?_, hst⟩
        have d1 : ¬ hc (60 * b + k) = 0 := fun h => c1 (h0.mpr h)
        show z.1 + 1 = _
        rw [z1, ← nI_cnt _ k true (by simp [d1, c2])]
        rfl
      · rw [if_neg c2]
        refine ⟨?_, hst⟩
        show z.1 + 0 = _
        rw [z1, ← nI_cnt _ k false (by simp [c2])]
        rfl) (0, hc) ⟨rfl, fun k _ => (if_neg (Nat.not_lt_zero k)).symm, fun _ _ _ _ => rfl⟩
  rw [Nat.zero_add] at h
  exact h
theorem mColFs_res (n : Nat) (hc : Nat → Int32) (b : Nat) (sl hf : Nat → Int32) : ∀ f, f < 100 → (¬ mColFs n hc b sl hf (100 * b + f) = 0 ↔ ¬ hf (100 * b + f) = 0 ∧ ¬ mNeed n hc b sl (nI f) = 0) ∧ ∀ c, c ≠ b → mColFs n hc b sl hf (100 * c + f) = hf (100 * c + f) := by
  unfold mColFs
  rw [opq_eq]
  have h := itU_inv (f := mColF n hc b sl) (fun i z => ∀ f, f < 100 → ((f < i → (¬ z (100 * b + f) = 0 ↔ ¬ hf (100 * b + f) = 0 ∧ ¬ mNeed n hc b sl (nI f) = 0)) ∧ (i ≤ f → z (100 * b + f) = hf (100 * b + f))) ∧ ∀ c, c ≠ b → z (100 * c + f) = hf (100 * c + f)) 100 0 (fun k _ hk z hz => by
    have hzk := (hz k (by omega)).1.2 (Nat.le_refl k)
    have key : ∀ v : Int32, (¬ v = 0 ↔ ¬ hf (100 * b + k) = 0 ∧ ¬ mNeed n hc b sl (nI k) = 0) → ∀ f, f < 100 → ((f < k + 1 → (¬ upd z (100 * b + k) v (100 * b + f) = 0 ↔ ¬ hf (100 * b + f) = 0 ∧ ¬ mNeed n hc b sl (nI f) = 0)) ∧ (k + 1 ≤ f → upd z (100 * b + k) v (100 * b + f) = hf (100 * b + f))) ∧ ∀ c, c ≠ b → upd z (100 * b + k) v (100 * c + f) = hf (100 * c + f) := fun v hv f hf1 => by
      obtain ⟨⟨g1, g2⟩, g3⟩ := hz f hf1
      refine ⟨?_, fun c hc2 => by rw [upd_n _ _ (show 100 * c + f ≠ 100 * b + k by omega)]; exact g3 c hc2⟩
      by_cases e : f = k
      · subst e
        rw [upd_s]
        exact ⟨fun _ => hv, fun h => absurd h (by omega)⟩
      · rw [upd_n _ _ (show 100 * b + f ≠ 100 * b + k by omega)]
        exact ⟨fun h => g1 (by omega), fun h => g2 (by omega)⟩
    unfold mColF
    rw [hzk]
    by_cases c1 : hf (100 * b + k) = 0
    · rw [if_pos c1]
      exact key 0 ⟨fun h => absurd rfl h, fun h => absurd c1 h.1⟩
    · rw [if_neg c1]
      by_cases c2 : mNeed n hc b sl (nI k) = 0
      · rw [if_pos c2]
        exact key 0 ⟨fun h => absurd rfl h, fun h => absurd c2 h.2⟩
      · rw [if_neg c2]
        exact key 1 ⟨fun _ => ⟨c1, c2⟩, fun _ => by decide⟩) hf (fun f _ => ⟨⟨fun h => absurd h (Nat.not_lt_zero f), fun _ => rfl⟩, fun _ _ => rfl⟩)
  intro f hf1
  obtain ⟨⟨g1, -⟩, g3⟩ := h f hf1
  exact ⟨g1 (by omega), g3⟩
set_option maxHeartbeats 4000000 in
theorem sim_collect_0 {n w : Nat} {x : SX} {m : SM} (hs : Sim n w x m) (ff ma d10 : Nat → Int32) (kept : Int64) (Mk : Nat → Int32) (Cc : Int32 × (Nat → Int32)) (hk : kept = xAnc n (x.1 0) (x.1 1) (xRefs (x.1 6)) (x.2 0)) (hMk : Mk = mOn0 n (m 3) (m 0) (m 1) (mColM n (m 3) 0 (m 5) ma)) (hCc : Cc = itU (mColC n 0 Mk) n 0 (0, m 3)) :
    xBits (x.2 0 &&& (kept ^^^ (-1))) = Cc.1 ∧ Sim n w (gL (gS (gS x 4 ff) 5 (xKeep (xFiles n (x.1 2) kept (x.1 4)) (x.1 5))) 0 kept) (mS (mS (mS (mS m 14 (fun _ => 0)) 10 d10) 3 Cc.2) 4 (mColFs n Cc.2 0 (m 2) (m 4))) := by
  obtain ⟨⟨e0, e1, e2, e9, e10, e11, e12⟩, ⟨hn, hm, h60, hw, hmw, h3, hr⟩, hp, hsl, ⟨hS, hC, hZ⟩, hcl, hF, hRf, hMv⟩ := id hs
  rw [e0, e1] at hk
  have hst := col_start h60 hS (r := x.1 6) (rf := m 5) (fun k hk4 => (hRf k hk4).1) ma
  obtain ⟨a1, a2⟩ := anc_0 h60 hp hS hcl hst
  rw [← hk, ← hMk] at a1
  rw [← hk] at a2
  obtain ⟨c1, c2, c3⟩ := mColC_res h60 0 Mk (m 3)
  rw [← hCc] at c1 c2 c3
  have hkH : ∀ k, k < n → (Hc Cc.2 0 k ↔ Bt kept k) := fun k hk => by
    unfold Hc
    rw [c2 k (by omega), if_pos hk, a1 k]
    exact ⟨fun h => ⟨hk, h⟩, fun h => h.2⟩
  refine ⟨?_, ?_⟩
  · rw [c1]
    refine bits_cnt h60 (fun k hk => ?_) (fun k hk h => absurd ((hS k).mp ((Bt_wo _ _ _).mp h).1).1 (by omega))
    rw [Bt_wo, hS k, a1 k, decide_eq_true_iff]
    unfold Hc Nz
    exact ⟨fun h => ⟨h.1.2, Classical.byContradiction (fun h2 => h.2 ⟨hk, h2⟩)⟩, fun h => ⟨⟨hk, h.1⟩, fun h2 => h2.2 h.2⟩⟩
  unfold Sim
  simp only [gS_1, gS_2, gL_1, gL_2, mS_at, Nat.reduceEqDiff, ↓reduceIte]
  have hRM : RM n kept (Hc Cc.2 0) := fun k => ⟨fun h => ⟨((a1 k).mp h).1, (hkH k ((a1 k).mp h).1).mpr h⟩, fun h => (hkH k h.1).mp h.2⟩
  have hFb : ∀ f, f < 100 → (xKeep (xFiles n (x.1 2) kept (x.1 4)) (x.1 5) f = 0 ↔ mColFs n Cc.2 0 (m 2) (m 4) (100 * 0 + f) = 0) := fun f hf => by
    have key : ¬ xKeep (xFiles n (x.1 2) kept (x.1 4)) (x.1 5) f = 0 ↔ ¬ mColFs n Cc.2 0 (m 2) (m 4) (100 * 0 + f) = 0 := by
      rw [xKeep_nz _ _ hf, (mColFs_res n Cc.2 0 (m 2) (m 4) f hf).1, xFiles_nz h60 _ _ _ hf, mNeed_nz h60, (hF f hf).1, e2, FileOf_congr hkH f]
    exact ⟨fun h => Classical.byContradiction (fun h4 => key.mpr h4 h), fun h => Classical.byContradiction (fun h4 => key.mp h4 h)⟩
  refine ⟨⟨e0, e1, e2, e9, e10, e11, e12⟩, ⟨hn, hm, h60, hw, hmw, h3, hr⟩, hp, hsl, ⟨hRM, fun k => ?_, fun b k hb h1 h2 => ?_⟩, fun k hk2 hb hlk => ?_, fun f hf => ⟨hFb f hf, ?_⟩, fun r hr4 => ?_, hMv⟩
  · rw [hC k]
    unfold Hc
    constructor
    · rintro ⟨g1, g2⟩
      exact ⟨g1, by rw [c3 1 k (by decide) (by omega)]; exact g2⟩
    · rintro ⟨g1, g2⟩
      rw [c3 1 k (by decide) (by omega)] at g2
      exact ⟨g1, g2⟩
  · rcases (show b = 0 ∨ b = 1 by omega) with rfl | rfl
    · rw [c2 k h2, if_neg (by omega)]
      exact hZ 0 k (by omega) h1 h2
    · rw [c3 1 k (by decide) h2]
      exact hZ 1 k (by omega) h1 h2
  · obtain ⟨j, hj, hpar, hnot⟩ := hlk
    refine hnot ?_
    rw [hk] at hb ⊢
    exact anc_up h60 hp hk2 hb (shallow_0 h60 hcl k) hj hpar
  · rw [(mColFs_res n Cc.2 0 (m 2) (m 4) f hf).2 1 (by decide)]
    exact (hF f hf).2
  · obtain ⟨g1, g2, g3⟩ := hRf r hr4
    refine ⟨g1, g2, g3.elim Or.inl (fun ⟨j, h1, h2, h4⟩ => Or.inr ⟨j, h1, h2, ?_⟩)⟩
    rw [hk]
    exact anc_in h60 ⟨(Bt_refs _ _).mpr ⟨by omega, r, hr4, g1.trans h2⟩, h4⟩
set_option maxHeartbeats 4000000 in
theorem sim_collect_1 {n w : Nat} {x : SX} {m : SM} (hs : Sim n w x m) (ff ma d10 : Nat → Int32) (kept : Int64) (Mk : Nat → Int32) (Cc : Int32 × (Nat → Int32)) (hk : kept = xAnc n (x.1 0) (x.1 1) (xRefs (x.1 8)) (x.2 1)) (hMk : Mk = mOn1 n (m 3) (m 0) (m 1) (mColM n (m 3) 1 (m 5) ma)) (hCc : Cc = itU (mColC n 1 Mk) n 0 (0, m 3)) :
    xBits (x.2 1 &&& (kept ^^^ (-1))) = Cc.1 ∧ Sim n w (gL (gS (gS x 4 ff) 7 (xKeep (xFiles n (x.1 2) kept (x.1 4)) (x.1 7))) 1 kept) (mS (mS (mS (mS m 14 (fun _ => 0)) 10 d10) 3 Cc.2) 4 (mColFs n Cc.2 1 (m 2) (m 4))) := by
  obtain ⟨⟨e0, e1, e2, e9, e10, e11, e12⟩, ⟨hn, hm, h60, hw, hmw, h3, hr⟩, hp, hsl, ⟨hS, hC, hZ⟩, hcl, hF, hRf, hMv⟩ := id hs
  rw [e0, e1] at hk
  have hst := col_start h60 hC (r := x.1 8) (rf := m 5) (fun k hk4 => (hRf k hk4).2.1) ma
  obtain ⟨a1, a2⟩ := anc_1 h60 hp hC hst
  rw [← hk, ← hMk] at a1
  rw [← hk] at a2
  obtain ⟨c1, c2, c3⟩ := mColC_res h60 1 Mk (m 3)
  rw [← hCc] at c1 c2 c3
  have hkH : ∀ k, k < n → (Hc Cc.2 1 k ↔ Bt kept k) := fun k hk => by
    unfold Hc
    rw [c2 k (by omega), if_pos hk, a1 k]
    exact ⟨fun h => ⟨hk, h⟩, fun h => h.2⟩
  refine ⟨?_, ?_⟩
  · rw [c1]
    refine bits_cnt h60 (fun k hk => ?_) (fun k hk h => absurd ((hC k).mp ((Bt_wo _ _ _).mp h).1).1 (by omega))
    rw [Bt_wo, hC k, a1 k, decide_eq_true_iff]
    unfold Hc Nz
    exact ⟨fun h => ⟨h.1.2, Classical.byContradiction (fun h2 => h.2 ⟨hk, h2⟩)⟩, fun h => ⟨⟨hk, h.1⟩, fun h2 => h2.2 h.2⟩⟩
  unfold Sim
  simp only [gS_1, gS_2, gL_1, gL_2, mS_at, Nat.reduceEqDiff, ↓reduceIte]
  have hRM : RM n kept (Hc Cc.2 1) := fun k => ⟨fun h => ⟨((a1 k).mp h).1, (hkH k ((a1 k).mp h).1).mpr h⟩, fun h => (hkH k h.1).mp h.2⟩
  have hFb : ∀ f, f < 100 → (xKeep (xFiles n (x.1 2) kept (x.1 4)) (x.1 7) f = 0 ↔ mColFs n Cc.2 1 (m 2) (m 4) (100 * 1 + f) = 0) := fun f hf => by
    have key : ¬ xKeep (xFiles n (x.1 2) kept (x.1 4)) (x.1 7) f = 0 ↔ ¬ mColFs n Cc.2 1 (m 2) (m 4) (100 * 1 + f) = 0 := by
      rw [xKeep_nz _ _ hf, (mColFs_res n Cc.2 1 (m 2) (m 4) f hf).1, xFiles_nz h60 _ _ _ hf, mNeed_nz h60, (hF f hf).2, e2, FileOf_congr hkH f]
    exact ⟨fun h => Classical.byContradiction (fun h4 => key.mpr h4 h), fun h => Classical.byContradiction (fun h4 => key.mp h4 h)⟩
  refine ⟨⟨e0, e1, e2, e9, e10, e11, e12⟩, ⟨hn, hm, h60, hw, hmw, h3, hr⟩, hp, hsl, ⟨fun k => ?_, hRM, fun b k hb h1 h2 => ?_⟩, hcl, fun f hf => ⟨?_, hFb f hf⟩, hRf, hMv⟩
  · rw [hS k]
    unfold Hc
    constructor
    · rintro ⟨g1, g2⟩
      exact ⟨g1, by rw [c3 0 k (by decide) (by omega)]; exact g2⟩
    · rintro ⟨g1, g2⟩
      rw [c3 0 k (by decide) (by omega)] at g2
      exact ⟨g1, g2⟩
  · rcases (show b = 0 ∨ b = 1 by omega) with rfl | rfl
    · rw [c3 0 k (by decide) h2]
      exact hZ 0 k (by omega) h1 h2
    · rw [c2 k h2, if_neg (by omega)]
      exact hZ 1 k (by omega) h1 h2
  · rw [(mColFs_res n Cc.2 1 (m 2) (m 4) f hf).2 0 (by decide)]
    exact (hF f hf).1
