/-! make -/
theorem sim_makeOk {n : Nat} {s : Int64} {p1 p2 p3 p4 : Int32} (hz : xMakeC n s p1 p2 p3 p4 = 0) : n < 60 ∧ ¬ xRange p3 4 = 0 ∧ ¬ xHoN s p1 = 0 ∧ ¬ xHoN s p2 = 0 ∧ ¬ xFiN p4 = 0 ∧ (p2 = -1 ∨ (¬ p1 = -1 ∧ ¬ p1 = p2)) := by
  unfold xMakeC at hz
  by_cases c1 : xRange p3 4 = 0
  · rw [if_pos c1] at hz; exact absurd hz (by decide)
  rw [if_neg c1] at hz
  by_cases c2 : xHoN s p1 = 0
  · rw [if_pos c2] at hz; exact absurd hz (by decide)
  rw [if_neg c2] at hz
  by_cases c3 : xHoN s p2 = 0
  · rw [if_pos c3] at hz; exact absurd hz (by decide)
  rw [if_neg c3] at hz
  by_cases c4 : xFiN p4 = 0
  · rw [if_pos c4] at hz; exact absurd hz (by decide)
  rw [if_neg c4] at hz
  have hlt : (if n < 60 then (0 : Int32) else 3) = 0 → n < 60 := fun h => by
    by_cases c : n < 60
    · exact c
    · rw [if_neg c] at h
      exact absurd h (by decide)
  by_cases c5 : p2 = -1
  · rw [if_pos c5] at hz
    exact ⟨hlt hz, c1, c2, c3, c4, Or.inl c5⟩
  rw [if_neg c5] at hz
  by_cases c6 : p1 = -1
  · rw [if_pos c6] at hz; exact absurd hz (by decide)
  rw [if_neg c6] at hz
  by_cases c7 : p1 = p2
  · rw [if_pos c7] at hz; exact absurd hz (by decide)
  rw [if_neg c7] at hz
  exact ⟨hlt hz, c1, c2, c3, c4, Or.inr ⟨c6, c7⟩⟩
theorem slots_eq {n : Nat} (hn : n < 60) {p1 p3 : Int32} (p4 : Int32) (hv : vC n p1) (sl : Nat → Int32) : xSlots n p1 p3 p4 sl = mMakeS n p1 p3 p4 sl := by
  unfold xSlots mMakeS
  rw [opq_eq]
  refine itU_congr 4 0 (fun k _ hk a => ?_) sl
  unfold xSlotStep mMakeStep
  rw [show n * 4 + k = 4 * n + k from by omega]
  by_cases c1 : nI k = p3
  · rw [if_pos c1, if_pos c1]
  · rw [if_neg c1, if_neg c1]
    rcases hv with rfl | ⟨j, hj, rfl⟩
    · rw [if_pos rfl]
      congr 1
    · rw [if_neg (nI_m1 (show j < 2 ^ 31 by omega)), xFileIn_at (by omega) a hj (by omega), nI_clamp (by omega)]
theorem slots_at {n : Nat} (p1 p3 p4 : Int32) (sl : Nat → Int32) : (∀ i, i < 4 * n → mMakeS n p1 p3 p4 sl i = sl i) := by
  unfold mMakeS
  rw [opq_eq]
  have h := itU_inv (f := mMakeStep n p1 p3 p4) (fun _ z => ∀ i, i < 4 * n → z i = sl i) 4 0 (fun k _ _ z hz i hi => by
    unfold mMakeStep
    have e : i ≠ 4 * n + k := by omega
    split
    · rw [upd_n _ _ e]; exact hz i hi
    · split
      · rw [upd_n _ _ e]; exact hz i hi
      · rw [upd_n _ _ e]; exact hz i hi) sl (fun _ _ => rfl)
  exact h
theorem slots_val {n : Nat} (hn : n < 60) {p1 p3 p4 : Int32} (hv : vC n p1) (hf : ¬ xFiN p4 = 0) {sl : Nat → Int32} (hsl : SVal n sl) : SVal (n + 1) (mMakeS n p1 p3 p4 sl) := by
  have hp4 : p4 = -1 ∨ ∃ f : Nat, f < 100 ∧ p4 = nI f := (fin_or hf).elim Or.inl (fun h => Or.inr ((xRange_100 p4).mp h))
  unfold mMakeS
  rw [opq_eq]
  have h := itU_inv (f := mMakeStep n p1 p3 p4) (fun k z => ∀ i, i < 4 * n + k → (z i = -1 ∨ ∃ f : Nat, f < 100 ∧ z i = nI f)) 4 0 (fun k _ hk z hz i hi => by
    unfold mMakeStep
    have key : ∀ v : Int32, (v = -1 ∨ ∃ f : Nat, f < 100 ∧ v = nI f) → (upd z (4 * n + k) v i = -1 ∨ ∃ f : Nat, f < 100 ∧ upd z (4 * n + k) v i = nI f) := fun v hv2 => by
      by_cases e : i = 4 * n + k
      · rw [e, upd_s]
        exact hv2
      · rw [upd_n _ _ e]
        exact hz i (by omega)
    split
    · exact key _ hp4
    · split
      · exact key _ (Or.inl rfl)
      · rename_i h1
        obtain ⟨j, hj, e⟩ := hv.resolve_left h1
        rw [e, nI_clamp (by omega)]
        exact key _ (hz _ (by omega))) sl (fun i hi => hsl i (by omega))
  intro k hk
  exact h k (by omega)
theorem addF_fil {f0 hf : Nat → Int32} {p4 : Int32} (hfp : ¬ xFiN p4 = 0) (b : Nat) (h : ∀ f, f < 100 → (f0 f = 0 ↔ hf (100 * b + f) = 0)) : ∀ f, f < 100 → (xAddF f0 p4 f = 0 ↔ mMakeF b p4 hf (100 * b + f) = 0) := by
  intro f hf1
  unfold xAddF mMakeF
  rcases fin_or hfp with rfl | h2
  · rw [if_pos rfl, if_pos]
    · exact h f hf1
    · exact Classical.byContradiction (fun h3 => by
        obtain ⟨i, hi, e⟩ := (xRange_100 _).mp h3
        exact nI_m1 (show i < 2 ^ 31 by omega) e.symm)
  · obtain ⟨g, hg, rfl⟩ := (xRange_100 p4).mp h2
    rw [if_neg h2, if_neg (nI_m1 (show g < 2 ^ 31 by omega)), nI_clamp (by omega)]
    by_cases e : f = g
    · subst e
      rw [upd_s, upd_s]
    · rw [upd_n _ _ e, upd_n _ _ (show 100 * b + f ≠ 100 * b + g by omega)]
      exact h f hf1
theorem makeF_other {b c : Nat} (hbc : b ≠ c) (p4 : Int32) (hf : Nat → Int32) (hfp : ¬ xFiN p4 = 0) {f : Nat} (hf1 : f < 100) : mMakeF b p4 hf (100 * c + f) = hf (100 * c + f) := by
  unfold mMakeF
  rcases fin_or hfp with rfl | h2
  · rw [if_pos rfl]
  · obtain ⟨g, hg, rfl⟩ := (xRange_100 p4).mp h2
    rw [if_neg (nI_m1 (show g < 2 ^ 31 by omega)), nI_clamp (by omega), upd_n _ _ (show 100 * c + f ≠ 100 * b + g by omega)]
/-- one more commit in a store -/
theorem com_add {n : Nat} (hn : n < 60) {s : Int64} {hc : Nat → Int32} {b : Nat} (hS : RM n s (Hc hc b)) : RM (n + 1) (s ||| xSet (nI n)) (Hc (upd hc (60 * b + n) 1) b) := by
  intro k
  unfold Hc
  rw [Bt_or, Bt_set, hS k]
  by_cases e : k = n
  · subst e
    rw [upd_s]
    exact ⟨fun _ => ⟨by omega, by decide⟩, fun _ => Or.inr ⟨by omega, rfl⟩⟩
  · rw [upd_n _ _ (show 60 * b + k ≠ 60 * b + n by omega)]
    constructor
    · rintro (⟨h1, h2⟩ | ⟨h1, h2⟩)
      · exact ⟨by omega, h2⟩
      · exact absurd ((nI_eq (by omega) (by omega)).mp h2).symm e
    · rintro ⟨h1, h2⟩
      exact Or.inl ⟨by omega, h2⟩
theorem com_oth {n : Nat} (hn : n < 60) {s : Int64} {hc : Nat → Int32} {b c : Nat} (hbc : b ≠ c) (hS : RM n s (Hc hc c)) (h0 : hc (60 * c + n) = 0) : RM (n + 1) s (Hc (upd hc (60 * b + n) 1) c) := by
  intro k
  unfold Hc
  rw [hS k]
  constructor
  · rintro ⟨h1, h2⟩
    rw [upd_n _ _ (show 60 * c + k ≠ 60 * b + n by omega)]
    exact ⟨by omega, h2⟩
  · rintro ⟨h1, h2⟩
    rw [upd_n _ _ (show 60 * c + k ≠ 60 * b + n by omega)] at h2
    by_cases e : k = n
    · subst e
      exact absurd h0 h2
    · exact ⟨by omega, h2⟩
theorem par_upd {fp sp : Nat → Int32} {n k j : Nat} (p1 p2 : Int32) (hk : k < n) : Par (upd fp n p1) (upd sp n p2) k j ↔ Par fp sp k j := by
  unfold Par
  rw [upd_n _ _ (show k ≠ n by omega), upd_n _ _ (show k ≠ n by omega)]
theorem pv_add {n : Nat} {fp sp : Nat → Int32} {p1 p2 : Int32} (hp : PV n fp sp) (h1 : vC n p1) (h2 : vC n p2) : PV (n + 1) (upd fp n p1) (upd sp n p2) := by
  intro k hk
  by_cases e : k = n
  · subst e
    rw [upd_s, upd_s]
    exact ⟨h1, h2⟩
  · rw [upd_n _ _ e, upd_n _ _ e]
    exact hp k (by omega)
theorem hon_vC {n : Nat} {s : Int64} {P : Nat → Prop} (hS : RM n s P) {c : Int32} (h : ¬ xHoN s c = 0) : vC n c := (hon_ne hS h).elim Or.inl (fun ⟨j, h1, h2, _⟩ => Or.inr ⟨j, h1, h2⟩)
theorem vC_mono {n : Nat} {c : Int32} (h : vC n c) : vC (n + 1) c := h.elim Or.inl (fun ⟨j, h1, h2⟩ => Or.inr ⟨j, by omega, h2⟩)
theorem sim_make_0 {n w : Nat} {x : SX} {m : SM} (hs : Sim n w x m) {p1 p2 p3 p4 : Int32} (hz : xMakeC n (x.2 0) p1 p2 p3 p4 = 0) :
    Sim (n + 1) w (gL (gS (gS (gS (gS (gS x 0 (upd (x.1 0) n p1)) 1 (upd (x.1 1) n p2)) 2 (xSlots n p1 p3 p4 (x.1 2))) 5 (xAddF (x.1 5) p4)) 15 (fun _ => (nI n + 1))) 0 ((x.2 0) ||| (xSet (nI n))))
      (mS (mS (mS (mS (mS (mS (mS m 14 (fun _ => 0)) 0 (upd (m 0) n p1)) 1 (upd (m 1) n p2)) 2 (mMakeS n p1 p3 p4 (m 2))) 3 (upd (m 3) (60 * 0 + n) 1)) 4 (mMakeF 0 p4 (m 4))) 15 (fun _ => (nI (n + 1)))) := by
  obtain ⟨⟨e0, e1, e2, e9, e10, e11, e12⟩, ⟨hn, hm, h60, hw, hmw, h3, hr⟩, hp, hsl, ⟨hS, hC, hZ⟩, hcl, hF, hRf, hMv⟩ := id hs
  obtain ⟨hlt, q1, q2, q3, q4, q5⟩ := sim_makeOk hz
  have v1 := hon_vC hS q2
  have v2 := hon_vC hS q3
  have hsq := slots_eq (p3 := p3) hlt p4 v1 (m 2)
  unfold Sim
  simp only [gS_1, gS_2, gL_1, gL_2, mS_at, Nat.reduceEqDiff, ↓reduceIte]
  refine ⟨⟨by rw [e0], by rw [e1], by rw [e2]; exact hsq, e9, e10, e11, e12⟩, ⟨nI_1 n, rfl, by omega, hw, hmw, h3, hr⟩, pv_add hp v1 v2, slots_val hlt v1 q4 hsl, ⟨?_, ?_, ?_⟩, ?_, ?_, ?_, ?_⟩
  · exact com_add hlt hS
  · exact com_oth hlt (by decide) hC (hZ 1 n (by omega) (Nat.le_refl n) hlt)
  · intro c k hc2 h1 h2
    rw [upd_n _ _ (show 60 * c + k ≠ 60 * 0 + n by omega)]
    exact hZ c k hc2 (by omega) h2
  · intro k hk hb hlk
    obtain ⟨j, hj, hpar, hnot⟩ := hlk
    by_cases e : k = n
    · subst e
      unfold Par at hpar
      rw [upd_s, upd_s] at hpar
      refine hnot ((Bt_or _ _ _).mpr (Or.inl ?_))
      have hpick : ∀ c : Int32, ¬ xHoN (x.2 0) c = 0 → c = nI j → Bt (x.2 0) j := fun c h1 h2 => by
        rcases hon_ne hS h1 with h4 | ⟨i, h4, h5, h6⟩
        · exact absurd (h2.symm.trans h4) (nI_m1 (by omega))
        · rw [(nI_eq (by omega) (by omega)).mp (h2.symm.trans h5)]
          exact h6
      exact hpar.elim (hpick p1 q2) (hpick p2 q3)
    · have hk2 : k < n := by omega
      refine hcl k hk2 ?_ ⟨j, hj, (par_upd p1 p2 hk2).mp hpar, fun h => hnot ((Bt_or _ _ _).mpr (Or.inl h))⟩
      rcases (Bt_or _ _ _).mp hb with h | h
      · exact h
      · exact absurd ((nI_eq (by omega) (by omega)).mp ((Bt_set _ _).mp h).2).symm e
  · intro f hf
    exact ⟨addF_fil q4 0 (fun f hf => (hF f hf).1) f hf, by rw [makeF_other (by decide) p4 _ q4 hf]; exact (hF f hf).2⟩
  · intro r hr4
    obtain ⟨g1, g2, g3⟩ := hRf r hr4
    exact ⟨g1, g2, g3.elim Or.inl (fun ⟨j, h1, h2, h4⟩ => Or.inr ⟨j, by omega, h2, (Bt_or _ _ _).mpr (Or.inl h4)⟩)⟩
  · intro i hi
    obtain ⟨g1, g2, g3⟩ := hMv i hi
    exact ⟨g1, vC_mono g2, vC_mono g3⟩
theorem sim_make_1 {n w : Nat} {x : SX} {m : SM} (hs : Sim n w x m) {p1 p2 p3 p4 : Int32} (hz : xMakeC n (x.2 1) p1 p2 p3 p4 = 0) :
    Sim (n + 1) w (gL (gS (gS (gS (gS (gS x 0 (upd (x.1 0) n p1)) 1 (upd (x.1 1) n p2)) 2 (xSlots n p1 p3 p4 (x.1 2))) 7 (xAddF (x.1 7) p4)) 15 (fun _ => (nI n + 1))) 1 ((x.2 1) ||| (xSet (nI n))))
      (mS (mS (mS (mS (mS (mS (mS m 14 (fun _ => 0)) 0 (upd (m 0) n p1)) 1 (upd (m 1) n p2)) 2 (mMakeS n p1 p3 p4 (m 2))) 3 (upd (m 3) (60 * 1 + n) 1)) 4 (mMakeF 1 p4 (m 4))) 15 (fun _ => (nI (n + 1)))) := by
  obtain ⟨⟨e0, e1, e2, e9, e10, e11, e12⟩, ⟨hn, hm, h60, hw, hmw, h3, hr⟩, hp, hsl, ⟨hS, hC, hZ⟩, hcl, hF, hRf, hMv⟩ := id hs
  obtain ⟨hlt, q1, q2, q3, q4, q5⟩ := sim_makeOk hz
  have v1 := hon_vC hC q2
  have v2 := hon_vC hC q3
  have hsq := slots_eq (p3 := p3) hlt p4 v1 (m 2)
  unfold Sim
  simp only [gS_1, gS_2, gL_1, gL_2, mS_at, Nat.reduceEqDiff, ↓reduceIte]
  refine ⟨⟨by rw [e0], by rw [e1], by rw [e2]; exact hsq, e9, e10, e11, e12⟩, ⟨nI_1 n, rfl, by omega, hw, hmw, h3, hr⟩, pv_add hp v1 v2, slots_val hlt v1 q4 hsl, ⟨?_, ?_, ?_⟩, ?_, ?_, ?_, ?_⟩
  · exact com_oth hlt (by decide) hS (hZ 0 n (by omega) (Nat.le_refl n) hlt)
  · exact com_add hlt hC
  · intro c k hc2 h1 h2
    rw [upd_n _ _ (show 60 * c + k ≠ 60 * 1 + n by omega)]
    exact hZ c k hc2 (by omega) h2
  · intro k hk hb hlk
    obtain ⟨j, hj, hpar, hnot⟩ := hlk
    have hk2 : k < n := ((hS k).mp hb).1
    exact hcl k hk2 hb ⟨j, hj, (par_upd p1 p2 hk2).mp hpar, hnot⟩
  · intro f hf
    exact ⟨by rw [makeF_other (by decide) p4 _ q4 hf]; exact (hF f hf).1, addF_fil q4 1 (fun f hf => (hF f hf).2) f hf⟩
  · intro r hr4
    obtain ⟨g1, g2, g3⟩ := hRf r hr4
    exact ⟨g1, g2, g3.elim Or.inl (fun ⟨j, h1, h2, h4⟩ => Or.inr ⟨j, by omega, h2, h4⟩)⟩
  · intro i hi
    obtain ⟨g1, g2, g3⟩ := hMv i hi
    exact ⟨g1, vC_mono g2, vC_mono g3⟩
