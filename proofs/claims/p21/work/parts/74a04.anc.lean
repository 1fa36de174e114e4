/-! ANCESTORS: the class's pass and the reference's marks -/
def RM (n : Nat) (s : Int64) (P : Nat → Prop) : Prop := ∀ k, Bt s k ↔ k < n ∧ P k
def Hc (hc : Nat → Int32) (b : Nat) : Nat → Prop := fun k => ¬ hc (60 * b + k) = 0
def Nz (f : Nat → Int32) : Nat → Prop := fun k => ¬ f k = 0
theorem pu_lk1 {n k : Nat} {hc : Nat → Int32} {b : Nat} (hn : n ≤ 60) (hk : k < n) {c : Int32} (hv : c = -1 ∨ ∃ j : Nat, j < k ∧ c = nI j) : (¬ c = -1 ∧ mHas n hc b c = 0) ↔ ∃ j : Nat, j < 60 ∧ c = nI j ∧ ¬ Hc hc b j := by
  unfold Hc
  rcases hv with rfl | ⟨j, hj, rfl⟩
  · constructor
    · rintro ⟨h, -⟩
      exact absurd rfl h
    · rintro ⟨i, hi, h, -⟩
      exact absurd h.symm (nI_m1 (by omega))
  · rw [mHas_0 hn (by omega)]
    constructor
    · rintro ⟨-, h⟩
      exact ⟨j, by omega, rfl, fun h2 => h2 h⟩
    · rintro ⟨i, hi, h, h2⟩
      have h3 : j = i := (nI_eq (by omega) (by omega)).mp h
      subst h3
      exact ⟨nI_m1 (by omega), Classical.byContradiction h2⟩
theorem mLack_nz {n k : Nat} {hc : Nat → Int32} {b : Nat} {fi se : Nat → Int32} (hn : n ≤ 60) (hp : PV n fi se) (hk : k < n) : ¬ mLack n hc b fi se k = 0 ↔ LkP fi se (Hc hc b) k := by
  obtain ⟨h1, h2⟩ := hp k hk
  have a1 := pu_lk1 (hc := hc) (b := b) hn hk h1
  have a2 := pu_lk1 (hc := hc) (b := b) hn hk h2
  have a3 : LkP fi se (Hc hc b) k ↔ (∃ j : Nat, j < 60 ∧ fi k = nI j ∧ ¬ Hc hc b j) ∨ (∃ j : Nat, j < 60 ∧ se k = nI j ∧ ¬ Hc hc b j) := by
    unfold LkP Par
    constructor
    · rintro ⟨j, h3, h4 | h4, h5⟩
      · exact Or.inl ⟨j, h3, h4, h5⟩
      · exact Or.inr ⟨j, h3, h4, h5⟩
    · rintro (⟨j, h3, h4, h5⟩ | ⟨j, h3, h4, h5⟩)
      · exact ⟨j, h3, Or.inl h4, h5⟩
      · exact ⟨j, h3, Or.inr h4, h5⟩
  rw [a3, ← a1, ← a2]
  unfold mLack mLack2
  by_cases c1 : fi k = -1 <;> by_cases c2 : se k = -1 <;> by_cases c3 : mHas n hc b (fi k) = 0 <;> by_cases c4 : mHas n hc b (se k) = 0 <;> simp [c1, c2, c3, c4]
theorem mShal_nz {n k : Nat} {hc : Nat → Int32} {fi se : Nat → Int32} (hn : n ≤ 60) (hp : PV n fi se) (hk : k < n) : ¬ mShal n hc fi se k = 0 ↔ Hc hc 1 k ∧ LkP fi se (Hc hc 1) k := by
  have a1 := mLack_nz (hc := hc) (b := 1) hn hp hk
  have a2 := mHas_0 (hc := hc) (b := 1) hn hk
  unfold mShal
  by_cases c1 : mHas n hc 1 (nI k) = 0
  · rw [if_pos c1]
    exact ⟨fun h => absurd rfl h, fun h => absurd (a2.mp c1) h.1⟩
  · rw [if_neg c1]
    by_cases c2 : mLack n hc 1 fi se k = 0
    · rw [if_pos c2]
      exact ⟨fun h => absurd rfl h, fun h => absurd c2 (a1.mpr h.2)⟩
    · rw [if_neg c2]
      exact ⟨fun _ => ⟨fun h => c1 (a2.mpr h), a1.mp c2⟩, fun _ => by decide⟩
/-- the same lack, of a long and of flags -/
theorem pu_lkc {n : Nat} {fp sp : Nat → Int32} (hn : n ≤ 60) (hp : PV n fp sp) {held : Int64} {P : Nat → Prop} (hH : RM n held P) {k : Nat} (hk : k < n) : LkP fp sp (Bt held) k ↔ LkP fp sp P k := by
  constructor
  · rintro ⟨j, h1, h2, h3⟩
    exact ⟨j, h1, h2, fun h4 => h3 ((hH j).mpr ⟨by have := Par_lt hp hn hk (by omega) h2; omega, h4⟩)⟩
  · rintro ⟨j, h1, h2, h3⟩
    exact ⟨j, h1, h2, fun h4 => h3 ((hH j).mp h4).2⟩
theorem pu_add {n : Nat} {fp sp : Nat → Int32} {hc : Nat → Int32} {b : Nat} (hn : n ≤ 60) (hp : PV n fp sp) {held fd : Int64} {mk : Nat → Int32} (hH : RM n held (Hc hc b)) {k : Nat} (hk : k < n) (hl : ¬ LkP fp sp (Bt held) k)
    (hR : RM n fd (Nz mk) ∧ ∀ j, Bt fd j → Bt held j) : RM n (fd ||| xPar n fp sp (nI k)) (Nz (mMark n hc b (mMark n hc b mk (fp k)) (sp k))) ∧ ∀ j, Bt (fd ||| xPar n fp sp (nI k)) j → Bt held j := by
  have hh : ∀ j, j < 60 → Par fp sp k j → Bt held j := fun j h1 h2 => Classical.byContradiction (fun h3 => hl ⟨j, h1, h2, h3⟩)
  constructor
  · intro j
    unfold Nz
    rw [Bt_or, Bt_par hn hk, mMark_nz hn, mMark_nz hn, hR.1 j]
    constructor
    · rintro (⟨h1, h2⟩ | ⟨h1, h2⟩)
      · exact ⟨h1, Or.inl (Or.inl h2)⟩
      · have h3 := Par_lt hp hn hk (by omega) h2
        have h4 := ((hH j).mp (hh j h1 h2)).2
        rcases h2 with h2 | h2
        · exact ⟨by omega, Or.inl (Or.inr ⟨by omega, h2, h4⟩)⟩
        · exact ⟨by omega, Or.inr ⟨by omega, h2, h4⟩⟩
    · rintro ⟨h1, (h2 | ⟨h2, h3, h4⟩) | ⟨h2, h3, h4⟩⟩
      · exact Or.inl ⟨h1, h2⟩
      · exact Or.inr ⟨by omega, Or.inl h3⟩
      · exact Or.inr ⟨by omega, Or.inr h3⟩
  · intro j h
    rcases (Bt_or _ _ _).mp h with h | h
    · exact hR.2 j h
    · obtain ⟨h1, h2⟩ := (Bt_par hn hk j).mp h
      exact hh j h1 h2
/-- one step of the class, told by bits -/
theorem pu_step {n : Nat} {fp sp : Nat → Int32} (hn : n ≤ 60) (held fd : Int64) {k : Nat} (hk : k < n) : (Bt fd k ∧ ¬ Bt (xShallow n fp sp held) k → xAncStep n fp sp (xShallow n fp sp held) k fd = fd ||| xPar n fp sp (nI k)) ∧ (¬ (Bt fd k ∧ ¬ Bt (xShallow n fp sp held) k) → xAncStep n fp sp (xShallow n fp sp held) k fd = fd) := by
  have h := xCon_0 (fd &&& (xShallow n fp sp held ^^^ (-1))) (k := k) (by omega)
  rw [Bt_wo] at h
  unfold xAncStep
  exact ⟨fun h1 => if_neg (fun h2 => h.mp h2 h1), fun h1 => if_pos (h.mpr h1)⟩
theorem anc_1 {n : Nat} {fp sp : Nat → Int32} {hc : Nat → Int32} (hn : n ≤ 60) (hp : PV n fp sp) {held s : Int64} {mk : Nat → Int32} (hH : RM n held (Hc hc 1)) (hs : RM n (s &&& held) (Nz mk)) :
    RM n (xAnc n fp sp s held) (Nz (mOn1 n hc fp sp mk)) ∧ ∀ j, Bt (xAnc n fp sp s held) j → Bt held j := by
  unfold xAnc mOn1
  refine itD_rel (fun fd mk => RM n fd (Nz mk) ∧ ∀ j, Bt fd j → Bt held j) n (fun k hk fd mk hR => ?_) _ _ ⟨hs, fun j h => ((Bt_and _ _ _).mp h).2⟩
  obtain ⟨s1, s2⟩ := pu_step (fp := fp) (sp := sp) hn held fd hk
  have hm := mShal_nz (hc := hc) hn hp hk
  have hl := pu_lkc hn hp hH hk
  unfold mOnStep1
  by_cases c1 : mk k = 0
  · rw [if_pos c1, s2 (fun h => ((hR.1 k).mp h.1).2 c1)]
    exact hR
  · have hb : Bt fd k := (hR.1 k).mpr ⟨hk, c1⟩
    rw [if_neg c1]
    by_cases c2 : mShal n hc fp sp k = 0
    · rw [if_pos c2]
      have hl2 : ¬ LkP fp sp (Bt held) k := fun h => hm.mpr ⟨((hH k).mp (hR.2 k hb)).2, hl.mp h⟩ c2
      rw [s1 ⟨hb, fun h => hl2 ((Bt_shallow hn held k).mp h).2.2⟩]
      exact pu_add hn hp hH hk hl2 hR
    · rw [if_neg c2, s2 (fun h => h.2 ((Bt_shallow hn held k).mpr ⟨hk, hR.2 k hb, hl.mpr (hm.mp c2).2⟩))]
      exact hR
/-- a store that has all parents of what it has -/
def Closed (n : Nat) (fp sp : Nat → Int32) (S : Nat → Prop) : Prop := ∀ k, k < n → S k → ¬ LkP fp sp S k
theorem shallow_0 {n : Nat} {fp sp : Nat → Int32} (hn : n ≤ 60) {held : Int64} (hcl : Closed n fp sp (Bt held)) (k : Nat) : ¬ Bt (xShallow n fp sp held) k := fun h => by
  obtain ⟨h1, h2, h3⟩ := (Bt_shallow hn held k).mp h
  exact hcl k h1 h2 h3
theorem anc_0 {n : Nat} {fp sp : Nat → Int32} {hc : Nat → Int32} (hn : n ≤ 60) (hp : PV n fp sp) {held s : Int64} {mk : Nat → Int32} (hH : RM n held (Hc hc 0)) (hcl : Closed n fp sp (Bt held)) (hs : RM n (s &&& held) (Nz mk)) :
    RM n (xAnc n fp sp s held) (Nz (mOn0 n hc fp sp mk)) ∧ ∀ j, Bt (xAnc n fp sp s held) j → Bt held j := by
  unfold xAnc mOn0
  refine itD_rel (fun fd mk => RM n fd (Nz mk) ∧ ∀ j, Bt fd j → Bt held j) n (fun k hk fd mk hR => ?_) _ _ ⟨hs, fun j h => ((Bt_and _ _ _).mp h).2⟩
  obtain ⟨s1, s2⟩ := pu_step (fp := fp) (sp := sp) hn held fd hk
  unfold mOnStep0
  by_cases c1 : mk k = 0
  · rw [if_pos c1, s2 (fun h => ((hR.1 k).mp h.1).2 c1)]
    exact hR
  · have hb : Bt fd k := (hR.1 k).mpr ⟨hk, c1⟩
    rw [if_neg c1, s1 ⟨hb, shallow_0 hn hcl k⟩]
    exact pu_add hn hp hH hk (hcl k hk (hR.2 k hb)) hR
/-- the starts are in -/
theorem anc_in {n : Nat} {fp sp : Nat → Int32} (hn : n ≤ 60) {held s : Int64} {j : Nat} (h : Bt s j ∧ Bt held j) : Bt (xAnc n fp sp s held) j := by
  unfold xAnc
  refine itD_inv (fun _ fd => Bt fd j) n (fun k hk fd hR => ?_) _ ((Bt_and _ _ _).mpr h)
  obtain ⟨s1, s2⟩ := pu_step (fp := fp) (sp := sp) hn held fd hk
  by_cases c : Bt fd k ∧ ¬ Bt (xShallow n fp sp held) k
  · rw [s1 c]
    exact (Bt_or _ _ _).mpr (Or.inl hR)
  · rw [s2 c]
    exact hR
/-- parents of what isn't shallow are in -/
theorem anc_up {n : Nat} {fp sp : Nat → Int32} (hn : n ≤ 60) (hp : PV n fp sp) {held s : Int64} {k j : Nat} (hk : k < n) (h : Bt (xAnc n fp sp s held) k) (hu : ¬ Bt (xShallow n fp sp held) k) (hj : j < 60) (hpar : Par fp sp k j) : Bt (xAnc n fp sp s held) j := by
  have key : ∀ k, 0 ≤ k → k < n → Bt (xAnc n fp sp s held) k → ¬ Bt (xShallow n fp sp held) k → ∀ j, j < 60 → Par fp sp k j → Bt (xAnc n fp sp s held) j := by
    unfold xAnc
    refine itD_inv (fun d fd => ∀ k, d ≤ k → k < n → Bt fd k → ¬ Bt (xShallow n fp sp held) k → ∀ j, j < 60 → Par fp sp k j → Bt fd j) n (fun i hi fd hR => ?_) _ (fun k h1 h2 => absurd h2 (by omega))
    obtain ⟨s1, s2⟩ := pu_step (fp := fp) (sp := sp) hn held fd hi
    by_cases c : Bt fd i ∧ ¬ Bt (xShallow n fp sp held) i
    · rw [s1 c]
      intro k h1 h2 h3 h4 j h5 h6
      rw [Bt_or, Bt_par hn hi] at h3 ⊢
      by_cases e : k = i
      · subst e
        exact Or.inr ⟨h5, h6⟩
      · refine Or.inl (hR k (by omega) h2 (h3.elim id (fun h7 => ?_)) h4 j h5 h6)
        exact absurd (Par_lt hp hn hi (by omega) h7.2) (by omega)
    · rw [s2 c]
      intro k h1 h2 h3 h4 j h5 h6
      by_cases e : k = i
      · subst e
        exact absurd ⟨h3, h4⟩ c
      · exact hR k (by omega) h2 h3 h4 j h5 h6
  exact key k (Nat.zero_le k) hk h hu j hj hpar
/-- and nothing else -/
theorem anc_least {n : Nat} {fp sp : Nat → Int32} (hn : n ≤ 60) {held s : Int64} (T : Nat → Prop) (h0 : ∀ j, Bt s j → Bt held j → T j) (h1 : ∀ k, k < n → T k → ¬ Bt (xShallow n fp sp held) k → ∀ j, j < 60 → Par fp sp k j → T j) : ∀ j, Bt (xAnc n fp sp s held) j → T j := by
  unfold xAnc
  refine itD_inv (fun _ fd => ∀ j, Bt fd j → T j) n (fun k hk fd hR => ?_) _ (fun j h => h0 j ((Bt_and _ _ _).mp h).1 ((Bt_and _ _ _).mp h).2)
  obtain ⟨s1, s2⟩ := pu_step (fp := fp) (sp := sp) hn held fd hk
  by_cases c : Bt fd k ∧ ¬ Bt (xShallow n fp sp held) k
  · rw [s1 c]
    intro j h
    rcases (Bt_or _ _ _).mp h with h | h
    · exact hR j h
    · obtain ⟨h2, h3⟩ := (Bt_par hn hk j).mp h
      exact h1 k hk (hR k c.1) c.2 j h2 h3
  · rw [s2 c]
    exact hR
theorem anc_mono {n : Nat} {fp sp : Nat → Int32} (hn : n ≤ 60) (hp : PV n fp sp) {held s t : Int64} (h : ∀ j, Bt s j → Bt t j) : ∀ j, Bt (xAnc n fp sp s held) j → Bt (xAnc n fp sp t held) j :=
  anc_least hn (fun j => Bt (xAnc n fp sp t held) j) (fun j h1 h2 => anc_in hn ⟨h j h1, h2⟩) (fun _ hk h1 h2 _ hj h3 => anc_up hn hp hk h1 h2 hj h3)
theorem anc_or {n : Nat} {fp sp : Nat → Int32} (hn : n ≤ 60) (hp : PV n fp sp) {held s t : Int64} (j : Nat) : Bt (xAnc n fp sp (s ||| t) held) j ↔ Bt (xAnc n fp sp s held) j ∨ Bt (xAnc n fp sp t held) j := by
  constructor
  · refine anc_least hn (fun j => Bt (xAnc n fp sp s held) j ∨ Bt (xAnc n fp sp t held) j) (fun j h1 h2 => ?_) (fun k hk h1 h2 i hi h3 => ?_) j
    · rcases (Bt_or _ _ _).mp h1 with h | h
      · exact Or.inl (anc_in hn ⟨h, h2⟩)
      · exact Or.inr (anc_in hn ⟨h, h2⟩)
    · rcases h1 with h | h
      · exact Or.inl (anc_up hn hp hk h h2 hi h3)
      · exact Or.inr (anc_up hn hp hk h h2 hi h3)
  · rintro (h | h)
    · exact anc_mono hn hp (fun j h => (Bt_or _ _ _).mpr (Or.inl h)) j h
    · exact anc_mono hn hp (fun j h => (Bt_or _ _ _).mpr (Or.inr h)) j h
theorem anc_none {n : Nat} {fp sp : Nat → Int32} (hn : n ≤ 60) {held s : Int64} (h : ∀ j, ¬ (Bt s j ∧ Bt held j)) (j : Nat) : ¬ Bt (xAnc n fp sp s held) j :=
  anc_least (T := fun _ => False) hn (fun j h1 h2 => h j ⟨h1, h2⟩) (fun _ _ h1 => h1.elim) j
/-- the marks from one commit -/
theorem RM_from {n : Nat} {hc : Nat → Int32} {b : Nat} (hn : n ≤ 60) {held : Int64} (hH : RM n held (Hc hc b)) (mk : Nat → Int32) (c : Int32) : RM n (xSet c &&& held) (Nz (mMark n hc b (mClr mk) c)) := by
  intro k
  unfold Nz
  rw [Bt_and, Bt_set, mMark_nz hn, hH k]
  constructor
  · rintro ⟨⟨-, h1⟩, h2, h3⟩
    exact ⟨h2, Or.inr ⟨h2, h1, h3⟩⟩
  · rintro ⟨h1, h2 | ⟨-, h2, h3⟩⟩
    · exact absurd (mClr_0 mk (by omega)) h2
    · exact ⟨⟨by omega, h2⟩, h1, h3⟩
theorem from_1 {n : Nat} {fp sp : Nat → Int32} {hc : Nat → Int32} (hn : n ≤ 60) (hp : PV n fp sp) {held : Int64} (hH : RM n held (Hc hc 1)) (mk : Nat → Int32) (c : Int32) :
    RM n (xAnc n fp sp (xSet c) held) (Nz (mFrom1 n hc fp sp mk c)) ∧ ∀ j, Bt (xAnc n fp sp (xSet c) held) j → Bt held j := anc_1 hn hp hH (RM_from hn hH mk c)
theorem from_0 {n : Nat} {fp sp : Nat → Int32} {hc : Nat → Int32} (hn : n ≤ 60) (hp : PV n fp sp) {held : Int64} (hH : RM n held (Hc hc 0)) (hcl : Closed n fp sp (Bt held)) (mk : Nat → Int32) (c : Int32) :
    RM n (xAnc n fp sp (xSet c) held) (Nz (mFrom0 n hc fp sp mk c)) ∧ ∀ j, Bt (xAnc n fp sp (xSet c) held) j → Bt held j := anc_0 hn hp hH hcl (RM_from hn hH mk c)
