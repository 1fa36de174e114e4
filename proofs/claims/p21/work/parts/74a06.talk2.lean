/-! THE TALK, whole -/
/-- one round: what the class tells (R), what is common then -/
theorem round_rel {n : Nat} {fp sp hc : Nat → Int32} {srv cli : Int64} (hn : n ≤ 60) (hp : PV n fp sp) (hS : RM n srv (Hc hc 0)) (hC : RM n cli (Hc hc 1)) (cm un : Int64) (ma cm' wt : Nat → Int32) (h1 : RM n cm (Nz cm')) (h2 : ∀ j, Bt un j ↔ j < n ∧ Cand hc cm' wt j) (h3 : ∀ j, Bt cm j → Bt cli j) (h4 : ∀ j, j < n → ¬ wt j = 0 → Hc hc 0 j → Bt cm j) :
    ((mTellL n hc cm' n 0 (mClr ma) wt).1 = 0 ↔ un = 0) ∧
    RM n (cm ||| xAnc n fp sp (xHi un 4 &&& srv) cli) (Nz (mCm (mOn1 n hc fp sp (mTellL n hc cm' n 0 (mClr ma) wt).2.1) cm')) ∧
    (∀ j, Bt (un &&& ((xHi un 4 ^^^ (-1)) &&& ((cm ||| xAnc n fp sp (xHi un 4 &&& srv) cli) ^^^ (-1)))) j ↔ j < n ∧ Cand hc (mCm (mOn1 n hc fp sp (mTellL n hc cm' n 0 (mClr ma) wt).2.1) cm') (mTellL n hc cm' n 0 (mClr ma) wt).2.2 j) ∧
    (∀ j, Bt (cm ||| xAnc n fp sp (xHi un 4 &&& srv) cli) j → Bt cli j) ∧
    (∀ j, j < n → ¬ (mTellL n hc cm' n 0 (mClr ma) wt).2.2 j = 0 → Hc hc 0 j → Bt (cm ||| xAnc n fp sp (xHi un 4 &&& srv) cli) j) ∧
    (un = 0 → ∀ j, ¬ Bt (xAnc n fp sp (xHi un 4 &&& srv) cli) j) := by
  have hR : xHi un 4 = xHiL un n (nI (4 - 0)) 0 := by
    have := xHiL_hi (s := un) (n := n) (fun j hj h => absurd ((h2 j).mp h).1 (by omega)) (60 - n) 4 0 (by omega)
    rw [show n + (60 - n) = 60 from by omega] at this
    exact this
  have hu0 : un = 0 ↔ ∀ j, ¬ (j < n ∧ Cand hc cm' wt j) := by
    rw [Bt_eq0]
    exact ⟨fun h j hj => h j ((h2 j).mpr hj), fun h j hj => h j ((h2 j).mp hj)⟩
  obtain ⟨k1, -⟩ := tell_rel (cm := cm') (un := un) (hc := hc) hn n 0 0 (mClr ma) wt (Nat.le_refl n) (Nat.zero_le 4) (fun j hj => (h2 j).trans ⟨fun h => h.2, fun h => ⟨hj, h⟩⟩) (fun j _ => Bt_0 j) (fun j hj => mClr_0 ma (by omega))
  have hcnt : (mTellL n hc cm' n 0 (mClr ma) wt).1 = 0 ↔ un = 0 := by
    rw [hu0]
    constructor
    · intro h j hj
      have := tell_some n hc cm' hn n 0 (mClr ma) wt (Nat.le_refl n) (by omega) ⟨j, hj.1, hj.2⟩
      omega
    · intro h
      exact tell_none n hc cm' hn n 0 (mClr ma) wt (Nat.le_refl n) (fun j hj hc2 => h j ⟨hj, hc2⟩)
  have hRu : ∀ j, Bt (xHi un 4) j → Bt un j := by
    intro j hj
    rw [hR] at hj
    by_cases hjn : j < n
    · exact (k1 j hjn).1 hj
    · have := (tell_rel (cm := cm') (un := un) (hc := hc) hn n 0 0 (mClr ma) wt (Nat.le_refl n) (Nat.zero_le 4) (fun j hj => (h2 j).trans ⟨fun h => h.2, fun h => ⟨hj, h⟩⟩) (fun j _ => Bt_0 j) (fun j hj => mClr_0 ma (by omega))).2 j (by omega)
      exact absurd (this.1.mp hj) (Bt_0 j)
  rw [← hR] at k1
  generalize mTellL n hc cm' n 0 (mClr ma) wt = r at k1 hcnt ⊢
  have hst : RM n ((xHi un 4 &&& srv) &&& cli) (Nz r.2.1) := by
    intro j
    rw [Bt_and, Bt_and]
    constructor
    · rintro ⟨⟨h5, h6⟩, -⟩
      have hj := ((hS j).mp h6).1
      exact ⟨hj, (k1 j hj).2.2.mpr ⟨h5, ((hS j).mp h6).2⟩⟩
    · rintro ⟨h5, h6⟩
      obtain ⟨h7, h8⟩ := (k1 j h5).2.2.mp h6
      exact ⟨⟨h7, (hS j).mpr ⟨h5, h8⟩⟩, (hC j).mpr ⟨h5, ((h2 j).mp (hRu j h7)).2.1⟩⟩
  obtain ⟨a1, a2⟩ := anc_1 hn hp hC hst
  have hcm : RM n (cm ||| xAnc n fp sp (xHi un 4 &&& srv) cli) (Nz (mCm (mOn1 n hc fp sp r.2.1) cm')) := by
    intro j
    rw [Bt_or, h1 j, a1 j]
    unfold Nz
    constructor
    · rintro (⟨h5, h6⟩ | ⟨h5, h6⟩)
      · exact ⟨h5, (mCm_nz _ _ (by omega)).mpr (Or.inl h6)⟩
      · exact ⟨h5, (mCm_nz _ _ (by omega)).mpr (Or.inr h6)⟩
    · rintro ⟨h5, h6⟩
      rcases (mCm_nz _ _ (by omega)).mp h6 with h7 | h7
      · exact Or.inl ⟨h5, h7⟩
      · exact Or.inr ⟨h5, h7⟩
  refine ⟨hcnt, hcm, ?_, ?_, ?_, ?_⟩
  · intro j
    rw [Bt_and, Bt_and]
    constructor
    · rintro ⟨h5, h6, h7⟩
      obtain ⟨h8, h9⟩ := (h2 j).mp h5
      have h6 := (Bt_not _ (by omega)).mp h6
      have h7 := (Bt_not _ (by omega)).mp h7
      refine ⟨h8, h9.1, Classical.byContradiction (fun h10 => h7 ((hcm j).mpr ⟨h8, h10⟩)), Classical.byContradiction (fun h10 => ?_)⟩
      rcases (k1 j h8).2.1.mp h10 with h11 | h11
      · exact h11 h9.2.2
      · exact h6 h11
    · rintro ⟨h5, h6, h7, h8⟩
      have h9 : ¬ (¬ wt j = 0 ∨ Bt (xHi un 4) j) := fun h => (k1 j h5).2.1.mpr h h8
      have h10 : ¬ Bt (cm ||| xAnc n fp sp (xHi un 4 &&& srv) cli) j := fun h => ((hcm j).mp h).2 h7
      refine ⟨(h2 j).mpr ⟨h5, h6, Classical.byContradiction (fun h11 => h10 ((Bt_or _ _ _).mpr (Or.inl ((h1 j).mpr ⟨h5, h11⟩)))), Classical.byContradiction (fun h11 => h9 (Or.inl h11))⟩, (Bt_not _ (by omega)).mpr (fun h => h9 (Or.inr h)), (Bt_not _ (by omega)).mpr h10⟩
  · intro j h
    rcases (Bt_or _ _ _).mp h with h | h
    · exact h3 j h
    · exact a2 j h
  · intro j hj h5 h6
    rw [Bt_or]
    rcases (k1 j hj).2.1.mp h5 with h7 | h7
    · exact Or.inl (h4 j hj h7 h6)
    · exact Or.inr (anc_in hn ⟨(Bt_and _ _ _).mpr ⟨h7, (hS j).mpr ⟨hj, h6⟩⟩, (hC j).mpr ⟨hj, ((h2 j).mp (hRu j h7)).2.1⟩⟩)
  · intro h j
    refine anc_none hn (fun i hi => ?_) j
    have h5 := hRu i ((Bt_and _ _ _).mp hi.1).1
    rw [h] at h5
    exact Bt_0 i h5
theorem talk_rel {n : Nat} {fp sp hc : Nat → Int32} {srv cli : Int64} (hn : n ≤ 60) (hp : PV n fp sp) (hS : RM n srv (Hc hc 0)) (hC : RM n cli (Hc hc 1)) : ∀ (d k : Nat) (cm un : Int64) (ma cm' wt : Nat → Int32), RM n cm (Nz cm') → (∀ j, Bt un j ↔ j < n ∧ Cand hc cm' wt j) → (∀ j, Bt cm j → Bt cli j) → (∀ j, j < n → ¬ wt j = 0 → Hc hc 0 j → Bt cm j) → mUnt wt ≤ d →
    (xTalkL n fp sp srv cli d k cm un).2 = (mTalkL n hc fp sp d k ma cm' wt).1 ∧ RM n (xTalkL n fp sp srv cli d k cm un).1 (Nz (mTalkL n hc fp sp d k ma cm' wt).2.2.1) ∧ (∀ j, Bt (xTalkL n fp sp srv cli d k cm un).1 j → Bt cli j) ∧ (∀ j, Bt srv j → Bt cli j → Bt (xTalkL n fp sp srv cli d k cm un).1 j) := by
  intro d
  induction d with
  | zero =>
    intro k cm un ma cm' wt h1 h2 h3 h4 h5
    obtain ⟨r1, r2, r3, r4, r5, r6⟩ := round_rel hn hp hS hC cm un ma cm' wt h1 h2 h3 h4
    have hu := mTell_unt n hc cm' n 0 (mClr ma) wt hn
    have h0 : un = 0 := r1.mp (by omega)
    have hstop : RM n cm (Nz (mCm (mOn1 n hc fp sp (mTellL n hc cm' n 0 (mClr ma) wt).2.1) cm')) := fun j => by
      rw [← r2 j, Bt_or]
      exact ⟨fun h => Or.inl h, fun h => h.elim id (fun h => absurd h (r6 h0 j))⟩
    refine ⟨rfl, hstop, h3, fun j g1 g2 => ?_⟩
    obtain ⟨g3, g4⟩ := (hS j).mp g1
    obtain ⟨-, g5⟩ := (hC j).mp g2
    refine Classical.byContradiction (fun g6 => ?_)
    have g7 : ¬ Bt un j := by rw [h0]; exact Bt_0 j
    exact g7 ((h2 j).mpr ⟨g3, g5, Classical.byContradiction (fun g8 => g6 ((h1 j).mpr ⟨g3, g8⟩)), Classical.byContradiction (fun g8 => g6 (h4 j g3 g8 g4))⟩)
  | succ d ih =>
    intro k cm un ma cm' wt h1 h2 h3 h4 h5
    obtain ⟨r1, r2, r3, r4, r5, r6⟩ := round_rel hn hp hS hC cm un ma cm' wt h1 h2 h3 h4
    have hu := mTell_unt n hc cm' n 0 (mClr ma) wt hn
    by_cases h0 : un = 0
    · have e1 : xTalkL n fp sp srv cli (d + 1) k cm un = (cm, k) := if_pos h0
      have e2 : mTalkL n hc fp sp (d + 1) k ma cm' wt = (k, mOn1 n hc fp sp (mTellL n hc cm' n 0 (mClr ma) wt).2.1, mCm (mOn1 n hc fp sp (mTellL n hc cm' n 0 (mClr ma) wt).2.1) cm', (mTellL n hc cm' n 0 (mClr ma) wt).2.2) := if_pos (r1.mpr h0)
      rw [e1, e2]
      have hstop : RM n cm (Nz (mCm (mOn1 n hc fp sp (mTellL n hc cm' n 0 (mClr ma) wt).2.1) cm')) := fun j => by
        rw [← r2 j, Bt_or]
        exact ⟨fun h => Or.inl h, fun h => h.elim id (fun h => absurd h (r6 h0 j))⟩
      refine ⟨rfl, hstop, h3, fun j g1 g2 => ?_⟩
      obtain ⟨g3, g4⟩ := (hS j).mp g1
      obtain ⟨-, g5⟩ := (hC j).mp g2
      refine Classical.byContradiction (fun g6 => ?_)
      have g7 : ¬ Bt un j := by rw [h0]; exact Bt_0 j
      exact g7 ((h2 j).mpr ⟨g3, g5, Classical.byContradiction (fun g8 => g6 ((h1 j).mpr ⟨g3, g8⟩)), Classical.byContradiction (fun g8 => g6 (h4 j g3 g8 g4))⟩)
    · have hne : ¬ (mTellL n hc cm' n 0 (mClr ma) wt).1 = 0 := fun h => h0 (r1.mp h)
      have e1 : xTalkL n fp sp srv cli (d + 1) k cm un = xTalkL n fp sp srv cli d (k + 1) (cm ||| xAnc n fp sp (xHi un 4 &&& srv) cli) (un &&& ((xHi un 4 ^^^ (-1)) &&& ((cm ||| xAnc n fp sp (xHi un 4 &&& srv) cli) ^^^ (-1)))) := if_neg h0
      have e2 : mTalkL n hc fp sp (d + 1) k ma cm' wt = mTalkL n hc fp sp d (k + 1) (mOn1 n hc fp sp (mTellL n hc cm' n 0 (mClr ma) wt).2.1) (mCm (mOn1 n hc fp sp (mTellL n hc cm' n 0 (mClr ma) wt).2.1) cm') (mTellL n hc cm' n 0 (mClr ma) wt).2.2 := if_neg hne
      rw [e1, e2]
      exact ih (k + 1) _ _ _ _ _ r2 r3 r4 r5 (by omega)
/-- a talk: as many rounds, the same common ground; what both have is common -/
theorem talk_eq {n : Nat} {fp sp hc : Nat → Int32} {srv cli : Int64} (hn : n ≤ 60) (hp : PV n fp sp) (hS : RM n srv (Hc hc 0)) (hC : RM n cli (Hc hc 1)) (ma cm' wt : Nat → Int32) :
    (xTalk n fp sp srv cli).2 = (mTalk n hc fp sp ma cm' wt).1 ∧ RM n (xTalk n fp sp srv cli).1 (Nz (mTalk n hc fp sp ma cm' wt).2.2.1) ∧ (∀ j, Bt (xTalk n fp sp srv cli).1 j → Bt cli j) ∧ (∀ j, Bt srv j → Bt cli j → Bt (xTalk n fp sp srv cli).1 j) := by
  rw [mTalk_eq]
  unfold xTalk
  refine talk_rel hn hp hS hC 60 0 0 cli ma _ _ (fun j => ⟨fun h => absurd h (Bt_0 j), fun h => absurd (mClr2_0 cm' wt (show j < 60 by omega)).1 h.2⟩) (fun j => ?_) (fun j h => absurd h (Bt_0 j)) (fun j hj h _ => absurd (mClr2_0 cm' wt (show j < 60 by omega)).2 h) (mUnt_le _)
  rw [hC j]
  constructor
  · rintro ⟨h1, h2⟩
    exact ⟨h1, h2, (mClr2_0 cm' wt (show j < 60 by omega)).1, (mClr2_0 cm' wt (show j < 60 by omega)).2⟩
  · rintro ⟨h1, h2, -, -⟩
    exact ⟨h1, h2⟩
