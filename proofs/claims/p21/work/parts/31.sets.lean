/-! SETS: a long's bits, the marks of the reference, the loops -/
theorem nI_m1 {j : Nat} (h : j < 2 ^ 31) : ¬ nI j = -1 := by
  intro e
  have h1 := nI_toInt h
  rw [e] at h1
  have h2 : (-1 : Int32).toInt = -1 := by decide +kernel
  omega
def Bt (s : Int64) (k : Nat) : Prop := s.toBitVec.getLsbD k = true
theorem Bt_lt {s : Int64} {k : Nat} (h : Bt s k) : k < 64 := by
  refine Nat.lt_of_not_le (fun h2 => ?_)
  unfold Bt at h
  rw [BitVec.getLsbD_of_ge _ _ h2] at h
  exact absurd h (by decide)
theorem Bt_and (a b : Int64) (k : Nat) : Bt (a &&& b) k ↔ Bt a k ∧ Bt b k := by
  have h : (a &&& b).toBitVec = a.toBitVec &&& b.toBitVec := rfl
  unfold Bt
  rw [h, BitVec.getLsbD_and, Bool.and_eq_true]
theorem Bt_or (a b : Int64) (k : Nat) : Bt (a ||| b) k ↔ Bt a k ∨ Bt b k := by
  have h : (a ||| b).toBitVec = a.toBitVec ||| b.toBitVec := rfl
  unfold Bt
  rw [h, BitVec.getLsbD_or, Bool.or_eq_true]
theorem Bt_not (a : Int64) {k : Nat} (hk : k < 64) : Bt (a ^^^ (-1)) k ↔ ¬ Bt a k := by
  have h : (a ^^^ (-1)).toBitVec = a.toBitVec ^^^ BitVec.allOnes 64 := rfl
  unfold Bt
  rw [h, BitVec.getLsbD_xor, BitVec.getLsbD_allOnes]
  simp [hk]
/-- without: a and not b -/
theorem Bt_wo (a b : Int64) (k : Nat) : Bt (a &&& (b ^^^ (-1))) k ↔ Bt a k ∧ ¬ Bt b k := by
  rw [Bt_and]
  constructor
  · rintro ⟨h1, h2⟩
    exact ⟨h1, (Bt_not b (Bt_lt h1)).mp h2⟩
  · rintro ⟨h1, h2⟩
    exact ⟨h1, (Bt_not b (Bt_lt h1)).mpr h2⟩
theorem Bt_0 (k : Nat) : ¬ Bt 0 k := by
  have h : (0 : Int64).toBitVec = 0#64 := rfl
  unfold Bt
  rw [h, BitVec.getLsbD_zero]
  decide
theorem Bt_ext {a b : Int64} (h : ∀ k, Bt a k ↔ Bt b k) : a = b := by
  have h1 : a.toBitVec = b.toBitVec := BitVec.eq_of_getLsbD_eq (fun i _ => Bool.eq_iff_iff.mpr (h i))
  exact Int64.toBitVec_inj.mp h1
theorem Bt_eq0 (s : Int64) : s = 0 ↔ ∀ k, ¬ Bt s k := by
  constructor
  · rintro rfl k
    exact Bt_0 k
  · intro h
    exact Bt_ext (fun k => ⟨fun h1 => absurd h1 (h k), fun h1 => absurd h1 (Bt_0 k)⟩)
theorem pu_xSet : ∀ j : Fin 60, (xSet (nI j.val)).toBitVec = BitVec.twoPow 64 j.val := by decide +kernel
theorem xSet_none {c : Int32} (h : ∀ j : Nat, j < 60 → ¬ c = nI j) : xSet c = 0 := by
  rcases pk_ix c (n := 60) (by decide) with h1 | h1 | ⟨j, hj, h1⟩
  · unfold xSet
    rw [if_pos h1]
  · unfold xSet
    by_cases h0 : c < 0
    · rw [if_pos h0]
    · rw [if_neg h0]
      exact if_pos h1
  · exact absurd h1 (h j hj)
theorem Bt_set (c : Int32) (k : Nat) : Bt (xSet c) k ↔ k < 60 ∧ c = nI k := by
  by_cases h : ∃ j : Nat, j < 60 ∧ c = nI j
  · obtain ⟨j, hj, rfl⟩ := h
    unfold Bt
    rw [pu_xSet ⟨j, hj⟩, BitVec.getLsbD_twoPow]
    constructor
    · intro h1
      simp only [Bool.and_eq_true, decide_eq_true_eq] at h1
      obtain ⟨-, rfl⟩ := h1
      exact ⟨hj, rfl⟩
    · rintro ⟨h1, h2⟩
      have h3 : j = k := (nI_eq (by omega) (by omega)).mp h2
      subst h3
      simp only [Bool.and_eq_true, decide_eq_true_eq]
      exact ⟨by omega, trivial⟩
  · rw [xSet_none (fun j hj e => h ⟨j, hj, e⟩)]
    exact ⟨fun h1 => absurd h1 (Bt_0 k), fun h1 => absurd ⟨k, h1⟩ h⟩
theorem xCon_0 (s : Int64) {k : Nat} (hk : k < 60) : xCon s (nI k) = 0 ↔ ¬ Bt s k := by
  have h1 : s &&& xSet (nI k) = 0 ↔ ¬ Bt s k := by
    rw [Bt_eq0]
    constructor
    · intro h h2
      exact h k ((Bt_and _ _ _).mpr ⟨h2, (Bt_set _ _).mpr ⟨hk, rfl⟩⟩)
    · intro h j h2
      obtain ⟨h3, h4⟩ := (Bt_and _ _ _).mp h2
      obtain ⟨h5, h6⟩ := (Bt_set _ _).mp h4
      rw [(nI_eq (by omega) (by omega)).mp h6] at h
      exact h h3
  unfold xCon
  by_cases h : s &&& xSet (nI k) = 0
  · rw [if_pos h]
    exact ⟨fun _ => h1.mp h, fun _ => rfl⟩
  · rw [if_neg h]
    exact ⟨fun h2 => absurd h2 (by decide), fun h2 => absurd (h1.mpr h2) h⟩
theorem xCon_not (s : Int64) {c : Int32} (h : ∀ j : Nat, j < 60 → ¬ c = nI j) : xCon s c = 0 := by
  unfold xCon
  rw [xSet_none h]
  exact if_pos (by rw [Bt_eq0]; intro k h1; exact Bt_0 k ((Bt_and _ _ _).mp h1).2)
/-- xCon of any number -/
theorem xCon_ne (s : Int64) (c : Int32) : ¬ xCon s c = 0 ↔ ∃ j : Nat, j < 60 ∧ c = nI j ∧ Bt s j := by
  constructor
  · intro h
    by_cases h1 : ∃ j : Nat, j < 60 ∧ c = nI j
    · obtain ⟨j, hj, rfl⟩ := h1
      exact ⟨j, hj, rfl, Classical.byContradiction (fun h2 => h ((xCon_0 s hj).mpr h2))⟩
    · exact absurd (xCon_not s (fun j hj e => h1 ⟨j, hj, e⟩)) h
  · rintro ⟨j, hj, rfl, h⟩ h2
    exact (xCon_0 s hj).mp h2 h
theorem xRange_0 {c : Int32} {n : Nat} (hn : n < 2 ^ 31) : ¬ xRange c (nI n) = 0 ↔ ∃ j : Nat, j < n ∧ c = nI j := by
  constructor
  · exact xRange_ne rfl hn
  · rintro ⟨j, hj, rfl⟩
    rw [xRange_in hj hn]
    decide
theorem upd_at (f : Nat → Int32) (k : Nat) (v : Int32) (j : Nat) : upd f k v j = if j = k then v else f j := rfl
theorem upd_s (f : Nat → Int32) (k : Nat) (v : Int32) : upd f k v k = v := if_pos rfl
theorem upd_n (f : Nat → Int32) {k j : Nat} (v : Int32) (h : j ≠ k) : upd f k v j = f j := if_neg h
/-! the loops -/
theorem itD_rel {α β : Type} {f : Nat → α → α} {g : Nat → β → β} (R : α → β → Prop) : ∀ (n : Nat), (∀ k, k < n → ∀ a b, R a b → R (f k a) (g k b)) → ∀ a b, R a b → R (itD f n a) (itD g n b)
  | 0, _, _, _, h => h
  | n + 1, hs, a, b, h => itD_rel R n (fun k hk => hs k (by omega)) (f n a) (g n b) (hs n (by omega) a b h)
/-- falling, with the number in the relation -/
theorem itD_relN {α β : Type} {f : Nat → α → α} {g : Nat → β → β} (R : Nat → α → β → Prop) : ∀ (n : Nat), (∀ k, k < n → ∀ a b, R (k + 1) a b → R k (f k a) (g k b)) → ∀ a b, R n a b → R 0 (itD f n a) (itD g n b)
  | 0, _, _, _, h => h
  | n + 1, hs, a, b, h => itD_relN R n (fun k hk => hs k (by omega)) (f n a) (g n b) (hs n (by omega) a b h)
theorem itD_inv {α : Type} {f : Nat → α → α} (R : Nat → α → Prop) : ∀ (n : Nat), (∀ k, k < n → ∀ a, R (k + 1) a → R k (f k a)) → ∀ a, R n a → R 0 (itD f n a)
  | 0, _, _, h => h
  | n + 1, hs, a, h => itD_inv R n (fun k hk => hs k (by omega)) (f n a) (hs n (by omega) a h)
theorem itU_relN {α β : Type} {f : Nat → α → α} {g : Nat → β → β} (R : Nat → α → β → Prop) : ∀ (d i : Nat), (∀ k, i ≤ k → k < i + d → ∀ a b, R k a b → R (k + 1) (f k a) (g k b)) → ∀ a b, R i a b → R (i + d) (itU f d i a) (itU g d i b)
  | 0, _, _, _, _, h => h
  | d + 1, i, hs, a, b, h => by
    have := itU_relN R d (i + 1) (fun k h1 h2 => hs k (by omega) (by omega)) (f i a) (g i b) (hs i (by omega) (by omega) a b h)
    rw [show i + (d + 1) = i + 1 + d from by omega]
    exact this
theorem itU_inv {α : Type} {f : Nat → α → α} (R : Nat → α → Prop) : ∀ (d i : Nat), (∀ k, i ≤ k → k < i + d → ∀ a, R k a → R (k + 1) (f k a)) → ∀ a, R i a → R (i + d) (itU f d i a)
  | 0, _, _, _, h => h
  | d + 1, i, hs, a, h => by
    have := itU_inv R d (i + 1) (fun k h1 h2 => hs k (by omega) (by omega)) (f i a) (hs i (by omega) (by omega) a h)
    rw [show i + (d + 1) = i + 1 + d from by omega]
    exact this
/-- a loop that adds -/
theorem itU_ex {α : Type} {f : Nat → α → α} (V : α → Prop) (C : Nat → Prop) : ∀ (d i : Nat), (∀ k, i ≤ k → k < i + d → ∀ a, V (f k a) ↔ V a ∨ C k) → ∀ a, (V (itU f d i a) ↔ V a ∨ ∃ k, i ≤ k ∧ k < i + d ∧ C k)
  | 0, i, _, a => ⟨fun h => Or.inl h, fun h => h.elim id (fun ⟨k, h1, h2, _⟩ => absurd h2 (by omega))⟩
  | d + 1, i, hs, a => by
    have h1 := itU_ex V C d (i + 1) (fun k h1 h2 => hs k (by omega) (by omega)) (f i a)
    show V (itU f d (i + 1) (f i a)) ↔ _
    rw [h1, hs i (by omega) (by omega)]
    constructor
    · rintro ((h | h) | ⟨k, h2, h3, h4⟩)
      · exact Or.inl h
      · exact Or.inr ⟨i, by omega, by omega, h⟩
      · exact Or.inr ⟨k, by omega, by omega, h4⟩
    · rintro (h | ⟨k, h2, h3, h4⟩)
      · exact Or.inl (Or.inl h)
      · by_cases hk : k = i
        · subst hk
          exact Or.inl (Or.inr h4)
        · exact Or.inr ⟨k, by omega, by omega, h4⟩
/-! parents, shallow commits, ancestors -/
/-- j is a parent of k -/
def Par (fp sp : Nat → Int32) (k j : Nat) : Prop := fp k = nI j ∨ sp k = nI j
def PV (n : Nat) (fp sp : Nat → Int32) : Prop := ∀ k, k < n → (fp k = -1 ∨ ∃ j : Nat, j < k ∧ fp k = nI j) ∧ (sp k = -1 ∨ ∃ j : Nat, j < k ∧ sp k = nI j)
theorem Par_lt {n : Nat} {fp sp : Nat → Int32} (hp : PV n fp sp) (hn : n ≤ 60) {k j : Nat} (hk : k < n) (hj : j < 2 ^ 31) (h : Par fp sp k j) : j < k := by
  obtain ⟨h1, h2⟩ := hp k hk
  rcases h with h | h
  · rcases h1 with h3 | ⟨i, hi, h3⟩
    · exact absurd (h.symm.trans h3) (nI_m1 hj)
    · rw [(nI_eq hj (by omega)).mp (h.symm.trans h3)]
      exact hi
  · rcases h2 with h3 | ⟨i, hi, h3⟩
    · exact absurd (h.symm.trans h3) (nI_m1 hj)
    · rw [(nI_eq hj (by omega)).mp (h.symm.trans h3)]
      exact hi
theorem Bt_par {n : Nat} {fp sp : Nat → Int32} (hn : n ≤ 60) {k : Nat} (hk : k < n) (j : Nat) : Bt (xPar n fp sp (nI k)) j ↔ j < 60 ∧ Par fp sp k j := by
  unfold xPar
  rw [if_neg (by rw [xRange_in hk (by omega)]; decide), nI_clamp (by omega), Bt_or, Bt_set, Bt_set]
  unfold Par
  constructor
  · rintro (⟨h1, h2⟩ | ⟨h1, h2⟩)
    · exact ⟨h1, Or.inl h2⟩
    · exact ⟨h1, Or.inr h2⟩
  · rintro ⟨h1, h2 | h2⟩
    · exact Or.inl ⟨h1, h2⟩
    · exact Or.inr ⟨h1, h2⟩
/-- k lacks a parent in S -/
def LkP (fp sp : Nat → Int32) (S : Nat → Prop) (k : Nat) : Prop := ∃ j : Nat, j < 60 ∧ Par fp sp k j ∧ ¬ S j
theorem Bt_shallow {n : Nat} {fp sp : Nat → Int32} (hn : n ≤ 60) (held : Int64) (j : Nat) : Bt (xShallow n fp sp held) j ↔ j < n ∧ Bt held j ∧ LkP fp sp (Bt held) j := by
  unfold xShallow
  have h := itU_ex (f := xShStep n fp sp held) (fun s => Bt s j) (fun k => k = j ∧ Bt held k ∧ LkP fp sp (Bt held) k) n 0 (fun k _ hk a => by
    unfold xShStep
    by_cases h1 : xCon held (nI k) = 0
    · rw [if_pos h1]
      exact ⟨fun h => Or.inl h, fun h => h.elim id (fun h2 => absurd h2.2.1 ((xCon_0 held (by omega)).mp h1))⟩
    · rw [if_neg h1]
      have hb : Bt held k := Classical.byContradiction (fun h2 => h1 ((xCon_0 held (by omega)).mpr h2))
      by_cases h2 : (xPar n fp sp (nI k) &&& (held ^^^ (-1))) = 0
      · rw [if_pos h2]
        rw [Bt_eq0] at h2
        refine ⟨fun h => Or.inl h, fun h => h.elim id (fun h3 => ?_)⟩
        obtain ⟨-, -, i, hi, h4, h5⟩ := h3
        exact absurd ((Bt_wo _ _ _).mpr ⟨(Bt_par hn (by omega) i).mpr ⟨hi, h4⟩, h5⟩) (h2 i)
      · rw [if_neg h2, Bt_or, Bt_set]
        have h3 : LkP fp sp (Bt held) k := by
          refine Classical.byContradiction (fun h4 => h2 ?_)
          rw [Bt_eq0]
          intro i h5
          obtain ⟨h6, h7⟩ := (Bt_wo _ _ _).mp h5
          obtain ⟨h8, h9⟩ := (Bt_par hn (by omega) i).mp h6
          exact h4 ⟨i, h8, h9, h7⟩
        constructor
        · rintro (h | ⟨h, h6⟩)
          · exact Or.inl h
          · have h7 : k = j := (nI_eq (by omega) (by omega)).mp h6
            exact Or.inr ⟨h7, hb, h3⟩
        · rintro (h | ⟨rfl, -, -⟩)
          · exact Or.inl h
          · exact Or.inr ⟨by omega, rfl⟩) 0
  rw [h]
  constructor
  · rintro (h1 | ⟨k, -, h2, rfl, h3, h4⟩)
    · exact absurd h1 (Bt_0 j)
    · exact ⟨by omega, h3, h4⟩
  · rintro ⟨h1, h2, h3⟩
    exact Or.inr ⟨j, by omega, by omega, rfl, h2, h3⟩
