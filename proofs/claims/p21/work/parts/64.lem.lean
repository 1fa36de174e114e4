/-! THE LAW'S NUMBERS, and what its calls are refused with -/
section LAR
variable {p : Program} {l : Launch} {e : Env} {R : Room} {s : State} {m : MethodId} {args : Array Value} {below : List Frame} {meth : Method} {c : Code} {H : Heap} {locs : List Loc} {cells slots : Nat} {Q : State → Prop} {cc : ByteArray} {pc : Nat} {ls : Array Slot} {rest : List Value}
theorem l_irem (hx : p.tables.exec = Jvm.exec) (hb : c.code = cc) {a d : Nat} (hdg : decode cc pc = .ok (.irem, 1)) (ha : a < 2 ^ 31) (h0 : 0 < d) (hd : d < 2 ^ 31) (k : W p l e R s m args below meth c H locs cells slots Q (F0 m (pc + 1) ls (.int (nI (a % d)) :: rest))) : W p l e R s m args below meth c H locs cells slots Q (F0 m pc ls (.int (nI d) :: .int (nI a) :: rest)) := by
  refine lv_irem hx hb hdg (nI_ne0 h0 hd) ?_
  rw [pk_rem ha h0 hd]
  exact k
theorem l_idiv (hx : p.tables.exec = Jvm.exec) (hb : c.code = cc) {a d : Nat} (hdg : decode cc pc = .ok (.idiv, 1)) (ha : a < 2 ^ 31) (h0 : 0 < d) (hd : d < 2 ^ 31) (k : W p l e R s m args below meth c H locs cells slots Q (F0 m (pc + 1) ls (.int (nI (a / d)) :: rest))) : W p l e R s m args below meth c H locs cells slots Q (F0 m pc ls (.int (nI d) :: .int (nI a) :: rest)) := by
  refine lv_idiv hx hb hdg (nI_ne0 h0 hd) ?_
  rw [pk_div ha h0 hd]
  exact k
theorem l_iadd (hx : p.tables.exec = Jvm.exec) (hb : c.code = cc) {a d : Nat} (hdg : decode cc pc = .ok (.iadd, 1)) (k : W p l e R s m args below meth c H locs cells slots Q (F0 m (pc + 1) ls (.int (nI (a + d)) :: rest))) : W p l e R s m args below meth c H locs cells slots Q (F0 m pc ls (.int (nI d) :: .int (nI a) :: rest)) := by
  refine lv_iadd hx hb hdg ?_
  rw [nI_add]
  exact k
theorem l_imul (hx : p.tables.exec = Jvm.exec) (hb : c.code = cc) {a d : Nat} (hdg : decode cc pc = .ok (.imul, 1)) (k : W p l e R s m args below meth c H locs cells slots Q (F0 m (pc + 1) ls (.int (nI (a * d)) :: rest))) : W p l e R s m args below meth c H locs cells slots Q (F0 m pc ls (.int (nI d) :: .int (nI a) :: rest)) := by
  refine lv_imul hx hb hdg ?_
  rw [pk_mul]
  exact k
theorem l_isub (hx : p.tables.exec = Jvm.exec) (hb : c.code = cc) {a d : Nat} (hdg : decode cc pc = .ok (.isub, 1)) (hle : d ≤ a) (k : W p l e R s m args below meth c H locs cells slots Q (F0 m (pc + 1) ls (.int (nI (a - d)) :: rest))) : W p l e R s m args below meth c H locs cells slots Q (F0 m pc ls (.int (nI d) :: .int (nI a) :: rest)) := by
  refine lv_isub hx hb hdg ?_
  rw [pk_sub hle]
  exact k
end LAR
theorem nI_dec (d : Nat) : nI (d + 1) - nI 1 = nI d := by rw [nI_1e]; exact nI_pred d
theorem nI_decI (d : Nat) : nI d + Int32.ofInt (-1) = nI d - nI 1 := by rw [nI_1e]; exact g_dec1 _
theorem xR_in {j n : Nat} (h : j < n) (hn : n < 2 ^ 31) : ¬ xRange (nI j) (nI n) = 0 := by rw [xRange_in h hn]; decide
theorem xR_neg {c : Int32} (n : Int32) (h : c < 0) : xRange c n = 0 := if_pos h
theorem xR_big {j n : Nat} (h : n ≤ j) (hj : j < 2 ^ 31) : xRange (nI j) (nI n) = 0 := by
  unfold xRange
  rw [if_neg (nI_pos hj), if_pos (nI_le h hj)]
theorem n_neg {a d : Nat} (ha : a < 2 ^ 30) (hd : d < 2 ^ 30) (h : a < d) : (nI a - nI d) < 0 := pk_sneg hd h
theorem n_sub {a d : Nat} (ha : a < 2 ^ 30) (hd : d < 2 ^ 30) {z : Int32} (hz : z.toInt = -(a : Int)) : (z - nI d).toInt = -((a : Int) + d) := by
  rw [Int32.toInt_sub, hz, nI_toInt (by omega)]
  rw [show -(a : Int) - (d : Int) = -((a : Int) + d) by omega]
  exact Int.bmod_eq_of_le (by omega) (by omega)
theorem n_sub_neg {a d : Nat} (ha : a < 2 ^ 30) (h0 : 0 < a) (hd : d < 2 ^ 30) {z : Int32} (hz : z.toInt = -(a : Int)) : (z - nI d) < 0 := by
  rw [Int32.lt_iff_toInt_lt, n_sub ha hd hz]
  have : (0 : Int32).toInt = 0 := by decide +kernel
  omega
theorem n_sub_m1 {a d : Nat} (ha : a < 2 ^ 30) (h0 : 1 < a) (hd : d < 2 ^ 30) {z : Int32} (hz : z.toInt = -(a : Int)) : ¬ (z - nI d) = -1 := by
  intro e
  have h := n_sub ha hd hz
  rw [e] at h
  have h2 : (-1 : Int32).toInt = -1 := by decide +kernel
  omega
theorem toInt_m1 : (-1 : Int32).toInt = -((1 : Nat) : Int) := by decide +kernel
theorem toInt_m2 : (-2 : Int32).toInt = -((2 : Nat) : Int) := by decide +kernel
section FZ
variable {n : Nat} {u : SX} {b : Nat}
theorem fS_b (hb : b < 2) (z : Int32) : fxStore (nI b) z = z := if_neg (xR_in hb (by omega))
theorem fH_b (hb : b < 2) : fxH u (nI b) = u.2 b := by
  rcases (show b = 0 ∨ b = 1 by omega) with rfl | rfl
  · exact if_pos nI_0
  · exact if_neg (by decide +kernel)
theorem hoN_m1 (s : Int64) : ¬ xHoN s (-1) = 0 := by unfold xHoN; rw [if_pos rfl]; decide
theorem hoN_no {s : Int64} {c : Int32} (h1 : ¬ c = -1) (h2 : xCon s c = 0) : xHoN s c = 0 := by unfold xHoN; rw [if_neg h1]; exact h2
theorem hoN_in {s : Int64} {c : Int32} (h2 : ¬ xCon s c = 0) : ¬ xHoN s c = 0 := by
  unfold xHoN
  by_cases h1 : c = -1
  · rw [if_pos h1]; decide
  · rw [if_neg h1]; exact h2
theorem fz_mk1 (hb : b < 2) {p1 p2 p3 p4 : Int32} (h : xRange p3 4 = 0 ∨ xHoN (u.2 b) p1 = 0 ∨ xHoN (u.2 b) p2 = 0) : fxStore (nI b) (xMakeC n (fxH u (nI b)) p1 p2 p3 p4) = 1 := by
  rw [fS_b hb, fH_b hb]
  unfold xMakeC
  by_cases a1 : xRange p3 4 = 0
  · exact if_pos a1
  · rw [if_neg a1]
    by_cases a2 : xHoN (u.2 b) p1 = 0
    · exact if_pos a2
    · rw [if_neg a2]
      exact if_pos ((h.resolve_left a1).resolve_left a2)
theorem fz_mk2 (hb : b < 2) {p1 p2 p3 p4 : Int32} (h3 : ¬ xRange p3 4 = 0) (h1 : ¬ xHoN (u.2 b) p1 = 0) (h2 : ¬ xHoN (u.2 b) p2 = 0) (h : xFiN p4 = 0 ∨ (¬ p2 = -1 ∧ (p1 = -1 ∨ p1 = p2))) : fxStore (nI b) (xMakeC n (fxH u (nI b)) p1 p2 p3 p4) = 2 := by
  rw [fS_b hb, fH_b hb]
  unfold xMakeC
  rw [if_neg h3, if_neg h1, if_neg h2]
  by_cases a1 : xFiN p4 = 0
  · exact if_pos a1
  · rw [if_neg a1]
    obtain ⟨a2, a3⟩ := h.resolve_left a1
    rw [if_neg a2]
    by_cases a4 : p1 = -1
    · exact if_pos a4
    · rw [if_neg a4]
      exact if_pos (a3.resolve_left a4)
theorem fz_st (hb : b < 2) {p1 p2 : Int32} (h : xRange p1 4 = 0 ∨ xHoN (u.2 b) p2 = 0) : fxStore (nI b) (xSetRC (fxH u (nI b)) p1 p2) = 1 := by
  rw [fS_b hb, fH_b hb]
  unfold xSetRC
  by_cases a1 : xRange p1 4 = 0
  · exact if_pos a1
  · rw [if_neg a1]
    exact if_pos (h.resolve_left a1)
theorem fz_b (hb : b < 2) {c : Prop} [Decidable c] (h : c) (x y : Int32) : fxStore (nI b) (if c then x else y) = x := by rw [fS_b hb]; exact if_pos h
theorem fz_file {p0 p1 : Int32} (h : xRange p0 (nI n) = 0 ∨ xRange p1 4 = 0) : xFileC n p0 p1 = 1 := by
  unfold xFileC
  by_cases a1 : xRange p0 (nI n) = 0
  · exact if_pos a1
  · rw [if_neg a1]
    exact if_pos (h.resolve_left a1)
theorem fz_anc {p0 p1 : Int32} (h : xRange p0 (nI n) = 0 ∨ xRange p1 (nI n) = 0) : xAncC n p0 p1 = 1 := by
  unfold xAncC
  by_cases a1 : xRange p0 (nI n) = 0
  · exact if_pos a1
  · rw [if_neg a1]
    exact if_pos (h.resolve_left a1)
theorem fz_fet1 {p0 p1 : Int32} {rf : Nat → Int32} (h : xRange p0 4 = 0) : xFetC p0 p1 rf = 1 := if_pos h
theorem fz_fet2 {p0 p1 : Int32} {rf : Nat → Int32} (h : ¬ xRange p0 4 = 0) (h2 : p1 < 0 ∨ ¬ p1 ≤ 60) : xFetC p0 p1 rf = 2 := by
  unfold xFetC
  rw [if_neg h]
  by_cases a1 : p1 < 0
  · exact if_pos a1
  · rw [if_neg a1]
    exact if_neg (h2.resolve_left a1)
theorem fz_fet3 {p0 p1 : Int32} {rf : Nat → Int32} (h : ¬ xRange p0 4 = 0) (h2 : ¬ p1 < 0) (h3 : p1 ≤ 60) (h4 : xRefOf rf p0 = -1) : xFetC p0 p1 rf = 3 := by
  unfold xFetC
  rw [if_neg h, if_neg h2, if_pos h3, if_pos h4]
theorem fz_mv {w : Nat} {p0 p1 p2 : Int32} (h : xRange p0 4 = 0 ∨ xCoN n p1 = 0 ∨ xCoN n p2 = 0) : fxMove n w p0 p1 p2 = 1 := by
  unfold fxMove
  by_cases a1 : xRange p0 4 = 0
  · exact if_pos a1
  · rw [if_neg a1]
    by_cases a2 : xCoN n p1 = 0
    · exact if_pos a2
    · rw [if_neg a2]
      exact if_pos ((h.resolve_left a1).resolve_left a2)
theorem coN_no {c : Int32} (h1 : ¬ c = -1) (h2 : xRange c (nI n) = 0) : xCoN n c = 0 := by unfold xCoN; rw [if_neg h1]; exact h2
theorem fz_ld2 {p0 : Int32} {fl : Nat → Int32} (h : xRange p0 100 = 0) : fxLoad p0 fl = 2 := if_pos h
theorem fz_ld3 {p0 : Int32} {fl : Nat → Int32} (h : ¬ xRange p0 100 = 0) (h2 : xHas fl p0 = 0) : fxLoad p0 fl = 3 := (if_neg h).trans (if_pos h2)
end FZ
theorem mk_0 {n : Nat} {s : Int64} {p1 p2 p3 p4 : Int32} (h : xMakeC n s p1 p2 p3 p4 = 0) : ¬ xRange p3 4 = 0 ∧ (p1 = -1 ∨ ¬ xCon s p1 = 0) ∧ (p2 = -1 ∨ ¬ xCon s p2 = 0) ∧ (p4 = -1 ∨ ¬ xRange p4 100 = 0) ∧ (p2 = -1 ∨ (¬ p1 = -1 ∧ ¬ p1 = p2)) ∧ n < 60 := by
  unfold xMakeC at h
  by_cases a1 : xRange p3 4 = 0
  · rw [if_pos a1] at h; exact absurd h (by decide)
  rw [if_neg a1] at h
  by_cases a2 : xHoN s p1 = 0
  · rw [if_pos a2] at h; exact absurd h (by decide)
  rw [if_neg a2] at h
  by_cases a3 : xHoN s p2 = 0
  · rw [if_pos a3] at h; exact absurd h (by decide)
  rw [if_neg a3] at h
  by_cases a4 : xFiN p4 = 0
  · rw [if_pos a4] at h; exact absurd h (by decide)
  rw [if_neg a4] at h
  refine ⟨a1, hon_or a2, hon_or a3, fin_or a4, ?_⟩
  by_cases a5 : p2 = -1
  · rw [if_pos a5] at h
    exact ⟨Or.inl a5, Classical.byContradiction (fun hc => by rw [if_neg hc] at h; exact absurd h (by decide))⟩
  rw [if_neg a5] at h
  by_cases a6 : p1 = -1
  · rw [if_pos a6] at h; exact absurd h (by decide)
  rw [if_neg a6] at h
  by_cases a7 : p1 = p2
  · rw [if_pos a7] at h; exact absurd h (by decide)
  rw [if_neg a7] at h
  exact ⟨Or.inr ⟨a6, a7⟩, Classical.byContradiction (fun hc => by rw [if_neg hc] at h; exact absurd h (by decide))⟩
theorem gB_le {Sg : Type} {l : Launch} {y : MethodName} {ws : List Cond} {rm : Room} {D : va_G} {tys : List (ClassId × FieldType)} {wd : Sg → va_W} {E : State → Prop} {T : (Nat → Prop) → State → Heap → Prop} {av : List Value} {u u' : Sg} {rv : Option Value} {mc ms k k' : Nat} (hk : k' ≤ k) (h : gB l y ws rm D tys wd E T av u rv u' mc ms k) : gB l y ws rm D tys wd E T av u rv u' mc ms k' := by
  intro sz p e ha hc hk2 s m args below hf happ hP hK
  obtain ⟨n, o, a1, a2, a3, a4⟩ := h sz p e ha hc hk2 s m args below hf happ hP hK
  exact ⟨n, o, a1, a2, a3, ⟨a4.1.1, Nat.le_trans (Nat.add_le_add_left hk _) a4.1.2⟩, a4.2⟩
/-- make, answered or refused -/
theorem lb_makes (l : Launch) (hst : l.stackTraces = false) (D : va_G) (cI cZ : ClassId) (q : Nat → Nat) (u : SX) (n : Nat) (hn : u.1 15 0 = nI n) (h60 : n ≤ 60) (b : Nat) (hb : b < 2) (p1 p2 p3 p4 : Int32) :
    gB l yL_makes wsL_makes rmL1 D (tyXZ cI cZ) (XW cI cZ q) LE XT [.ref (q 0), .int (nI b), .int p1, .int p2, .int p3, .int p4] u (some (.int (if xMakeC n (u.2 b) p1 p2 p3 p4 = 0 then nI n else cdx (xMakeC n (u.2 b) p1 p2 p3 p4)))) (if xMakeC n (u.2 b) p1 p2 p3 p4 = 0 then xMkS b n u p1 p2 p3 p4 else u) 1 6 0 := by
  by_cases hz : xMakeC n (u.2 b) p1 p2 p3 p4 = 0
  · rw [if_pos hz, if_pos hz]
    obtain ⟨h1, h2, h3, h4, h5, h59⟩ := mk_0 hz
    rcases (show b = 0 ∨ b = 1 by omega) with rfl | rfl
    · exact wr1_makes l D cI cZ q (nI 0) p1 p2 p3 p4 ⟨rfl, rfl, Nat.le_of_ble_eq_true rfl, Nat.le_of_ble_eq_true rfl⟩ (ctX2_make_0 l D cI cZ q u n hn h60 h59 (nI 0) p1 p2 p3 p4 nI_0 h1 h2 h3 h4 h5)
    · exact wr1_makes l D cI cZ q (nI 1) p1 p2 p3 p4 ⟨rfl, rfl, Nat.le_of_ble_eq_true rfl, Nat.le_of_ble_eq_true rfl⟩ (ctX2_make_1 l D cI cZ q u n hn h60 h59 (nI 1) p1 p2 p3 p4 nI_1e h1 h2 h3 h4 h5)
  · rw [if_neg hz, if_neg hz]
    exact gB_le (Nat.zero_le 1) (tx_makes l hst D cI cZ q u n hn h60 (nI b) p1 p2 p3 p4 (by rw [fS_b hb, fH_b hb]) hz)
