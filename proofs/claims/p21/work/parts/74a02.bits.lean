/-! BITS: a long as a set of commits; how many bits it has -/
theorem pu_and256 (a b c e : Nat) (hb : b < 256) (he : e < 256) : (256 * a + b) &&& (256 * c + e) = 256 * (a &&& c) + (b &&& e) := by
  have h1 : ((256 * a + b) &&& (256 * c + e)) / 2 ^ 8 = a &&& c := by
    rw [Nat.and_div_two_pow]
    congr 1 <;> omega
  have h2 : ((256 * a + b) &&& (256 * c + e)) % 2 ^ 8 = b &&& e := by
    rw [Nat.and_mod_two_pow]
    congr 1 <;> omega
  have h3 := Nat.div_add_mod ((256 * a + b) &&& (256 * c + e)) (2 ^ 8)
  rw [h1, h2] at h3
  omega
def pu_m (v : Nat) : Nat → Nat
  | 0 => 0
  | k + 1 => 256 * pu_m v k + v
def pu_1 (k x : Nat) : Nat := x - (x / 2 &&& pu_m 85 k)
def pu_2 (k x : Nat) : Nat := (x &&& pu_m 51 k) + (x / 4 &&& pu_m 51 k)
def pu_3 (k x : Nat) : Nat := (x + x / 16) &&& pu_m 15 k
def pu_d1 (d : Nat) : Nat := d - (d / 2 &&& 85)
def pu_d2 (d : Nat) : Nat := (d &&& 51) + (d / 4 &&& 51)
def pu_d3 (d : Nat) : Nat := (d + d / 16) &&& 15
theorem pu_t1 : ∀ d : Fin 256, ∀ t : Fin 2, (t.val * 128 + d.val / 2) &&& 85 = d.val / 2 &&& 85 := by decide +kernel
theorem pu_t2 : ∀ d : Fin 256, ∀ t : Fin 4, (t.val * 64 + d.val / 4) &&& 51 = d.val / 4 &&& 51 := by decide +kernel
/-- the number of bits of a byte -/
def pu_c (d : Nat) : Nat := d % 2 + d / 2 % 2 + d / 4 % 2 + d / 8 % 2 + d / 16 % 2 + d / 32 % 2 + d / 64 % 2 + d / 128 % 2
theorem pu_tc : ∀ d : Fin 256, pu_d3 (pu_d2 (pu_d1 d.val)) = pu_c d.val ∧ pu_d1 d.val < 256 ∧ pu_d2 (pu_d1 d.val) < 256 ∧ pu_d2 (pu_d1 d.val) / 16 ≤ 4 ∧ pu_d2 (pu_d1 d.val) % 16 ≤ 4 := by decide +kernel
theorem pu_t3 : ∀ d : Fin 80, ∀ t : Fin 5, (16 * t.val + (d.val + d.val / 16)) &&& 15 = (d.val + d.val / 16) &&& 15 := by decide +kernel
theorem pu_1s (k q d : Nat) (hd : d < 256) : pu_1 (k + 1) (256 * q + d) = 256 * pu_1 k q + pu_d1 d := by
  unfold pu_1 pu_d1
  have h1 : (256 * q + d) / 2 = 256 * (q / 2) + (q % 2 * 128 + d / 2) := by omega
  have h2 : (q % 2 * 128 + d / 2) &&& 85 = d / 2 &&& 85 := pu_t1 ⟨d, hd⟩ ⟨q % 2, by omega⟩
  rw [h1, show pu_m 85 (k + 1) = 256 * pu_m 85 k + 85 from rfl, pu_and256 _ _ _ _ (by omega) (by omega), h2]
  have h3 : (q / 2 &&& pu_m 85 k) ≤ q / 2 := Nat.and_le_left
  have h4 : (d / 2 &&& 85) ≤ d / 2 := Nat.and_le_left
  omega
theorem pu_2s (k q d : Nat) (hd : d < 256) : pu_2 (k + 1) (256 * q + d) = 256 * pu_2 k q + pu_d2 d := by
  unfold pu_2 pu_d2
  have h1 : (256 * q + d) / 4 = 256 * (q / 4) + (q % 4 * 64 + d / 4) := by omega
  have h2 : (q % 4 * 64 + d / 4) &&& 51 = d / 4 &&& 51 := pu_t2 ⟨d, hd⟩ ⟨q % 4, by omega⟩
  rw [h1, show pu_m 51 (k + 1) = 256 * pu_m 51 k + 51 from rfl, pu_and256 _ _ _ _ hd (by omega), pu_and256 _ _ _ _ (by omega) (by omega), h2]
  omega
theorem pu_3s (k q d : Nat) (hd : d / 16 ≤ 4 ∧ d % 16 ≤ 4) (hq : q % 16 ≤ 4) : pu_3 (k + 1) (256 * q + d) = 256 * pu_3 k q + pu_d3 d := by
  unfold pu_3 pu_d3
  have h1 : 256 * q + d + (256 * q + d) / 16 = 256 * (q + q / 16) + (16 * (q % 16) + (d + d / 16)) := by omega
  have h2 : (16 * (q % 16) + (d + d / 16)) &&& 15 = (d + d / 16) &&& 15 := pu_t3 ⟨d, by omega⟩ ⟨q % 16, by omega⟩
  rw [h1, show pu_m 15 (k + 1) = 256 * pu_m 15 k + 15 from rfl, pu_and256 _ _ _ _ (by omega) (by omega), h2]
/-- the bytes' numbers of bits -/
def pu_F : Nat → Nat → Nat
  | 0, _ => 0
  | k + 1, x => 256 * pu_F k (x / 256) + pu_c (x % 256)
theorem pu_lo (k : Nat) : ∀ x : Nat, pu_2 k (pu_1 k x) % 16 ≤ 4 ∧ (x < 256 ^ k → pu_3 k (pu_2 k (pu_1 k x)) = pu_F k x) := by
  induction k with
  | zero =>
    intro x
    refine ⟨?_, fun h => ?_⟩
    · unfold pu_2 pu_1 pu_m
      simp
    · unfold pu_3 pu_m pu_F
      simp
  | succ k ih =>
    intro x
    have hx : x = 256 * (x / 256) + x % 256 := by omega
    obtain ⟨t1, t2, t3, t4, t5⟩ := pu_tc ⟨x % 256, by omega⟩
    dsimp only at t1 t2 t3 t4 t5
    have e1 : pu_1 (k + 1) x = 256 * pu_1 k (x / 256) + pu_d1 (x % 256) := by
      conv => lhs; rw [hx]
      exact pu_1s k _ _ (by omega)
    have e2 : pu_2 (k + 1) (pu_1 (k + 1) x) = 256 * pu_2 k (pu_1 k (x / 256)) + pu_d2 (pu_d1 (x % 256)) := by
      rw [e1]
      exact pu_2s k _ _ t2
    refine ⟨by rw [e2]; omega, fun h => ?_⟩
    have h256 : x / 256 < 256 ^ k := by
      rw [Nat.pow_succ] at h
      omega
    rw [e2, pu_3s k _ _ ⟨t4, t5⟩ (ih (x / 256)).1, (ih (x / 256)).2 h256, t1]
    rfl
theorem pu_c8 (d : Nat) : pu_c d ≤ 8 := by
  unfold pu_c
  omega
/-- the last three steps: the sum of eight bytes -/
theorem pu_q1 {w0 w1 c0 : Nat} (h : w0 = c0 + 256 * w1) (h0 : c0 ≤ 8) : w0 / 256 = w1 := by omega
theorem pu_q2 {x y z s t : Nat} (hx : x = s + 256 * y) (hy : y = t + 256 * z) (hs : s ≤ 16) (ht : t ≤ 16) : x / 65536 = z := by omega
theorem pu_q4 {x y z v u s t p r : Nat} (hx : x = s + 256 * y) (hy : y = t + 256 * z) (hz : z = p + 256 * v) (hv : v = r + 256 * u) (hs : s ≤ 32) (ht : t ≤ 32) (hp : p ≤ 32) (hr : r ≤ 32) : x / 4294967296 = u := by omega
theorem pu_qm6 {x c y : Nat} (h : x = c + 256 * y) (hc : c ≤ 8) (hy : y ≤ 8) : x ≤ 2056 := by omega
theorem pu_qm5 {x c y : Nat} (h : x = c + 256 * y) (hc : c ≤ 8) (hy : y ≤ 2056) : x ≤ 526344 := by omega
theorem pu_qm4 {x c y : Nat} (h : x = c + 256 * y) (hc : c ≤ 8) (hy : y ≤ 526344) : x ≤ 134744072 := by omega
theorem pu_qm3 {x c y : Nat} (h : x = c + 256 * y) (hc : c ≤ 8) (hy : y ≤ 134744072) : x ≤ 34494482440 := by omega
theorem pu_qm2 {x c y : Nat} (h : x = c + 256 * y) (hc : c ≤ 8) (hy : y ≤ 34494482440) : x ≤ 8830587504648 := by omega
theorem pu_qm1 {x c y : Nat} (h : x = c + 256 * y) (hc : c ≤ 8) (hy : y ≤ 8830587504648) : x ≤ 2260630401189896 := by omega
theorem pu_qe {w1 w2 w3 w4 w5 w6 w7 t e : Nat} (m1 : w1 ≤ 2260630401189896) (m2 : w2 ≤ 8830587504648) (m3 : w3 ≤ 34494482440) (m4 : w4 ≤ 134744072) (m5 : w5 ≤ 526344) (m6 : w6 ≤ 2056) (m7 : w7 ≤ 8) (ht : t ≤ 64) (he : e = t + 256 * (w1 + w2 + w3 + w4 + w5 + w6 + w7)) : e < 18446744073709551616 := by omega
theorem pu_q8 {e s y : Nat} (h : e = s + 256 * y) (hs : s ≤ 64) : e % 128 = s := by omega
theorem pu_sum (c0 c1 c2 c3 c4 c5 c6 c7 w0 w1 w2 w3 w4 w5 w6 w7 a b e : Nat) (h0 : c0 ≤ 8) (h1 : c1 ≤ 8) (h2 : c2 ≤ 8) (h3 : c3 ≤ 8) (h4 : c4 ≤ 8) (h5 : c5 ≤ 8) (h6 : c6 ≤ 8) (h7 : c7 ≤ 8)
    (k0 : w0 = c0 + 256 * w1) (k1 : w1 = c1 + 256 * w2) (k2 : w2 = c2 + 256 * w3) (k3 : w3 = c3 + 256 * w4) (k4 : w4 = c4 + 256 * w5) (k5 : w5 = c5 + 256 * w6) (k6 : w6 = c6 + 256 * w7) (k7 : w7 = c7)
    (ha : a = w0 + w0 / 256) (hb : b = a + a / 65536) (he : e = b + b / 4294967296) : e % 128 = c0 + c1 + c2 + c3 + c4 + c5 + c6 + c7 ∧ e < 18446744073709551616 := by
  have ht : c0 + c1 + c2 + c3 + c4 + c5 + c6 + c7 ≤ 64 := by
    clear ha hb he k0 k1 k2 k3 k4 k5 k6 k7
    omega
  have m7 : w7 ≤ 8 := k7 ▸ h7
  have a1 : a = w0 + w1 := by rw [ha, pu_q1 k0 h0]
  have a2 : a / 65536 = w2 + w3 := pu_q2 (s := c0 + c1) (t := c1 + c2) (y := w1 + w2) (by omega) (by omega) (by omega) (by omega)
  have b1 : b = w0 + w1 + w2 + w3 := by rw [hb, a2, a1]; omega
  have b2 : b / 4294967296 = w4 + w5 + w6 + w7 := pu_q4 (s := c0 + c1 + c2 + c3) (t := c1 + c2 + c3 + c4) (p := c2 + c3 + c4 + c5) (r := c3 + c4 + c5 + c6) (y := w1 + w2 + w3 + w4) (z := w2 + w3 + w4 + w5) (v := w3 + w4 + w5 + w6) (by omega) (by omega) (by omega) (by omega) (by omega) (by omega) (by omega) (by omega)
  have e1 : e = (c0 + c1 + c2 + c3 + c4 + c5 + c6 + c7) + 256 * (w1 + w2 + w3 + w4 + w5 + w6 + w7) := by
    rw [he, b2, b1]
    clear ha hb he a1 a2 b1 b2
    omega
  refine ⟨pu_q8 e1 ht, ?_⟩
  have m6 : w6 ≤ 2056 := pu_qm6 k6 h6 m7
  have m5 : w5 ≤ 526344 := pu_qm5 k5 h5 m6
  have m4 : w4 ≤ 134744072 := pu_qm4 k4 h4 m5
  have m3 : w3 ≤ 34494482440 := pu_qm3 k3 h3 m4
  have m2 : w2 ≤ 8830587504648 := pu_qm2 k2 h2 m3
  have m1 : w1 ≤ 2260630401189896 := pu_qm1 k1 h1 m2
  exact pu_qe m1 m2 m3 m4 m5 m6 m7 ht e1
/-- the same in numbers -/
theorem pu_pop (x : Nat) (hx : x < 2 ^ 64) (a b e : Nat) (ha : a = pu_3 8 (pu_2 8 (pu_1 8 x)) + pu_3 8 (pu_2 8 (pu_1 8 x)) / 256) (hb : b = a + a / 65536) (he : e = b + b / 4294967296) :
    e % 128 = pu_c (x % 256) + pu_c (x / 256 % 256) + pu_c (x / 256 / 256 % 256) + pu_c (x / 256 / 256 / 256 % 256) + pu_c (x / 256 / 256 / 256 / 256 % 256) + pu_c (x / 256 / 256 / 256 / 256 / 256 % 256) + pu_c (x / 256 / 256 / 256 / 256 / 256 / 256 % 256) + pu_c (x / 256 / 256 / 256 / 256 / 256 / 256 / 256 % 256) ∧ e < 18446744073709551616 := by
  have h1 := (pu_lo 8 x).2 (by rw [show 256 ^ 8 = 2 ^ 64 from by decide]; exact hx)
  refine pu_sum _ _ _ _ _ _ _ _ (pu_3 8 (pu_2 8 (pu_1 8 x))) (pu_F 7 (x / 256)) (pu_F 6 (x / 256 / 256)) (pu_F 5 (x / 256 / 256 / 256)) (pu_F 4 (x / 256 / 256 / 256 / 256)) (pu_F 3 (x / 256 / 256 / 256 / 256 / 256)) (pu_F 2 (x / 256 / 256 / 256 / 256 / 256 / 256)) (pu_F 1 (x / 256 / 256 / 256 / 256 / 256 / 256 / 256)) a b e (pu_c8 _) (pu_c8 _) (pu_c8 _) (pu_c8 _) (pu_c8 _) (pu_c8 _) (pu_c8 _) (pu_c8 _) ?_ ?_ ?_ ?_ ?_ ?_ ?_ ?_ ha hb he
  · rw [h1]
    exact Nat.add_comm _ _
  · exact Nat.add_comm _ _
  · exact Nat.add_comm _ _
  · exact Nat.add_comm _ _
  · exact Nat.add_comm _ _
  · exact Nat.add_comm _ _
  · exact Nat.add_comm _ _
  · show 256 * 0 + _ = _
    omega
theorem gCnt_split (p : Nat → Bool) (a : Nat) : ∀ b, gCnt p (a + b) = gCnt p a + gCnt (fun i => p (a + i)) b
  | 0 => rfl
  | b + 1 => by
    show gCnt p (a + b) + (if p (a + b) = true then 1 else 0) = gCnt p a + (gCnt (fun i => p (a + i)) b + if p (a + b) = true then 1 else 0)
    rw [gCnt_split p a b]
    omega
theorem pu_bit (x i : Nat) : (if x.testBit i = true then 1 else 0) = x / 2 ^ i % 2 := by
  rw [Nat.testBit_eq_decide_div_mod_eq]
  have := Nat.mod_two_eq_zero_or_one (x / 2 ^ i)
  by_cases h : x / 2 ^ i % 2 = 1
  · simp [h]
  · have h0 : x / 2 ^ i % 2 = 0 := by omega
    simp [h0]
theorem pu_c_cnt (x : Nat) : gCnt (fun i => x.testBit i) 8 = pu_c (x % 256) := by
  have h : gCnt (fun i => x.testBit i) 8 = 0 + (if x.testBit 0 = true then 1 else 0) + (if x.testBit 1 = true then 1 else 0) + (if x.testBit 2 = true then 1 else 0) + (if x.testBit 3 = true then 1 else 0) + (if x.testBit 4 = true then 1 else 0) + (if x.testBit 5 = true then 1 else 0) + (if x.testBit 6 = true then 1 else 0) + (if x.testBit 7 = true then 1 else 0) := rfl
  rw [h]
  unfold pu_c
  rw [pu_bit, pu_bit, pu_bit, pu_bit, pu_bit, pu_bit, pu_bit, pu_bit]
  rw [show (2 : Nat) ^ 0 = 1 from rfl, show (2 : Nat) ^ 1 = 2 from rfl, show (2 : Nat) ^ 2 = 4 from rfl, show (2 : Nat) ^ 3 = 8 from rfl, show (2 : Nat) ^ 4 = 16 from rfl, show (2 : Nat) ^ 5 = 32 from rfl, show (2 : Nat) ^ 6 = 64 from rfl, show (2 : Nat) ^ 7 = 128 from rfl]
  omega
theorem pu_sh (x i : Nat) : x.testBit (8 + i) = (x / 256).testBit i := by
  rw [show (256 : Nat) = 2 ^ 8 from rfl, Nat.testBit_div_two_pow, Nat.add_comm]
theorem pu_cnt_s (x k : Nat) : gCnt (fun i => x.testBit i) (8 + k) = pu_c (x % 256) + gCnt (fun i => (x / 256).testBit i) k := by
  rw [gCnt_split, pu_c_cnt, gCnt_congr k (fun i _ => pu_sh x i)]
theorem pu_cnt (x : Nat) : gCnt (fun i => x.testBit i) 64 = pu_c (x % 256) + pu_c (x / 256 % 256) + pu_c (x / 256 / 256 % 256) + pu_c (x / 256 / 256 / 256 % 256) + pu_c (x / 256 / 256 / 256 / 256 % 256) + pu_c (x / 256 / 256 / 256 / 256 / 256 % 256) + pu_c (x / 256 / 256 / 256 / 256 / 256 / 256 % 256) + pu_c (x / 256 / 256 / 256 / 256 / 256 / 256 / 256 % 256) := by
  rw [show (64 : Nat) = 8 + (8 + (8 + (8 + (8 + (8 + (8 + (8 + 0))))))) from rfl, pu_cnt_s, pu_cnt_s, pu_cnt_s, pu_cnt_s, pu_cnt_s, pu_cnt_s, pu_cnt_s, pu_cnt_s]
  show _ + (_ + (_ + (_ + (_ + (_ + (_ + (_ + 0))))))) = _
  omega
/-- a long's number -/
def pu_N (x : Int64) : Nat := x.toBitVec.toNat
theorem pu_N_lt (x : Int64) : pu_N x < 2 ^ 64 := x.toBitVec.isLt
theorem pu_N_and (x y : Int64) : pu_N (x &&& y) = pu_N x &&& pu_N y := BitVec.toNat_and _ _
theorem pu_N_add {x y : Int64} (h : pu_N x + pu_N y < 2 ^ 64) : pu_N (x + y) = pu_N x + pu_N y := by
  have h1 : pu_N (x + y) = (pu_N x + pu_N y) % 2 ^ 64 := BitVec.toNat_add _ _
  rw [h1, Nat.mod_eq_of_lt h]
theorem pu_N_sub {x y : Int64} (h : pu_N y ≤ pu_N x) : pu_N (x - y) = pu_N x - pu_N y := by
  have h1 : pu_N (x - y) = (2 ^ 64 - pu_N y + pu_N x) % 2 ^ 64 := BitVec.toNat_sub _ _
  have h2 := pu_N_lt x
  rw [h1, show 2 ^ 64 - pu_N y + pu_N x = (pu_N x - pu_N y) + 2 ^ 64 from by omega, Nat.add_mod_right, Nat.mod_eq_of_lt (by omega)]
theorem pu_ush (x : Int64) (s : Int32) (k : Nat) (hs : ((Int64.toUInt64 (Int32.toInt64 s)) &&& Int64.toUInt64 63).toBitVec.toNat % 64 = k) : pu_N (xUsh x s) = pu_N x / 2 ^ k := by
  unfold xUsh pu_N
  have h1 : (((Int64.toUInt64 x) >>> ((Int64.toUInt64 (Int32.toInt64 s)) &&& Int64.toUInt64 63)).toInt64).toBitVec = x.toBitVec >>> (((Int64.toUInt64 (Int32.toInt64 s)) &&& Int64.toUInt64 63).toBitVec % 64) := rfl
  rw [h1, BitVec.ushiftRight_eq', BitVec.toNat_ushiftRight, Nat.shiftRight_eq_div_pow, BitVec.toNat_umod, show (64 : BitVec 64).toNat = 64 from rfl, hs]
theorem pu_bits (x : Int64) : xBits x = nI (gCnt (fun i => x.toBitVec.getLsbD i) 64) := by
  have hm1 : pu_N 6148914691236517205 = pu_m 85 8 := by decide +kernel
  have hm2 : pu_N 3689348814741910323 = pu_m 51 8 := by decide +kernel
  have hm3 : pu_N 1085102592571150095 = pu_m 15 8 := by decide +kernel
  have n0 := pu_N_lt x
  have n1 : pu_N (xB1 x) = pu_1 8 (pu_N x) := by
    unfold xB1 pu_1
    have h1 : pu_N (xUsh x 1 &&& 6148914691236517205) = pu_N x / 2 &&& pu_m 85 8 := by rw [pu_N_and, hm1, pu_ush x 1 1 (by decide +kernel)]
    rw [pu_N_sub (by rw [h1]; exact Nat.le_trans Nat.and_le_left (Nat.div_le_self _ _)), h1]
  have n2 : pu_N (xB2 (xB1 x)) = pu_2 8 (pu_1 8 (pu_N x)) := by
    unfold xB2 pu_2
    have h1 : pu_N (xUsh (xB1 x) 2 &&& 3689348814741910323) = pu_1 8 (pu_N x) / 4 &&& pu_m 51 8 := by rw [pu_N_and, hm2, pu_ush _ 2 2 (by decide +kernel), n1]
    have h2 : pu_N (xB1 x &&& 3689348814741910323) = pu_1 8 (pu_N x) &&& pu_m 51 8 := by rw [pu_N_and, hm2, n1]
    have h3 : (pu_1 8 (pu_N x) &&& pu_m 51 8) ≤ pu_m 51 8 := Nat.and_le_right
    have h4 : (pu_1 8 (pu_N x) / 4 &&& pu_m 51 8) ≤ pu_m 51 8 := Nat.and_le_right
    have h5 : pu_m 51 8 = 3689348814741910323 := by decide +kernel
    rw [pu_N_add (by rw [h1, h2]; omega), h1, h2]
  have hb2 : pu_2 8 (pu_1 8 (pu_N x)) ≤ 7378697629483820646 := by
    unfold pu_2
    have h3 : (pu_1 8 (pu_N x) &&& pu_m 51 8) ≤ pu_m 51 8 := Nat.and_le_right
    have h4 : (pu_1 8 (pu_N x) / 4 &&& pu_m 51 8) ≤ pu_m 51 8 := Nat.and_le_right
    have h5 : pu_m 51 8 = 3689348814741910323 := by decide +kernel
    omega
  have n3 : pu_N (xB3 (xB2 (xB1 x))) = pu_3 8 (pu_2 8 (pu_1 8 (pu_N x))) := by
    unfold xB3 pu_3
    have h1 : pu_N (xUsh (xB2 (xB1 x)) 4) = pu_2 8 (pu_1 8 (pu_N x)) / 16 := by rw [pu_ush _ 4 4 (by decide +kernel), n2]
    rw [pu_N_and, hm3, pu_N_add (by rw [h1, n2]; omega), h1, n2]
  have hb3 : pu_3 8 (pu_2 8 (pu_1 8 (pu_N x))) ≤ 1085102592571150095 := by
    unfold pu_3
    have h5 : pu_m 15 8 = 1085102592571150095 := by decide +kernel
    exact Nat.le_trans Nat.and_le_right (Nat.le_of_eq h5)
  obtain ⟨hs, hlt⟩ := pu_pop (pu_N x) n0 _ _ _ rfl rfl rfl
  generalize hw : pu_3 8 (pu_2 8 (pu_1 8 (pu_N x))) = w at hs hlt n3 hb3
  have n4 : pu_N (xB4 (xB3 (xB2 (xB1 x)))) = w + w / 256 := by
    unfold xB4
    have h1 : pu_N (xUsh (xB3 (xB2 (xB1 x))) 8) = w / 256 := by rw [pu_ush _ 8 8 (by decide +kernel), n3]
    rw [pu_N_add (by rw [h1, n3]; omega), h1, n3]
  have n5 : pu_N (xB5 (xB4 (xB3 (xB2 (xB1 x))))) = w + w / 256 + (w + w / 256) / 65536 := by
    unfold xB5
    have h1 : pu_N (xUsh (xB4 (xB3 (xB2 (xB1 x)))) 16) = (w + w / 256) / 65536 := by rw [pu_ush _ 16 16 (by decide +kernel), n4]
    rw [pu_N_add (by rw [h1, n4]; omega), h1, n4]
  have n6 : pu_N (xB6 (xB5 (xB4 (xB3 (xB2 (xB1 x)))))) = w + w / 256 + (w + w / 256) / 65536 + (w + w / 256 + (w + w / 256) / 65536) / 4294967296 := by
    unfold xB6
    have h1 : pu_N (xUsh (xB5 (xB4 (xB3 (xB2 (xB1 x))))) 32) = (w + w / 256 + (w + w / 256) / 65536) / 4294967296 := by rw [pu_ush _ 32 32 (by decide +kernel), n5]
    rw [pu_N_add (by rw [h1, n5]; omega), h1, n5]
  unfold xBits
  rw [pk_and _ 7 (by decide +kernel)]
  have h7 : (Int64.toInt32 (xB6 (xB5 (xB4 (xB3 (xB2 (xB1 x))))))).toBitVec.toNat = pu_N (xB6 (xB5 (xB4 (xB3 (xB2 (xB1 x)))))) % 2 ^ 32 := by
    rw [Int64.toBitVec_toInt32, BitVec.signExtend_eq_setWidth_of_le _ (by decide), BitVec.toNat_setWidth]
    rfl
  have h8 : pu_N (xB6 (xB5 (xB4 (xB3 (xB2 (xB1 x)))))) % 2 ^ 32 % 2 ^ 7 = pu_N (xB6 (xB5 (xB4 (xB3 (xB2 (xB1 x)))))) % 128 := by omega
  rw [h7, h8, n6, hs, ← pu_cnt]
  rfl
