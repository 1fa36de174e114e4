def xUsh (x : Int64) (k : Int32) : Int64 := (((Int64.toUInt64 x) >>> ((Int64.toUInt64 (Int32.toInt64 k)) &&& Int64.toUInt64 63)).toInt64)
def xB1 (x : Int64) : Int64 := x - (xUsh x 1 &&& 6148914691236517205)
def xB2 (x : Int64) : Int64 := (x &&& 3689348814741910323) + (xUsh x 2 &&& 3689348814741910323)
def xB3 (x : Int64) : Int64 := (x + xUsh x 4) &&& 1085102592571150095
def xB4 (x : Int64) : Int64 := x + xUsh x 8
def xB5 (x : Int64) : Int64 := x + xUsh x 16
def xB6 (x : Int64) : Int64 := x + xUsh x 32
def xBits (x : Int64) : Int32 := Int64.toInt32 (xB6 (xB5 (xB4 (xB3 (xB2 (xB1 x)))))) &&& 127
def xHiL (p0 : Int64) : Nat → Int32 → Int64 → Int64
  | 0, _, fd => fd
  | d + 1, lf, fd => if lf ≤ 0 then fd else if xCon p0 (nI d) = 0 then xHiL p0 d lf fd else xHiL p0 d (lf - 1) (fd ||| xSet (nI d))
def xHi (s : Int64) (k : Int32) : Int64 := xHiL s 60 k 0
def xProt (pr : Nat → Int32) (r : Int32) : Int32 := if xRange r 4 = 0 then 0 else if pr r.toNatClampNeg = 0 then 0 else 1
def xTalkL (n : Nat) (fp sp : Nat → Int32) (srv cli : Int64) : Nat → Nat → Int64 → Int64 → Int64 × Nat
  | 0, k, cm, _ => (cm, k)
  | d + 1, k, cm, un => if un = 0 then (cm, k) else xTalkL n fp sp srv cli d (k + 1) (cm ||| xAnc n fp sp (xHi un 4 &&& srv) cli) (un &&& ((xHi un 4 ^^^ (-1)) &&& ((cm ||| xAnc n fp sp (xHi un 4 &&& srv) cli) ^^^ (-1))))
def xTalk (n : Nat) (fp sp : Nat → Int32) (srv cli : Int64) : Int64 × Nat := xTalkL n fp sp srv cli 60 0 0 cli
def xEnds (n : Nat) (fp sp : Nat → Int32) (srv cli an : Int64) : Int32 := if ((an &&& xShallow n fp sp cli) &&& (srv ^^^ (-1))) = 0 then 0 else 1
def xRefuse2 (its : Int32) (an : Int64) (ends : Int32) : Int32 := if its = -1 then 0 else if an = 0 then -4 else if ends = 0 then 0 else -4
def xRefuse (n : Nat) (fp sp rf pr : Nat → Int32) (srv cli : Int64) (r old its : Int32) : Int32 :=
  if xRefOf rf r = old then
    (if xProt pr r = 0 then xRefuse2 its (xAnc n fp sp (xSet its) cli) (xEnds n fp sp srv cli (xAnc n fp sp (xSet its) cli))
     else if old = -1 then xRefuse2 its (xAnc n fp sp (xSet its) cli) (xEnds n fp sp srv cli (xAnc n fp sp (xSet its) cli))
     else if xCon (xAnc n fp sp (xSet its) cli) old = 0 then -3
     else xRefuse2 its (xAnc n fp sp (xSet its) cli) (xEnds n fp sp srv cli (xAnc n fp sp (xSet its) cli)))
  else -2
def xFirstL (f : Nat → Int32) : Nat → Nat → Int32
  | 0, _ => 0
  | d + 1, k => if f k = 0 then xFirstL f d (k + 1) else f k
def xFirst (n : Nat) (fp sp rf pr : Nat → Int32) (srv cli : Int64) (mr mo mn : Nat → Int32) (w : Nat) : Int32 := xFirstL (fun k => xRefuse n fp sp rf pr srv cli (mr k) (mo k) (mn k)) w 0
def xMvStep (mr mn : Nat → Int32) (k : Nat) (z : Int64 × (Nat → Int32)) : Int64 × (Nat → Int32) := (z.1 ||| xSet (mn k), xPoint z.2 (mr k) (mn k))
def xMv (mr mn rf : Nat → Int32) (w : Nat) : Int64 × (Nat → Int32) := itU (xMvStep mr mn) w 0 (0, rf)
theorem lkJ13_bitCount_95d88_314 : Cond.constantLong RJ13 314 (6148914691236517205) ∈ wsJ13_bitCount_95d88 := List.mem_of_getElem? (i := 1) (by decide +kernel)
theorem lkJ13_bitCount_95d88_316 : Cond.constantLong RJ13 316 (3689348814741910323) ∈ wsJ13_bitCount_95d88 := List.mem_of_getElem? (i := 2) (by decide +kernel)
theorem lkJ13_bitCount_95d88_318 : Cond.constantLong RJ13 318 (1085102592571150095) ∈ wsJ13_bitCount_95d88 := List.mem_of_getElem? (i := 3) (by decide +kernel)
abbrev rmJ13_bitCount_95d88 : Room := { frames := 0, cells := 0, slots := 0, locals := 0 }
set_option maxHeartbeats 4000000 in
set_option maxRecDepth 100000 in
theorem ctJ13_bitCount_95d88 (l : Launch) (D : va_G) (cI cZ : ClassId) (q : Nat → Nat) (p0 : Int64) : gM l yJ13_bitCount_95d88 wsJ13_bitCount_95d88 rmJ13_bitCount_95d88 D [(cI, .int), (cZ, .boolean)] w0 (fun _ => True) [.long p0] () (some (.int (xBits p0))) () := by
  refine g_start (cc := cJ13_bitCount_95d88) (maxL := 2) (ret := (some .int)) (by decide) rfl (Nat.le_of_ble_eq_true rfl) ?_
  intro p e s m below meth c A ls Q hx hb hml hret hts hown hlk hE hP hK hD hA hl hQ hS
  have hown : s.vm.findClass RJ13 = some m.cls := hown
  have hl : lv_has ls 2 [(0, .long p0)] := hl
  refine lv_lload_n hx hb dJ13_bitCount_95d88_0 rfl (lv_at hl 0 rfl) ?_
  refine lv_lload_n hx hb dJ13_bitCount_95d88_1 rfl (lv_at hl 0 rfl) ?_
  refine lv_iconst (v := 1) hx hb dJ13_bitCount_95d88_2 (by decide +kernel) ?_
  refine lv_lushr (v := (((Int64.toUInt64 p0) >>> ((Int64.toUInt64 (Int32.toInt64 1)) &&& Int64.toUInt64 63)).toInt64)) hx hb dJ13_bitCount_95d88_3 rfl ?_
  refine lv_ldc2 (v := 6148914691236517205) hx hb hown (hts _ lkJ13_bitCount_95d88_314) dJ13_bitCount_95d88_4 ?_
  refine lv_land hx hb dJ13_bitCount_95d88_7 ?_
  refine lv_lsub hx hb dJ13_bitCount_95d88_8 ?_
  refine W.eq (g2 := F0 m 9 ls [.long (xB1 p0)]) rfl ?_
  refine lv_lstore_n (lv' := [(0, .long (xB1 p0))]) hx hb dJ13_bitCount_95d88_9 rfl hl (by decide) rfl (fun ls hl => ?_)
  refine lv_lload_n hx hb dJ13_bitCount_95d88_10 rfl (lv_at hl 0 rfl) ?_
  refine lv_ldc2 (v := 3689348814741910323) hx hb hown (hts _ lkJ13_bitCount_95d88_316) dJ13_bitCount_95d88_11 ?_
  refine lv_land hx hb dJ13_bitCount_95d88_14 ?_
  refine lv_lload_n hx hb dJ13_bitCount_95d88_15 rfl (lv_at hl 0 rfl) ?_
  refine lv_iconst (v := 2) hx hb dJ13_bitCount_95d88_16 (by decide +kernel) ?_
  refine lv_lushr (v := (((Int64.toUInt64 (xB1 p0)) >>> ((Int64.toUInt64 (Int32.toInt64 2)) &&& Int64.toUInt64 63)).toInt64)) hx hb dJ13_bitCount_95d88_17 rfl ?_
  refine lv_ldc2 (v := 3689348814741910323) hx hb hown (hts _ lkJ13_bitCount_95d88_316) dJ13_bitCount_95d88_18 ?_
  refine lv_land hx hb dJ13_bitCount_95d88_21 ?_
  refine lv_ladd hx hb dJ13_bitCount_95d88_22 ?_
  refine W.eq (g2 := F0 m 23 ls [.long (xB2 (xB1 p0))]) rfl ?_
  refine lv_lstore_n (lv' := [(0, .long (xB2 (xB1 p0)))]) hx hb dJ13_bitCount_95d88_23 rfl hl (by decide) rfl (fun ls hl => ?_)
  refine lv_lload_n hx hb dJ13_bitCount_95d88_24 rfl (lv_at hl 0 rfl) ?_
  refine lv_lload_n hx hb dJ13_bitCount_95d88_25 rfl (lv_at hl 0 rfl) ?_
  refine lv_iconst (v := 4) hx hb dJ13_bitCount_95d88_26 (by decide +kernel) ?_
  refine lv_lushr (v := (((Int64.toUInt64 (xB2 (xB1 p0))) >>> ((Int64.toUInt64 (Int32.toInt64 4)) &&& Int64.toUInt64 63)).toInt64)) hx hb dJ13_bitCount_95d88_27 rfl ?_
  refine lv_ladd hx hb dJ13_bitCount_95d88_28 ?_
  refine lv_ldc2 (v := 1085102592571150095) hx hb hown (hts _ lkJ13_bitCount_95d88_318) dJ13_bitCount_95d88_29 ?_
  refine lv_land hx hb dJ13_bitCount_95d88_32 ?_
  refine W.eq (g2 := F0 m 33 ls [.long (xB3 (xB2 (xB1 p0)))]) rfl ?_
  refine lv_lstore_n (lv' := [(0, .long (xB3 (xB2 (xB1 p0))))]) hx hb dJ13_bitCount_95d88_33 rfl hl (by decide) rfl (fun ls hl => ?_)
  refine lv_lload_n hx hb dJ13_bitCount_95d88_34 rfl (lv_at hl 0 rfl) ?_
  refine lv_lload_n hx hb dJ13_bitCount_95d88_35 rfl (lv_at hl 0 rfl) ?_
  refine lv_bipush (v := 8) hx hb dJ13_bitCount_95d88_36 (by decide +kernel) ?_
  refine lv_lushr (v := (((Int64.toUInt64 (xB3 (xB2 (xB1 p0)))) >>> ((Int64.toUInt64 (Int32.toInt64 8)) &&& Int64.toUInt64 63)).toInt64)) hx hb dJ13_bitCount_95d88_38 rfl ?_
  refine lv_ladd hx hb dJ13_bitCount_95d88_39 ?_
  refine W.eq (g2 := F0 m 40 ls [.long (xB4 (xB3 (xB2 (xB1 p0))))]) rfl ?_
  refine lv_lstore_n (lv' := [(0, .long (xB4 (xB3 (xB2 (xB1 p0)))))]) hx hb dJ13_bitCount_95d88_40 rfl hl (by decide) rfl (fun ls hl => ?_)
  refine lv_lload_n hx hb dJ13_bitCount_95d88_41 rfl (lv_at hl 0 rfl) ?_
  refine lv_lload_n hx hb dJ13_bitCount_95d88_42 rfl (lv_at hl 0 rfl) ?_
  refine lv_bipush (v := 16) hx hb dJ13_bitCount_95d88_43 (by decide +kernel) ?_
  refine lv_lushr (v := (((Int64.toUInt64 (xB4 (xB3 (xB2 (xB1 p0))))) >>> ((Int64.toUInt64 (Int32.toInt64 16)) &&& Int64.toUInt64 63)).toInt64)) hx hb dJ13_bitCount_95d88_45 rfl ?_
  refine lv_ladd hx hb dJ13_bitCount_95d88_46 ?_
  refine W.eq (g2 := F0 m 47 ls [.long (xB5 (xB4 (xB3 (xB2 (xB1 p0)))))]) rfl ?_
  refine lv_lstore_n (lv' := [(0, .long (xB5 (xB4 (xB3 (xB2 (xB1 p0))))))]) hx hb dJ13_bitCount_95d88_47 rfl hl (by decide) rfl (fun ls hl => ?_)
  refine lv_lload_n hx hb dJ13_bitCount_95d88_48 rfl (lv_at hl 0 rfl) ?_
  refine lv_lload_n hx hb dJ13_bitCount_95d88_49 rfl (lv_at hl 0 rfl) ?_
  refine lv_bipush (v := 32) hx hb dJ13_bitCount_95d88_50 (by decide +kernel) ?_
  refine lv_lushr (v := (((Int64.toUInt64 (xB5 (xB4 (xB3 (xB2 (xB1 p0)))))) >>> ((Int64.toUInt64 (Int32.toInt64 32)) &&& Int64.toUInt64 63)).toInt64)) hx hb dJ13_bitCount_95d88_52 rfl ?_
  refine lv_ladd hx hb dJ13_bitCount_95d88_53 ?_
  refine W.eq (g2 := F0 m 54 ls [.long (xB6 (xB5 (xB4 (xB3 (xB2 (xB1 p0))))))]) rfl ?_
  refine lv_lstore_n (lv' := [(0, .long (xB6 (xB5 (xB4 (xB3 (xB2 (xB1 p0)))))))]) hx hb dJ13_bitCount_95d88_54 rfl hl (by decide) rfl (fun ls hl => ?_)
  refine lv_lload_n hx hb dJ13_bitCount_95d88_55 rfl (lv_at hl 0 rfl) ?_
  refine lv_l2i (v := (Int64.toInt32 (xB6 (xB5 (xB4 (xB3 (xB2 (xB1 p0)))))))) hx hb dJ13_bitCount_95d88_56 rfl ?_
  refine lv_bipush (v := 127) hx hb dJ13_bitCount_95d88_57 (by decide +kernel) ?_
  refine lv_iand hx hb dJ13_bitCount_95d88_59 ?_
  refine g_iret hx hb hret hlk hQ hP hD hS dJ13_bitCount_95d88_60 ?_ ?_
  · exact rfl
  · exact rfl
abbrev rmX2_highestOf : Room := { frames := 2, cells := 0, slots := 0, locals := 42 }
set_option maxHeartbeats 4000000 in
set_option maxRecDepth 100000 in
theorem ctX2_highestOf (l : Launch) (D : va_G) (cI cZ : ClassId) (q : Nat → Nat) (p0 : Int64) (p1 : Int32) : gM l yX2_highestOf wsX2_highestOf rmX2_highestOf D [(cI, .int), (cZ, .boolean)] w0 (fun _ => True) [.long p0, .int p1] () (some (.long (xHi p0 p1))) () := by
  refine g_start (cc := cX2_highestOf) (maxL := 7) (ret := (some .long)) (by decide) rfl (Nat.le_of_ble_eq_true rfl) ?_
  intro p e s m below meth c A ls Q hx hb hml hret hts hown hlk hE hP hK hD hA hl hQ hS
  have hown : s.vm.findClass RX2 = some m.cls := hown
  have hl : lv_has ls 7 [(0, .long p0), (2, .int p1)] := hl
  refine lv_lconst (v := 0) hx hb dX2_highestOf_0 (by decide +kernel) ?_
  refine lv_lstore_n (lv' := [(3, .long 0), (0, .long p0), (2, .int p1)]) hx hb dX2_highestOf_1 rfl hl (by decide) rfl (fun ls hl => ?_)
  refine lv_iload_n hx hb dX2_highestOf_2 rfl (lv_at hl 2 rfl) ?_
  refine lv_istore (lv' := [(5, .int p1), (3, .long 0), (0, .long p0), (2, .int p1)]) hx hb dX2_highestOf_3 hl (by decide) rfl (fun ls hl => ?_)
  refine lv_bipush (v := (nI 60 - 1)) hx hb dX2_highestOf_5 (by decide +kernel) ?_
  refine lv_istore (lv' := [(6, .int (nI 60 - 1)), (5, .int p1), (3, .long 0), (0, .long p0), (2, .int p1)]) hx hb dX2_highestOf_7 hl (by decide) rfl (fun ls hl => ?_)
  have loop : ∀ (d : Nat) (lf : Int32) (fd : Int64) (H : Heap) (locs : List Loc) (ls : Array Slot) (hP : va_P D vwCl (w0 ()) H) (hD : va_D A (w0 ())) (hS : va_S A s.heap H locs) (hl : lv_has ls 7 [(0, .long p0), (2, .int p1), (3, .long fd), (5, .int lf), (6, .int (nI d - 1))]) (hd : d ≤ 60) (hr : xHiL p0 d lf fd = xHi p0 p1), W p l e rmX2_highestOf s m ([.long p0, .int p1] : List Value).toArray below meth c H locs 0 0 Q (F0 m 9 ls []) := by
    intro d
    induction d with
    | zero =>
      intro lf fd H locs ls hP hD hS hl hd hr
      refine lv_iload hx hb dX2_highestOf_9 (lv_at hl 4 rfl) ?_
      refine lv_if_lt (tgt := 45) hx hb dX2_highestOf_11 (by decide) (fun c_11 => ?_) (fun c_11 => ?_)
      · refine lv_lload_n hx hb dX2_highestOf_45 rfl (lv_at hl 2 rfl) ?_
        refine g_lret hx hb hret hlk hQ hP hD hS dX2_highestOf_46 ?_ ?_
        · exact (by rw [← hr] <;> rfl)
        · exact rfl
      · exact absurd (by decide +kernel) c_11
    | succ d ih =>
      intro lf fd H locs ls hP hD hS hl hd hr
      rw [nI_pred] at hl
      refine lv_iload hx hb dX2_highestOf_9 (lv_at hl 4 rfl) ?_
      refine lv_if_lt (tgt := 45) hx hb dX2_highestOf_11 (by decide) (fun c_11 => ?_) (fun c_11 => ?_)
      · exact absurd c_11 (nI_pos (by omega))
      · refine lv_iload hx hb dX2_highestOf_14 (lv_at hl 3 rfl) ?_
        refine lv_if_le (tgt := 45) hx hb dX2_highestOf_16 (by decide) (fun c_16 => ?_) (fun c_16 => ?_)
        · refine lv_lload_n hx hb dX2_highestOf_45 rfl (lv_at hl 2 rfl) ?_
          refine g_lret hx hb hret hlk hQ hP hD hS dX2_highestOf_46 ?_ ?_
          · exact (by rw [← hr, xHiL, if_pos c_16])
          · exact rfl
        · refine lv_lload_n hx hb dX2_highestOf_19 rfl (lv_at hl 0 rfl) ?_
          refine lv_iload hx hb dX2_highestOf_20 (lv_at hl 4 rfl) ?_
          refine g_callS0 (As := [.long p0, .int (nI d)]) (rest := []) hx hb hml hown hts (ctX2_contains l D cI cZ q p0 (nI d)) gX2_highestOf_X2_contains rfl rfl rfl hdX2_contains ⟨Nat.le_of_ble_eq_true rfl, Nat.le_of_ble_eq_true rfl⟩ gEM_true trivial hP hK hS hA rfl hl.1 rfl (Nat.le_of_ble_eq_true rfl) dX2_highestOf_22 ⟨Nat.zero_le _, Nat.zero_le _⟩ (fun H locs hP hS => ?_)
          refine W.eq (g2 := F0 m 25 ls [.int (xCon p0 (nI d))]) rfl ?_
          refine lv_if_eq (tgt := 39) hx hb dX2_highestOf_25 (by decide) (fun c_25 => ?_) (fun c_25 => ?_)
          · refine lv_iinc (v := ((nI d) - 1)) (lv' := [(6, .int ((nI d) - 1)), (0, .long p0), (2, .int p1), (3, .long fd), (5, .int lf)]) hx hb dX2_highestOf_39 hl (k := 4) rfl (g_dec1 _) (by decide) rfl (fun ls hl => ?_)
            refine lv_goto (tgt := 9) hx hb dX2_highestOf_42 (by decide) ?_
            exact ih lf fd _ _ _ hP hD hS (lv_sub hl [1, 2, 3, 4, 0] rfl) (by omega) (by rw [← hr, xHiL, if_neg c_16, if_pos c_25])
          · refine lv_lload_n hx hb dX2_highestOf_28 rfl (lv_at hl 2 rfl) ?_
            refine lv_iload hx hb dX2_highestOf_29 (lv_at hl 4 rfl) ?_
            refine g_callS0 (As := [.int (nI d)]) (rest := [.long fd]) hx hb hml hown hts (ctX2_setOf l D cI cZ q (nI d)) gX2_highestOf_X2_setOf rfl rfl rfl hdX2_setOf ⟨Nat.le_of_ble_eq_true rfl, Nat.le_of_ble_eq_true rfl⟩ gEM_true trivial hP hK hS hA rfl hl.1 rfl (Nat.le_of_ble_eq_true rfl) dX2_highestOf_31 ⟨Nat.zero_le _, Nat.zero_le _⟩ (fun H locs hP hS => ?_)
            refine W.eq (g2 := F0 m 34 ls [.long (xSet (nI d)), .long fd]) rfl ?_
            refine lv_lor hx hb dX2_highestOf_34 ?_
            refine lv_lstore_n (lv' := [(3, .long (fd ||| (xSet (nI d)))), (0, .long p0), (2, .int p1), (5, .int lf), (6, .int (nI d))]) hx hb dX2_highestOf_35 rfl hl (by decide) rfl (fun ls hl => ?_)
            refine lv_iinc (v := (lf - 1)) (lv' := [(5, .int (lf - 1)), (3, .long (fd ||| (xSet (nI d)))), (0, .long p0), (2, .int p1), (6, .int (nI d))]) hx hb dX2_highestOf_36 hl (k := 3) rfl (g_dec1 _) (by decide) rfl (fun ls hl => ?_)
            refine lv_iinc (v := ((nI d) - 1)) (lv' := [(6, .int ((nI d) - 1)), (5, .int (lf - 1)), (3, .long (fd ||| (xSet (nI d)))), (0, .long p0), (2, .int p1)]) hx hb dX2_highestOf_39 hl (k := 4) rfl (g_dec1 _) (by decide) rfl (fun ls hl => ?_)
            refine lv_goto (tgt := 9) hx hb dX2_highestOf_42 (by decide) ?_
            exact ih (lf - 1) (fd ||| (xSet (nI d))) _ _ _ hP hD hS (lv_sub hl [3, 4, 2, 1, 0] rfl) (by omega) (by rw [← hr, xHiL, if_neg c_16, if_neg c_25])
  exact loop 60 p1 0 _ _ _ hP hD hS (lv_sub hl [3, 4, 2, 1, 0] rfl) (by omega) rfl
theorem lkX2_storeOf_19 : Cond.fieldLink RX2 19 "FetchHouse" "server" "LFetchHouse$Store;" ∈ wsX2_storeOf := List.mem_of_getElem? (i := 3) (by decide +kernel)
theorem inX2_storeOf_RX2 : ∀ w ∈ u_ws RX2 TX2 9, w ∈ wsX2_storeOf := fun w h => List.mem_cons_of_mem _ (List.mem_append_left _ (List.mem_append_right _ h))
abbrev rmX2_storeOf_0 : Room := { frames := 0, cells := 0, slots := 0, locals := 0 }
set_option maxHeartbeats 4000000 in
set_option maxRecDepth 100000 in
theorem ctX2_storeOf_0 (l : Launch) (D : va_G) (cI cZ : ClassId) (q : Nat → Nat) (u : SX) (p0 : Int32) (h : p0 = 0) : gM l yX2_storeOf wsX2_storeOf rmX2_storeOf_0 D [(cI, .int), (cZ, .boolean)] (XW cI cZ q) XG [.ref (q 0), .int p0] u (some (.ref (q 2))) u := by
  refine g_start (cc := cX2_storeOf) (maxL := 2) (ret := (some (.object "FetchHouse$Store"))) (by decide) rfl (Nat.le_of_ble_eq_true rfl) ?_
  intro p e s m below meth c A ls Q hx hb hml hret hts hown hlk hE hP hK hD hA hl hQ hS
  have hown : s.vm.findClass RX2 = some m.cls := hown
  have hl : lv_has ls 2 [(0, .ref (q 0)), (1, .int p0)] := hl
  refine lv_iload_n hx hb dX2_storeOf_0 rfl (lv_at hl 1 rfl) ?_
  refine lv_if_eq (tgt := 19) hx hb dX2_storeOf_1 (by decide) (fun c_1 => ?_) (fun c_1 => ?_)
  · refine lv_iload_n hx hb dX2_storeOf_19 rfl (lv_at hl 1 rfl) ?_
    refine lv_if_ne (tgt := 30) hx hb dX2_storeOf_20 (by decide) (fun c_20 => ?_) (fun c_20 => ?_)
    · exact absurd h c_20
    · refine lv_aload_n hx hb dX2_storeOf_23 rfl (lv_at hl 0 rfl) ?_
      refine va_get (ci := 2) (v := .ref (q 2)) (C := RX2) (T := TX2) (N := 9) hx hb hts inX2_storeOf_RX2 hown hK hP 0 rfl rfl 1 (by decide) (hts _ lkX2_storeOf_19) (fun _ h9 => h9) rfl dX2_storeOf_24 ?_
      refine lv_goto (tgt := 34) hx hb dX2_storeOf_27 (by decide) ?_
      refine g_aret (u1 := u) hx hb hret (Or.inl ⟨_, rfl⟩) hlk hQ hP hD hS dX2_storeOf_34 ?_ ?_
      · exact rfl
      · exact rfl
  · exact absurd h c_1
theorem lkX2_storeOf_23 : Cond.fieldLink RX2 23 "FetchHouse" "client" "LFetchHouse$Store;" ∈ wsX2_storeOf := List.mem_of_getElem? (i := 4) (by decide +kernel)
abbrev rmX2_storeOf_1 : Room := { frames := 0, cells := 0, slots := 0, locals := 0 }
set_option maxHeartbeats 4000000 in
set_option maxRecDepth 100000 in
theorem ctX2_storeOf_1 (l : Launch) (D : va_G) (cI cZ : ClassId) (q : Nat → Nat) (u : SX) (p0 : Int32) (h : p0 = 1) : gM l yX2_storeOf wsX2_storeOf rmX2_storeOf_1 D [(cI, .int), (cZ, .boolean)] (XW cI cZ q) XG [.ref (q 0), .int p0] u (some (.ref (q 3))) u := by
  refine g_start (cc := cX2_storeOf) (maxL := 2) (ret := (some (.object "FetchHouse$Store"))) (by decide) rfl (Nat.le_of_ble_eq_true rfl) ?_
  intro p e s m below meth c A ls Q hx hb hml hret hts hown hlk hE hP hK hD hA hl hQ hS
  have hown : s.vm.findClass RX2 = some m.cls := hown
  have hl : lv_has ls 2 [(0, .ref (q 0)), (1, .int p0)] := hl
  refine lv_iload_n hx hb dX2_storeOf_0 rfl (lv_at hl 1 rfl) ?_
  refine lv_if_eq (tgt := 19) hx hb dX2_storeOf_1 (by decide) (fun c_1 => ?_) (fun c_1 => ?_)
  · exact absurd (h.symm.trans c_1) (by decide)
  · refine lv_iload_n hx hb dX2_storeOf_4 rfl (lv_at hl 1 rfl) ?_
    refine lv_iconst (v := 1) hx hb dX2_storeOf_5 (by decide +kernel) ?_
    refine lv_icmp_eq (tgt := 19) hx hb dX2_storeOf_6 (by decide) (fun c_6 => ?_) (fun c_6 => ?_)
    · refine lv_iload_n hx hb dX2_storeOf_19 rfl (lv_at hl 1 rfl) ?_
      refine lv_if_ne (tgt := 30) hx hb dX2_storeOf_20 (by decide) (fun c_20 => ?_) (fun c_20 => ?_)
      · refine lv_aload_n hx hb dX2_storeOf_30 rfl (lv_at hl 0 rfl) ?_
        refine va_get (ci := 2) (v := .ref (q 3)) (C := RX2) (T := TX2) (N := 9) hx hb hts inX2_storeOf_RX2 hown hK hP 0 rfl rfl 2 (by decide) (hts _ lkX2_storeOf_23) (fun _ h9 => h9) rfl dX2_storeOf_31 ?_
        refine g_aret (u1 := u) hx hb hret (Or.inl ⟨_, rfl⟩) hlk hQ hP hD hS dX2_storeOf_34 ?_ ?_
        · exact rfl
        · exact rfl
      · exact absurd (h.symm.trans c_20) (by decide)
    · exact absurd h c_6
abbrev rmX2_checkSlot : Room := { frames := 1, cells := 0, slots := 0, locals := 20 }
set_option maxHeartbeats 4000000 in
set_option maxRecDepth 100000 in
theorem ctX2_checkSlot (l : Launch) (D : va_G) (cI cZ : ClassId) (q : Nat → Nat) (p0 : Int32) (h : ¬ xRange p0 4 = 0) : gM l yX2_checkSlot wsX2_checkSlot rmX2_checkSlot D [(cI, .int), (cZ, .boolean)] w0 (fun _ => True) [.int p0] () none () := by
  refine g_start (cc := cX2_checkSlot) (maxL := 1) (ret := none) (by decide) rfl (Nat.le_of_ble_eq_true rfl) ?_
  intro p e s m below meth c A ls Q hx hb hml hret hts hown hlk hE hP hK hD hA hl hQ hS
  have hown : s.vm.findClass RX2 = some m.cls := hown
  have hl : lv_has ls 1 [(0, .int p0)] := hl
  refine lv_iload_n hx hb dX2_checkSlot_0 rfl (lv_at hl 0 rfl) ?_
  refine g_callS0 (As := [.int p0]) (rest := []) hx hb hml hown hts (ctX2_isSlot l D cI cZ q p0) gX2_checkSlot_X2_isSlot rfl rfl rfl hdX2_isSlot ⟨Nat.le_of_ble_eq_true rfl, Nat.le_of_ble_eq_true rfl⟩ gEM_true trivial hP hK hS hA rfl hl.1 rfl (Nat.le_of_ble_eq_true rfl) dX2_checkSlot_1 ⟨Nat.zero_le _, Nat.zero_le _⟩ (fun H locs hP hS => ?_)
  refine W.eq (g2 := F0 m 4 ls [.int (xRange p0 4)]) rfl ?_
  refine lv_if_ne (tgt := 17) hx hb dX2_checkSlot_4 (by decide) (fun c_4 => ?_) (fun c_4 => ?_)
  · refine g_vret hx hb hret hlk hQ hP hD hS dX2_checkSlot_17 ?_ ?_
    · exact rfl
    · exact rfl
  · exact absurd c_4 h
abbrev rmX2_checkRef : Room := { frames := 1, cells := 0, slots := 0, locals := 20 }
set_option maxHeartbeats 4000000 in
set_option maxRecDepth 100000 in
theorem ctX2_checkRef (l : Launch) (D : va_G) (cI cZ : ClassId) (q : Nat → Nat) (p0 : Int32) (h : ¬ xRange p0 4 = 0) : gM l yX2_checkRef wsX2_checkRef rmX2_checkRef D [(cI, .int), (cZ, .boolean)] w0 (fun _ => True) [.int p0] () none () := by
  refine g_start (cc := cX2_checkRef) (maxL := 1) (ret := none) (by decide) rfl (Nat.le_of_ble_eq_true rfl) ?_
  intro p e s m below meth c A ls Q hx hb hml hret hts hown hlk hE hP hK hD hA hl hQ hS
  have hown : s.vm.findClass RX2 = some m.cls := hown
  have hl : lv_has ls 1 [(0, .int p0)] := hl
  refine lv_iload_n hx hb dX2_checkRef_0 rfl (lv_at hl 0 rfl) ?_
  refine g_callS0 (As := [.int p0]) (rest := []) hx hb hml hown hts (ctX2_isRef l D cI cZ q p0) gX2_checkRef_X2_isRef rfl rfl rfl hdX2_isRef ⟨Nat.le_of_ble_eq_true rfl, Nat.le_of_ble_eq_true rfl⟩ gEM_true trivial hP hK hS hA rfl hl.1 rfl (Nat.le_of_ble_eq_true rfl) dX2_checkRef_1 ⟨Nat.zero_le _, Nat.zero_le _⟩ (fun H locs hP hS => ?_)
  refine W.eq (g2 := F0 m 4 ls [.int (xRange p0 4)]) rfl ?_
  refine lv_if_ne (tgt := 17) hx hb dX2_checkRef_4 (by decide) (fun c_4 => ?_) (fun c_4 => ?_)
  · refine g_vret hx hb hret hlk hQ hP hD hS dX2_checkRef_17 ?_ ?_
    · exact rfl
    · exact rfl
  · exact absurd c_4 h
abbrev rmX2_checkFile : Room := { frames := 1, cells := 0, slots := 0, locals := 20 }
set_option maxHeartbeats 4000000 in
set_option maxRecDepth 100000 in
theorem ctX2_checkFile (l : Launch) (D : va_G) (cI cZ : ClassId) (q : Nat → Nat) (p0 : Int32) (h : ¬ xRange p0 100 = 0) : gM l yX2_checkFile wsX2_checkFile rmX2_checkFile D [(cI, .int), (cZ, .boolean)] w0 (fun _ => True) [.int p0] () none () := by
  refine g_start (cc := cX2_checkFile) (maxL := 1) (ret := none) (by decide) rfl (Nat.le_of_ble_eq_true rfl) ?_
  intro p e s m below meth c A ls Q hx hb hml hret hts hown hlk hE hP hK hD hA hl hQ hS
  have hown : s.vm.findClass RX2 = some m.cls := hown
  have hl : lv_has ls 1 [(0, .int p0)] := hl
  refine lv_iload_n hx hb dX2_checkFile_0 rfl (lv_at hl 0 rfl) ?_
  refine g_callS0 (As := [.int p0]) (rest := []) hx hb hml hown hts (ctX2_isFile l D cI cZ q p0) gX2_checkFile_X2_isFile rfl rfl rfl hdX2_isFile ⟨Nat.le_of_ble_eq_true rfl, Nat.le_of_ble_eq_true rfl⟩ gEM_true trivial hP hK hS hA rfl hl.1 rfl (Nat.le_of_ble_eq_true rfl) dX2_checkFile_1 ⟨Nat.zero_le _, Nat.zero_le _⟩ (fun H locs hP hS => ?_)
  refine W.eq (g2 := F0 m 4 ls [.int (xRange p0 100)]) rfl ?_
  refine lv_if_ne (tgt := 17) hx hb dX2_checkFile_4 (by decide) (fun c_4 => ?_) (fun c_4 => ?_)
  · refine g_vret hx hb hret hlk hQ hP hD hS dX2_checkFile_17 ?_ ?_
    · exact rfl
    · exact rfl
  · exact absurd c_4 h
theorem lkX2_checkCommit_10 : Cond.fieldLink RX2 10 "FetchHouse" "history" "LFetchHouse$History;" ∈ wsX2_checkCommit := List.mem_of_getElem? (i := 3) (by decide +kernel)
theorem inX2_checkCommit_RX2 : ∀ w ∈ u_ws RX2 TX2 9, w ∈ wsX2_checkCommit := fun w h => List.mem_cons_of_mem _ (List.mem_append_left _ (List.mem_append_left _ (List.mem_append_right _ h)))
theorem inX2_checkCommit_RX0 : ∀ w ∈ u_ws RX0 TX0 6, w ∈ wsX2_checkCommit := fun w h => List.mem_cons_of_mem _ (List.mem_append_left _ (List.mem_append_right _ h))
abbrev rmX2_checkCommit : Room := { frames := 1, cells := 0, slots := 0, locals := 21 }
set_option maxHeartbeats 4000000 in
set_option maxRecDepth 100000 in
theorem ctX2_checkCommit (l : Launch) (D : va_G) (cI cZ : ClassId) (q : Nat → Nat) (u : SX) (n : Nat) (hn : u.1 15 0 = nI n) (h60 : n ≤ 60) (p0 : Int32) (h : ¬ xRange p0 (nI n) = 0) : gM l yX2_checkCommit wsX2_checkCommit rmX2_checkCommit D [(cI, .int), (cZ, .boolean)] (XW cI cZ q) XG [.ref (q 0), .int p0] u none u := by
  refine g_start (cc := cX2_checkCommit) (maxL := 2) (ret := none) (by decide) rfl (Nat.le_of_ble_eq_true rfl) ?_
  intro p e s m below meth c A ls Q hx hb hml hret hts hown hlk hE hP hK hD hA hl hQ hS
  have hown : s.vm.findClass RX2 = some m.cls := hown
  have hl : lv_has ls 2 [(0, .ref (q 0)), (1, .int p0)] := hl
  refine lv_aload_n hx hb dX2_checkCommit_0 rfl (lv_at hl 0 rfl) ?_
  refine va_get (ci := 2) (v := .ref (q 1)) (C := RX2) (T := TX2) (N := 9) hx hb hts inX2_checkCommit_RX2 hown hK hP 0 rfl rfl 0 (by decide) (hts _ lkX2_checkCommit_10) (fun _ h9 => h9) rfl dX2_checkCommit_1 ?_
  refine lv_iload_n hx hb dX2_checkCommit_4 rfl (lv_at hl 1 rfl) ?_
  refine g_callV (As := [.int p0]) (rest := []) hx hb hml hown hts (ctX0_isCommit l D cI cZ q u n hn h60 p0) gX2_checkCommit_X0_isCommit rfl rfl rfl hdX0_isCommit ⟨Nat.le_of_ble_eq_true rfl, Nat.le_of_ble_eq_true rfl⟩ XG_em hE hP hK hD hS hA 1 rfl rfl rfl hl.1 rfl (Nat.le_of_ble_eq_true rfl) dX2_checkCommit_5 ⟨Nat.zero_le _, Nat.zero_le _⟩ (fun H locs hP hD hS => ?_)
  have hP : va_P D vwCl (XW cI cZ q u) H := hP
  have hD : va_D A (XW cI cZ q u) := hD
  refine W.eq (g2 := F0 m 8 ls [.int (xRange p0 (nI n))]) rfl ?_
  refine lv_if_ne (tgt := 21) hx hb dX2_checkCommit_8 (by decide) (fun c_8 => ?_) (fun c_8 => ?_)
  · refine g_vret (u1 := u) hx hb hret hlk hQ hP hD hS dX2_checkCommit_21 ?_ ?_
    · exact rfl
    · exact rfl
  · exact absurd c_8 h
theorem inX2_checkCommitOrNone_RX2 : ∀ w ∈ u_ws RX2 TX2 9, w ∈ wsX2_checkCommitOrNone := fun w h => List.mem_cons_of_mem _ (List.mem_append_left _ (List.mem_append_left _ (List.mem_append_right _ h)))
theorem inX2_checkCommitOrNone_RX0 : ∀ w ∈ u_ws RX0 TX0 6, w ∈ wsX2_checkCommitOrNone := fun w h => List.mem_cons_of_mem _ (List.mem_append_left _ (List.mem_append_right _ h))
abbrev rmX2_checkCommitOrNone : Room := { frames := 2, cells := 0, slots := 0, locals := 42 }
set_option maxHeartbeats 4000000 in
set_option maxRecDepth 100000 in
theorem ctX2_checkCommitOrNone (l : Launch) (D : va_G) (cI cZ : ClassId) (q : Nat → Nat) (u : SX) (n : Nat) (hn : u.1 15 0 = nI n) (h60 : n ≤ 60) (p0 : Int32) (h : p0 = -1 ∨ ¬ xRange p0 (nI n) = 0) : gM l yX2_checkCommitOrNone wsX2_checkCommitOrNone rmX2_checkCommitOrNone D [(cI, .int), (cZ, .boolean)] (XW cI cZ q) XG [.ref (q 0), .int p0] u none u := by
  refine g_start (cc := cX2_checkCommitOrNone) (maxL := 2) (ret := none) (by decide) rfl (Nat.le_of_ble_eq_true rfl) ?_
  intro p e s m below meth c A ls Q hx hb hml hret hts hown hlk hE hP hK hD hA hl hQ hS
  have hown : s.vm.findClass RX2 = some m.cls := hown
  have hl : lv_has ls 2 [(0, .ref (q 0)), (1, .int p0)] := hl
  refine lv_iload_n hx hb dX2_checkCommitOrNone_0 rfl (lv_at hl 1 rfl) ?_
  refine lv_iconst (v := (-1)) hx hb dX2_checkCommitOrNone_1 (by decide +kernel) ?_
  refine lv_icmp_eq (tgt := 10) hx hb dX2_checkCommitOrNone_2 (by decide) (fun c_2 => ?_) (fun c_2 => ?_)
  · refine g_vret (u1 := u) hx hb hret hlk hQ hP hD hS dX2_checkCommitOrNone_10 ?_ ?_
    · exact rfl
    · exact rfl
  · refine lv_aload_n hx hb dX2_checkCommitOrNone_5 rfl (lv_at hl 0 rfl) ?_
    refine lv_iload_n hx hb dX2_checkCommitOrNone_6 rfl (lv_at hl 1 rfl) ?_
    refine g_callV (As := [.int p0]) (rest := []) hx hb hml hown hts (ctX2_checkCommit l D cI cZ q u n hn h60 p0 (h.resolve_left c_2)) gX2_checkCommitOrNone_X2_checkCommit rfl rfl rfl hdX2_checkCommit ⟨Nat.le_of_ble_eq_true rfl, Nat.le_of_ble_eq_true rfl⟩ XG_em hE hP hK hD hS hA 0 rfl rfl rfl hl.1 rfl (Nat.le_of_ble_eq_true rfl) dX2_checkCommitOrNone_7 ⟨Nat.zero_le _, Nat.zero_le _⟩ (fun H locs hP hD hS => ?_)
    have hP : va_P D vwCl (XW cI cZ q u) H := hP
    have hD : va_D A (XW cI cZ q u) := hD
    refine W.eq (g2 := F0 m 10 ls []) rfl ?_
    refine g_vret (u1 := u) hx hb hret hlk hQ hP hD hS dX2_checkCommitOrNone_10 ?_ ?_
    · exact rfl
    · exact rfl
theorem inX2_checkHeldOrNone_RX1 : ∀ w ∈ u_ws RX1 TX1 3, w ∈ wsX2_checkHeldOrNone := fun w h => List.mem_cons_of_mem _ (List.mem_append_left _ (List.mem_append_right _ h))
abbrev rmX2_checkHeldOrNone_0 : Room := { frames := 2, cells := 0, slots := 0, locals := 42 }
set_option maxHeartbeats 4000000 in
set_option maxRecDepth 100000 in
theorem ctX2_checkHeldOrNone_0 (l : Launch) (D : va_G) (cI cZ : ClassId) (q : Nat → Nat) (u : SX) (p1 : Int32) (h : p1 = -1 ∨ ¬ xCon (u.2 0) p1 = 0) : gM l yX2_checkHeldOrNone wsX2_checkHeldOrNone rmX2_checkHeldOrNone_0 D [(cI, .int), (cZ, .boolean)] (XW cI cZ q) XG [.ref (q 2), .int p1] u none u := by
  refine g_start (cc := cX2_checkHeldOrNone) (maxL := 2) (ret := none) (by decide) rfl (Nat.le_of_ble_eq_true rfl) ?_
  intro p e s m below meth c A ls Q hx hb hml hret hts hown hlk hE hP hK hD hA hl hQ hS
  have hown : s.vm.findClass RX2 = some m.cls := hown
  have hl : lv_has ls 2 [(0, .ref (q 2)), (1, .int p1)] := hl
  refine lv_iload_n hx hb dX2_checkHeldOrNone_0 rfl (lv_at hl 1 rfl) ?_
  refine lv_iconst (v := (-1)) hx hb dX2_checkHeldOrNone_1 (by decide +kernel) ?_
  refine lv_icmp_eq (tgt := 26) hx hb dX2_checkHeldOrNone_2 (by decide) (fun c_2 => ?_) (fun c_2 => ?_)
  · refine g_vret (u1 := u) hx hb hret hlk hQ hP hD hS dX2_checkHeldOrNone_26 ?_ ?_
    · exact rfl
    · exact rfl
  · refine lv_aload_n hx hb dX2_checkHeldOrNone_5 rfl (lv_at hl 0 rfl) ?_
    refine va_getN (host := "FetchHouse") (ci := 1) (v := .long (u.2 0)) (C := RX1) (T := TX1) (N := 3) hx hb hts inX2_checkHeldOrNone_RX1 hown hK hP 2 rfl rfl 0 (by decide) (va_Nw.use rfl (hE.1 _ (List.mem_of_getElem? (i := 0) rfl))) (fun _ h9 => h9) rfl dX2_checkHeldOrNone_6 ?_
    refine lv_iload_n hx hb dX2_checkHeldOrNone_9 rfl (lv_at hl 1 rfl) ?_
    refine g_callS0 (As := [.long (u.2 0), .int p1]) (rest := []) hx hb hml hown hts (ctX2_contains l D cI cZ q (u.2 0) p1) gX2_checkHeldOrNone_X2_contains rfl rfl rfl hdX2_contains ⟨Nat.le_of_ble_eq_true rfl, Nat.le_of_ble_eq_true rfl⟩ gEM_true trivial hP hK hS hA rfl hl.1 rfl (Nat.le_of_ble_eq_true rfl) dX2_checkHeldOrNone_10 ⟨Nat.zero_le _, Nat.zero_le _⟩ (fun H locs hP hS => ?_)
    refine W.eq (g2 := F0 m 13 ls [.int (xCon (u.2 0) p1)]) rfl ?_
    refine lv_if_ne (tgt := 26) hx hb dX2_checkHeldOrNone_13 (by decide) (fun c_13 => ?_) (fun c_13 => ?_)
    · refine g_vret (u1 := u) hx hb hret hlk hQ hP hD hS dX2_checkHeldOrNone_26 ?_ ?_
      · exact rfl
      · exact rfl
    · exact absurd c_13 (h.resolve_left c_2)
abbrev rmX2_checkHeldOrNone_1 : Room := { frames := 2, cells := 0, slots := 0, locals := 42 }
set_option maxHeartbeats 4000000 in
set_option maxRecDepth 100000 in
theorem ctX2_checkHeldOrNone_1 (l : Launch) (D : va_G) (cI cZ : ClassId) (q : Nat → Nat) (u : SX) (p1 : Int32) (h : p1 = -1 ∨ ¬ xCon (u.2 1) p1 = 0) : gM l yX2_checkHeldOrNone wsX2_checkHeldOrNone rmX2_checkHeldOrNone_1 D [(cI, .int), (cZ, .boolean)] (XW cI cZ q) XG [.ref (q 3), .int p1] u none u := by
  refine g_start (cc := cX2_checkHeldOrNone) (maxL := 2) (ret := none) (by decide) rfl (Nat.le_of_ble_eq_true rfl) ?_
  intro p e s m below meth c A ls Q hx hb hml hret hts hown hlk hE hP hK hD hA hl hQ hS
  have hown : s.vm.findClass RX2 = some m.cls := hown
  have hl : lv_has ls 2 [(0, .ref (q 3)), (1, .int p1)] := hl
  refine lv_iload_n hx hb dX2_checkHeldOrNone_0 rfl (lv_at hl 1 rfl) ?_
  refine lv_iconst (v := (-1)) hx hb dX2_checkHeldOrNone_1 (by decide +kernel) ?_
  refine lv_icmp_eq (tgt := 26) hx hb dX2_checkHeldOrNone_2 (by decide) (fun c_2 => ?_) (fun c_2 => ?_)
  · refine g_vret (u1 := u) hx hb hret hlk hQ hP hD hS dX2_checkHeldOrNone_26 ?_ ?_
    · exact rfl
    · exact rfl
  · refine lv_aload_n hx hb dX2_checkHeldOrNone_5 rfl (lv_at hl 0 rfl) ?_
    refine va_getN (host := "FetchHouse") (ci := 1) (v := .long (u.2 1)) (C := RX1) (T := TX1) (N := 3) hx hb hts inX2_checkHeldOrNone_RX1 hown hK hP 3 rfl rfl 0 (by decide) (va_Nw.use rfl (hE.1 _ (List.mem_of_getElem? (i := 0) rfl))) (fun _ h9 => h9) rfl dX2_checkHeldOrNone_6 ?_
    refine lv_iload_n hx hb dX2_checkHeldOrNone_9 rfl (lv_at hl 1 rfl) ?_
    refine g_callS0 (As := [.long (u.2 1), .int p1]) (rest := []) hx hb hml hown hts (ctX2_contains l D cI cZ q (u.2 1) p1) gX2_checkHeldOrNone_X2_contains rfl rfl rfl hdX2_contains ⟨Nat.le_of_ble_eq_true rfl, Nat.le_of_ble_eq_true rfl⟩ gEM_true trivial hP hK hS hA rfl hl.1 rfl (Nat.le_of_ble_eq_true rfl) dX2_checkHeldOrNone_10 ⟨Nat.zero_le _, Nat.zero_le _⟩ (fun H locs hP hS => ?_)
    refine W.eq (g2 := F0 m 13 ls [.int (xCon (u.2 1) p1)]) rfl ?_
    refine lv_if_ne (tgt := 26) hx hb dX2_checkHeldOrNone_13 (by decide) (fun c_13 => ?_) (fun c_13 => ?_)
    · refine g_vret (u1 := u) hx hb hret hlk hQ hP hD hS dX2_checkHeldOrNone_26 ?_ ?_
      · exact rfl
      · exact rfl
    · exact absurd c_13 (h.resolve_left c_2)
theorem lkX2_isProtectedRef_26 : Cond.fieldLink RX2 26 "FetchHouse" "protectedRefs" "[Z" ∈ wsX2_isProtectedRef := List.mem_of_getElem? (i := 1) (by decide +kernel)
theorem inX2_isProtectedRef_RX2 : ∀ w ∈ u_ws RX2 TX2 9, w ∈ wsX2_isProtectedRef := fun w h => List.mem_cons_of_mem _ (List.mem_append_right _ h)
abbrev rmX2_isProtectedRef : Room := { frames := 1, cells := 0, slots := 0, locals := 20 }
set_option maxHeartbeats 4000000 in
set_option maxRecDepth 100000 in
theorem ctX2_isProtectedRef (l : Launch) (D : va_G) (cI cZ : ClassId) (q : Nat → Nat) (u : SX) (p0 : Int32) : gM l yX2_isProtectedRef wsX2_isProtectedRef rmX2_isProtectedRef D [(cI, .int), (cZ, .boolean)] (XW cI cZ q) XG [.ref (q 0), .int p0] u (some (.int (xProt (u.1 9) p0))) u := by
  refine g_start (cc := cX2_isProtectedRef) (maxL := 2) (ret := (some .boolean)) (by decide) rfl (Nat.le_of_ble_eq_true rfl) ?_
  intro p e s m below meth c A ls Q hx hb hml hret hts hown hlk hE hP hK hD hA hl hQ hS
  have hown : s.vm.findClass RX2 = some m.cls := hown
  have hl : lv_has ls 2 [(0, .ref (q 0)), (1, .int p0)] := hl
  refine lv_iload_n hx hb dX2_isProtectedRef_0 rfl (lv_at hl 1 rfl) ?_
  refine g_callS0 (As := [.int p0]) (rest := []) hx hb hml hown hts (ctX2_isRef l D cI cZ q p0) gX2_isProtectedRef_X2_isRef rfl rfl rfl hdX2_isRef ⟨Nat.le_of_ble_eq_true rfl, Nat.le_of_ble_eq_true rfl⟩ gEM_true trivial hP hK hS hA rfl hl.1 rfl (Nat.le_of_ble_eq_true rfl) dX2_isProtectedRef_1 ⟨Nat.zero_le _, Nat.zero_le _⟩ (fun H locs hP hS => ?_)
  refine W.eq (g2 := F0 m 4 ls [.int (xRange p0 4)]) rfl ?_
  refine lv_if_eq (tgt := 20) hx hb dX2_isProtectedRef_4 (by decide) (fun c_4 => ?_) (fun c_4 => ?_)
  · refine lv_iconst (v := 0) hx hb dX2_isProtectedRef_20 (by decide +kernel) ?_
    refine g_zret (u1 := u) hx hb hret hlk hQ hP hD hS dX2_isProtectedRef_21 ?_ ?_ ?_
    · exact rfl
    · exact by unfold xProt; rw [if_pos c_4]
    · exact rfl
  · obtain ⟨j, hj, hj2⟩ := xRange_ne (n := 4) rfl (by omega) c_4
    refine lv_aload_n hx hb dX2_isProtectedRef_7 rfl (lv_at hl 0 rfl) ?_
    refine va_get (ci := 2) (v := .ref (q 13)) (C := RX2) (T := TX2) (N := 9) hx hb hts inX2_isProtectedRef_RX2 hown hK hP 0 rfl rfl 3 (by decide) (hts _ lkX2_isProtectedRef_26) (fun _ h9 => h9) rfl dX2_isProtectedRef_8 ?_
    refine lv_iload_n hx hb dX2_isProtectedRef_11 rfl (lv_at hl 1 rfl) ?_
    refine g_zald (n := 4) (f := (u.1 9)) hx hb hK hP 13 1 rfl rfl j (by omega) (by omega) hj2 dX2_isProtectedRef_12 ?_
    refine lv_if_eq (tgt := 20) hx hb dX2_isProtectedRef_13 (by decide) (fun c_13 => ?_) (fun c_13 => ?_)
    · refine lv_iconst (v := 0) hx hb dX2_isProtectedRef_20 (by decide +kernel) ?_
      refine g_zret (u1 := u) hx hb hret hlk hQ hP hD hS dX2_isProtectedRef_21 ?_ ?_ ?_
      · exact rfl
      · exact by unfold xProt; rw [if_neg c_4, hj2, nI_clamp (by omega), if_pos c_13]
      · exact rfl
    · refine lv_iconst (v := 1) hx hb dX2_isProtectedRef_16 (by decide +kernel) ?_
      refine lv_goto (tgt := 21) hx hb dX2_isProtectedRef_17 (by decide) ?_
      refine g_zret (u1 := u) hx hb hret hlk hQ hP hD hS dX2_isProtectedRef_21 ?_ ?_ ?_
      · exact rfl
      · exact by unfold xProt; rw [if_neg c_4, hj2, nI_clamp (by omega), if_neg c_13]
      · exact rfl
theorem lkX2_commitToFetch_19 : Cond.fieldLink RX2 19 "FetchHouse" "server" "LFetchHouse$Store;" ∈ wsX2_commitToFetch := List.mem_of_getElem? (i := 5) (by decide +kernel)
theorem inX2_commitToFetch_RX2 : ∀ w ∈ u_ws RX2 TX2 9, w ∈ wsX2_commitToFetch := fun w h => List.mem_cons_of_mem _ (List.mem_append_left _ (List.mem_append_left _ (List.mem_append_left _ (List.mem_append_left _ (List.mem_append_right _ h)))))
theorem inX2_commitToFetch_RX1 : ∀ w ∈ u_ws RX1 TX1 3, w ∈ wsX2_commitToFetch := fun w h => List.mem_cons_of_mem _ (List.mem_append_left _ (List.mem_append_left _ (List.mem_append_left _ (List.mem_append_right _ h))))
abbrev rmX2_commitToFetch : Room := { frames := 2, cells := 0, slots := 0, locals := 41 }
set_option maxHeartbeats 4000000 in
set_option maxRecDepth 100000 in
theorem ctX2_commitToFetch (l : Launch) (D : va_G) (cI cZ : ClassId) (q : Nat → Nat) (u : SX) (p0 p1 : Int32) (h1 : ¬ xRange p0 4 = 0) (h2 : ¬ p1 < 0) (h3 : p1 ≤ 60) (h4 : ¬ xRefOf (u.1 6) p0 = -1) : gM l yX2_commitToFetch wsX2_commitToFetch rmX2_commitToFetch D [(cI, .int), (cZ, .boolean)] (XW cI cZ q) XG [.ref (q 0), .int p0, .int p1] u (some (.int (xRefOf (u.1 6) p0))) u := by
  refine g_start (cc := cX2_commitToFetch) (maxL := 4) (ret := (some .int)) (by decide) rfl (Nat.le_of_ble_eq_true rfl) ?_
  intro p e s m below meth c A ls Q hx hb hml hret hts hown hlk hE hP hK hD hA hl hQ hS
  have hown : s.vm.findClass RX2 = some m.cls := hown
  have hl : lv_has ls 4 [(0, .ref (q 0)), (1, .int p0), (2, .int p1)] := hl
  refine lv_iload_n hx hb dX2_commitToFetch_0 rfl (lv_at hl 1 rfl) ?_
  refine g_callS0 (As := [.int p0]) (rest := []) hx hb hml hown hts (ctX2_checkRef l D cI cZ q p0 h1) gX2_commitToFetch_X2_checkRef rfl rfl rfl hdX2_checkRef ⟨Nat.le_of_ble_eq_true rfl, Nat.le_of_ble_eq_true rfl⟩ gEM_true trivial hP hK hS hA rfl hl.1 rfl (Nat.le_of_ble_eq_true rfl) dX2_commitToFetch_1 ⟨Nat.zero_le _, Nat.zero_le _⟩ (fun H locs hP hS => ?_)
  refine W.eq (g2 := F0 m 4 ls []) rfl ?_
  refine lv_iload_n hx hb dX2_commitToFetch_4 rfl (lv_at hl 2 rfl) ?_
  refine lv_if_lt (tgt := 14) hx hb dX2_commitToFetch_5 (by decide) (fun c_5 => ?_) (fun c_5 => ?_)
  · exact absurd c_5 h2
  · refine lv_iload_n hx hb dX2_commitToFetch_8 rfl (lv_at hl 2 rfl) ?_
    refine lv_bipush (v := 60) hx hb dX2_commitToFetch_9 (by decide +kernel) ?_
    refine lv_icmp_le (tgt := 24) hx hb dX2_commitToFetch_11 (by decide) (fun c_11 => ?_) (fun c_11 => ?_)
    · refine lv_aload_n hx hb dX2_commitToFetch_24 rfl (lv_at hl 0 rfl) ?_
      refine va_get (ci := 2) (v := .ref (q 2)) (C := RX2) (T := TX2) (N := 9) hx hb hts inX2_commitToFetch_RX2 hown hK hP 0 rfl rfl 1 (by decide) (hts _ lkX2_commitToFetch_19) (fun _ h9 => h9) rfl dX2_commitToFetch_25 ?_
      refine lv_iload_n hx hb dX2_commitToFetch_28 rfl (lv_at hl 1 rfl) ?_
      refine g_callV (As := [.int p0]) (rest := []) hx hb hml hown hts (ctX1_commitOfRef_0 l D cI cZ q u p0) gX2_commitToFetch_X1_commitOfRef rfl rfl rfl hdX1_commitOfRef ⟨Nat.le_of_ble_eq_true rfl, Nat.le_of_ble_eq_true rfl⟩ XG_em hE hP hK hD hS hA 2 rfl rfl rfl hl.1 rfl (Nat.le_of_ble_eq_true rfl) dX2_commitToFetch_29 ⟨Nat.zero_le _, Nat.zero_le _⟩ (fun H locs hP hD hS => ?_)
      have hP : va_P D vwCl (XW cI cZ q u) H := hP
      have hD : va_D A (XW cI cZ q u) := hD
      refine W.eq (g2 := F0 m 32 ls [.int (xRefOf (u.1 6) p0)]) rfl ?_
      refine lv_istore_n (lv' := [(3, .int (xRefOf (u.1 6) p0)), (0, .ref (q 0)), (1, .int p0), (2, .int p1)]) hx hb dX2_commitToFetch_32 rfl hl (by decide) rfl (fun ls hl => ?_)
      refine lv_iload_n hx hb dX2_commitToFetch_33 rfl (lv_at hl 0 rfl) ?_
      refine lv_iconst (v := (-1)) hx hb dX2_commitToFetch_34 (by decide +kernel) ?_
      refine lv_icmp_ne (tgt := 48) hx hb dX2_commitToFetch_35 (by decide) (fun c_35 => ?_) (fun c_35 => ?_)
      · refine lv_iload_n hx hb dX2_commitToFetch_48 rfl (lv_at hl 0 rfl) ?_
        refine g_iret (u1 := u) hx hb hret hlk hQ hP hD hS dX2_commitToFetch_49 ?_ ?_
        · exact rfl
        · exact rfl
      · exact absurd c_35 h4
    · exact absurd h3 c_11
theorem lkX2_talk_10 : Cond.fieldLink RX2 10 "FetchHouse" "history" "LFetchHouse$History;" ∈ wsX2_talk := List.mem_of_getElem? (i := 2) (by decide +kernel)
theorem lkX2_talk_115 : Cond.constantLong RX2 115 (-1) ∈ wsX2_talk := List.mem_of_getElem? (i := 4) (by decide +kernel)
theorem lkX2_talk_131 : Cond.fieldLink RX2 131 "FetchHouse" "latestRounds" "I" ∈ wsX2_talk := List.mem_of_getElem? (i := 5) (by decide +kernel)
theorem lkX2_talk_19 : Cond.fieldLink RX2 19 "FetchHouse" "server" "LFetchHouse$Store;" ∈ wsX2_talk := List.mem_of_getElem? (i := 3) (by decide +kernel)
theorem lkX2_talk_23 : Cond.fieldLink RX2 23 "FetchHouse" "client" "LFetchHouse$Store;" ∈ wsX2_talk := List.mem_of_getElem? (i := 1) (by decide +kernel)
theorem inX2_talk_RX2 : ∀ w ∈ u_ws RX2 TX2 9, w ∈ wsX2_talk := fun w h => List.mem_cons_of_mem _ (List.mem_append_left _ (List.mem_append_left _ (List.mem_append_right _ h)))
theorem inX2_talk_RX1 : ∀ w ∈ u_ws RX1 TX1 3, w ∈ wsX2_talk := fun w h => List.mem_cons_of_mem _ (List.mem_append_left _ (List.mem_append_right _ h))
theorem inX2_talk_RX0 : ∀ w ∈ u_ws RX0 TX0 6, w ∈ wsX2_talk := fun w h => List.mem_cons_of_mem _ (List.mem_append_right _ h)
abbrev rmX2_talk : Room := { frames := 4, cells := 0, slots := 0, locals := 96 }
set_option maxHeartbeats 4000000 in
set_option maxRecDepth 100000 in
theorem ctX2_talk (l : Launch) (D : va_G) (cI cZ : ClassId) (q : Nat → Nat) (u : SX) (n : Nat) (hn : u.1 15 0 = nI n) (h60 : n ≤ 60) : gM l yX2_talk wsX2_talk rmX2_talk D [(cI, .int), (cZ, .boolean)] (XW cI cZ q) XG [.ref (q 0)] u (some (.long (xTalk n (u.1 0) (u.1 1) (u.2 0) (u.2 1)).1)) (gS u 14 (fun _ => (nI (xTalk n (u.1 0) (u.1 1) (u.2 0) (u.2 1)).2))) := by
  refine g_start (cc := cX2_talk) (maxL := 8) (ret := (some .long)) (by decide) rfl (Nat.le_of_ble_eq_true rfl) ?_
  intro p e s m below meth c A ls Q hx hb hml hret hts hown hlk hE hP hK hD hA hl hQ hS
  have hown : s.vm.findClass RX2 = some m.cls := hown
  have hl : lv_has ls 8 [(0, .ref (q 0))] := hl
  refine lv_lconst (v := 0) hx hb dX2_talk_0 (by decide +kernel) ?_
  refine lv_lstore_n (lv' := [(1, .long 0), (0, .ref (q 0))]) hx hb dX2_talk_1 rfl hl (by decide) rfl (fun ls hl => ?_)
  refine lv_aload_n hx hb dX2_talk_2 rfl (lv_at hl 1 rfl) ?_
  refine va_get (ci := 2) (v := .ref (q 3)) (C := RX2) (T := TX2) (N := 9) hx hb hts inX2_talk_RX2 hown hK hP 0 rfl rfl 2 (by decide) (hts _ lkX2_talk_23) (fun _ h9 => h9) rfl dX2_talk_3 ?_
  refine va_getN (host := "FetchHouse") (ci := 1) (v := .long (u.2 1)) (C := RX1) (T := TX1) (N := 3) hx hb hts inX2_talk_RX1 hown hK hP 3 rfl rfl 0 (by decide) (va_Nw.use rfl (hE.1 _ (List.mem_of_getElem? (i := 0) rfl))) (fun _ h9 => h9) rfl dX2_talk_6 ?_
  refine lv_lstore_n (lv' := [(3, .long (u.2 1)), (1, .long 0), (0, .ref (q 0))]) hx hb dX2_talk_9 rfl hl (by decide) rfl (fun ls hl => ?_)
  refine lv_iconst (v := (nI 0)) hx hb dX2_talk_10 (by decide +kernel) ?_
  refine lv_istore (lv' := [(5, .int (nI 0)), (3, .long (u.2 1)), (1, .long 0), (0, .ref (q 0))]) hx hb dX2_talk_11 hl (by decide) rfl (fun ls hl => ?_)
  have loop : ∀ (d k : Nat) (cm un : Int64) (H : Heap) (locs : List Loc) (ls : Array Slot) (hP : va_P D vwCl (XW cI cZ q u) H) (hD : va_D A (XW cI cZ q u)) (hS : va_S A s.heap H locs) (hl : lv_has ls 8 [(0, .ref (q 0)), (1, .long cm), (3, .long un), (5, .int (nI k))]) (hk : k + d = 60) (hr : xTalkL n (u.1 0) (u.1 1) (u.2 0) (u.2 1) d k cm un = (xTalk n (u.1 0) (u.1 1) (u.2 0) (u.2 1))), W p l e rmX2_talk s m ([.ref (q 0)] : List Value).toArray below meth c H locs 0 0 Q (F0 m 13 ls []) := by
    intro d
    induction d with
    | zero =>
      intro k cm un H locs ls hP hD hS hl hk hr
      refine lv_lload_n hx hb dX2_talk_13 rfl (lv_at hl 2 rfl) ?_
      refine lv_lconst (v := 0) hx hb dX2_talk_14 (by decide +kernel) ?_
      refine g_lcmpE (tgt := 81) hx hb dX2_talk_15 dX2_talk_16 (by decide) (fun c_15 => ?_) (fun c_15 => ?_)
      · refine lv_aload_n hx hb dX2_talk_81 rfl (lv_at hl 0 rfl) ?_
        refine lv_iload hx hb dX2_talk_82 (lv_at hl 3 rfl) ?_
        refine va_put (ci := 2) (v := .int (nI k)) (ty := .int) (C := RX2) (T := TX2) (N := 9) hx hb hts inX2_talk_RX2 tyX2 tyX2_ok nmX2 hown hK hP hD hS 0 rfl rfl 8 (by decide) (hts _ lkX2_talk_131) (fun _ h9 => h9) rfl (by decide +kernel) rfl rfl (Nat.le_of_ble_eq_true rfl) dX2_talk_84 (fun H locs hP hD hS => ?_)
        have hP : va_P D vwCl (XW cI cZ q (gS u 14 (fun _ => (nI k)))) H := hP
        have hD : va_D A (XW cI cZ q (gS u 14 (fun _ => (nI k)))) := hD
        refine lv_lload_n hx hb dX2_talk_87 rfl (lv_at hl 1 rfl) ?_
        refine g_lret (u1 := (gS u 14 (fun _ => (nI k)))) hx hb hret hlk hQ hP hD hS dX2_talk_88 ?_ ?_
        · exact (by rw [← hr]; first | rfl | (rw [xTalkL, if_pos c_15]))
        · exact (by rw [← hr]; first | rfl | (rw [xTalkL, if_pos c_15]))
      · refine lv_iload hx hb dX2_talk_19 (lv_at hl 3 rfl) ?_
        refine lv_bipush (v := 60) hx hb dX2_talk_21 (by decide +kernel) ?_
        refine lv_icmp_ge (tgt := 81) hx hb dX2_talk_23 (by decide) (fun c_23 => ?_) (fun c_23 => ?_)
        · have n_23 : 60 ≤ k := (g_leI (a := 60) (b := k) rfl rfl (by omega) (by omega)).mp c_23
          refine lv_aload_n hx hb dX2_talk_81 rfl (lv_at hl 0 rfl) ?_
          refine lv_iload hx hb dX2_talk_82 (lv_at hl 3 rfl) ?_
          refine va_put (ci := 2) (v := .int (nI k)) (ty := .int) (C := RX2) (T := TX2) (N := 9) hx hb hts inX2_talk_RX2 tyX2 tyX2_ok nmX2 hown hK hP hD hS 0 rfl rfl 8 (by decide) (hts _ lkX2_talk_131) (fun _ h9 => h9) rfl (by decide +kernel) rfl rfl (Nat.le_of_ble_eq_true rfl) dX2_talk_84 (fun H locs hP hD hS => ?_)
          have hP : va_P D vwCl (XW cI cZ q (gS u 14 (fun _ => (nI k)))) H := hP
          have hD : va_D A (XW cI cZ q (gS u 14 (fun _ => (nI k)))) := hD
          refine lv_lload_n hx hb dX2_talk_87 rfl (lv_at hl 1 rfl) ?_
          refine g_lret (u1 := (gS u 14 (fun _ => (nI k)))) hx hb hret hlk hQ hP hD hS dX2_talk_88 ?_ ?_
          · exact (by rw [← hr]; first | rfl | (rw [xTalkL, if_pos c_15]))
          · exact (by rw [← hr]; first | rfl | (rw [xTalkL, if_pos c_15]))
        · have n_23 : ¬ 60 ≤ k := fun h => c_23 ((g_leI (a := 60) (b := k) rfl rfl (by omega) (by omega)).mpr h)
          exfalso; omega
    | succ d ih =>
      intro k cm un H locs ls hP hD hS hl hk hr
      refine lv_lload_n hx hb dX2_talk_13 rfl (lv_at hl 2 rfl) ?_
      refine lv_lconst (v := 0) hx hb dX2_talk_14 (by decide +kernel) ?_
      refine g_lcmpE (tgt := 81) hx hb dX2_talk_15 dX2_talk_16 (by decide) (fun c_15 => ?_) (fun c_15 => ?_)
      · refine lv_aload_n hx hb dX2_talk_81 rfl (lv_at hl 0 rfl) ?_
        refine lv_iload hx hb dX2_talk_82 (lv_at hl 3 rfl) ?_
        refine va_put (ci := 2) (v := .int (nI k)) (ty := .int) (C := RX2) (T := TX2) (N := 9) hx hb hts inX2_talk_RX2 tyX2 tyX2_ok nmX2 hown hK hP hD hS 0 rfl rfl 8 (by decide) (hts _ lkX2_talk_131) (fun _ h9 => h9) rfl (by decide +kernel) rfl rfl (Nat.le_of_ble_eq_true rfl) dX2_talk_84 (fun H locs hP hD hS => ?_)
        have hP : va_P D vwCl (XW cI cZ q (gS u 14 (fun _ => (nI k)))) H := hP
        have hD : va_D A (XW cI cZ q (gS u 14 (fun _ => (nI k)))) := hD
        refine lv_lload_n hx hb dX2_talk_87 rfl (lv_at hl 1 rfl) ?_
        refine g_lret (u1 := (gS u 14 (fun _ => (nI k)))) hx hb hret hlk hQ hP hD hS dX2_talk_88 ?_ ?_
        · exact (by rw [← hr]; first | rfl | (rw [xTalkL, if_pos c_15]))
        · exact (by rw [← hr]; first | rfl | (rw [xTalkL, if_pos c_15]))
      · refine lv_iload hx hb dX2_talk_19 (lv_at hl 3 rfl) ?_
        refine lv_bipush (v := 60) hx hb dX2_talk_21 (by decide +kernel) ?_
        refine lv_icmp_ge (tgt := 81) hx hb dX2_talk_23 (by decide) (fun c_23 => ?_) (fun c_23 => ?_)
        · have n_23 : 60 ≤ k := (g_leI (a := 60) (b := k) rfl rfl (by omega) (by omega)).mp c_23
          exfalso; omega
        · have n_23 : ¬ 60 ≤ k := fun h => c_23 ((g_leI (a := 60) (b := k) rfl rfl (by omega) (by omega)).mpr h)
          refine lv_lload_n hx hb dX2_talk_26 rfl (lv_at hl 2 rfl) ?_
          refine lv_iconst (v := 4) hx hb dX2_talk_27 (by decide +kernel) ?_
          refine g_callS0 (As := [.long un, .int 4]) (rest := []) hx hb hml hown hts (ctX2_highestOf l D cI cZ q un 4) gX2_talk_X2_highestOf rfl rfl rfl hdX2_highestOf ⟨Nat.le_of_ble_eq_true rfl, Nat.le_of_ble_eq_true rfl⟩ gEM_true trivial hP hK hS hA rfl hl.1 rfl (Nat.le_of_ble_eq_true rfl) dX2_talk_28 ⟨Nat.zero_le _, Nat.zero_le _⟩ (fun H locs hP hS => ?_)
          refine W.eq (g2 := F0 m 31 ls [.long (xHi un 4)]) rfl ?_
          refine lv_lstore (lv' := [(6, .long (xHi un 4)), (0, .ref (q 0)), (1, .long cm), (3, .long un), (5, .int (nI k))]) hx hb dX2_talk_31 hl (by decide) rfl (fun ls hl => ?_)
          refine lv_lload_n hx hb dX2_talk_33 rfl (lv_at hl 2 rfl) ?_
          refine lv_aload_n hx hb dX2_talk_34 rfl (lv_at hl 1 rfl) ?_
          refine va_get (ci := 2) (v := .ref (q 1)) (C := RX2) (T := TX2) (N := 9) hx hb hts inX2_talk_RX2 hown hK hP 0 rfl rfl 0 (by decide) (hts _ lkX2_talk_10) (fun _ h9 => h9) rfl dX2_talk_35 ?_
          refine lv_lload hx hb dX2_talk_38 (lv_at hl 0 rfl) ?_
          refine lv_aload_n hx hb dX2_talk_40 rfl (lv_at hl 1 rfl) ?_
          refine va_get (ci := 2) (v := .ref (q 2)) (C := RX2) (T := TX2) (N := 9) hx hb hts inX2_talk_RX2 hown hK hP 0 rfl rfl 1 (by decide) (hts _ lkX2_talk_19) (fun _ h9 => h9) rfl dX2_talk_41 ?_
          refine va_getN (host := "FetchHouse") (ci := 1) (v := .long (u.2 0)) (C := RX1) (T := TX1) (N := 3) hx hb hts inX2_talk_RX1 hown hK hP 2 rfl rfl 0 (by decide) (va_Nw.use rfl (hE.1 _ (List.mem_of_getElem? (i := 0) rfl))) (fun _ h9 => h9) rfl dX2_talk_44 ?_
          refine lv_land hx hb dX2_talk_47 ?_
          refine lv_aload_n hx hb dX2_talk_48 rfl (lv_at hl 1 rfl) ?_
          refine va_get (ci := 2) (v := .ref (q 3)) (C := RX2) (T := TX2) (N := 9) hx hb hts inX2_talk_RX2 hown hK hP 0 rfl rfl 2 (by decide) (hts _ lkX2_talk_23) (fun _ h9 => h9) rfl dX2_talk_49 ?_
          refine va_getN (host := "FetchHouse") (ci := 1) (v := .long (u.2 1)) (C := RX1) (T := TX1) (N := 3) hx hb hts inX2_talk_RX1 hown hK hP 3 rfl rfl 0 (by decide) (va_Nw.use rfl (hE.1 _ (List.mem_of_getElem? (i := 0) rfl))) (fun _ h9 => h9) rfl dX2_talk_52 ?_
          refine g_callV (As := [.long ((xHi un 4) &&& (u.2 0)), .long (u.2 1)]) (rest := [.long cm]) hx hb hml hown hts (ctX0_ancestorsOf l D cI cZ q u n hn h60 ((xHi un 4) &&& (u.2 0)) (u.2 1)) gX2_talk_X0_ancestorsOf rfl rfl rfl hdX0_ancestorsOf ⟨Nat.le_of_ble_eq_true rfl, Nat.le_of_ble_eq_true rfl⟩ XG_em hE hP hK hD hS hA 1 rfl rfl rfl hl.1 rfl (Nat.le_of_ble_eq_true rfl) dX2_talk_55 ⟨Nat.zero_le _, Nat.zero_le _⟩ (fun H locs hP hD hS => ?_)
          have hP : va_P D vwCl (XW cI cZ q u) H := hP
          have hD : va_D A (XW cI cZ q u) := hD
          refine W.eq (g2 := F0 m 58 ls [.long (xAnc n (u.1 0) (u.1 1) ((xHi un 4) &&& (u.2 0)) (u.2 1)), .long cm]) rfl ?_
          refine lv_lor hx hb dX2_talk_58 ?_
          refine lv_lstore_n (lv' := [(1, .long (cm ||| (xAnc n (u.1 0) (u.1 1) ((xHi un 4) &&& (u.2 0)) (u.2 1)))), (6, .long (xHi un 4)), (0, .ref (q 0)), (3, .long un), (5, .int (nI k))]) hx hb dX2_talk_59 rfl hl (by decide) rfl (fun ls hl => ?_)
          refine lv_lload_n hx hb dX2_talk_60 rfl (lv_at hl 3 rfl) ?_
          refine lv_lload hx hb dX2_talk_61 (lv_at hl 1 rfl) ?_
          refine lv_ldc2 (v := (-1)) hx hb hown (hts _ lkX2_talk_115) dX2_talk_63 ?_
          refine lv_lxor hx hb dX2_talk_66 ?_
          refine lv_lload_n hx hb dX2_talk_67 rfl (lv_at hl 0 rfl) ?_
          refine lv_ldc2 (v := (-1)) hx hb hown (hts _ lkX2_talk_115) dX2_talk_68 ?_
          refine lv_lxor hx hb dX2_talk_71 ?_
          refine lv_land hx hb dX2_talk_72 ?_
          refine lv_land hx hb dX2_talk_73 ?_
          refine lv_lstore_n (lv' := [(3, .long (un &&& (((xHi un 4) ^^^ (-1)) &&& ((cm ||| (xAnc n (u.1 0) (u.1 1) ((xHi un 4) &&& (u.2 0)) (u.2 1))) ^^^ (-1))))), (1, .long (cm ||| (xAnc n (u.1 0) (u.1 1) ((xHi un 4) &&& (u.2 0)) (u.2 1)))), (6, .long (xHi un 4)), (0, .ref (q 0)), (5, .int (nI k))]) hx hb dX2_talk_74 rfl hl (by decide) rfl (fun ls hl => ?_)
          refine lv_iinc (v := (nI (k + 1))) (lv' := [(5, .int (nI (k + 1))), (3, .long (un &&& (((xHi un 4) ^^^ (-1)) &&& ((cm ||| (xAnc n (u.1 0) (u.1 1) ((xHi un 4) &&& (u.2 0)) (u.2 1))) ^^^ (-1))))), (1, .long (cm ||| (xAnc n (u.1 0) (u.1 1) ((xHi un 4) &&& (u.2 0)) (u.2 1)))), (6, .long (xHi un 4)), (0, .ref (q 0))]) hx hb dX2_talk_75 hl (k := 4) rfl (nI_1 _) (by decide) rfl (fun ls hl => ?_)
          refine lv_goto (tgt := 13) hx hb dX2_talk_78 (by decide) ?_
          exact ih (k + 1) (cm ||| (xAnc n (u.1 0) (u.1 1) ((xHi un 4) &&& (u.2 0)) (u.2 1))) (un &&& (((xHi un 4) ^^^ (-1)) &&& ((cm ||| (xAnc n (u.1 0) (u.1 1) ((xHi un 4) &&& (u.2 0)) (u.2 1))) ^^^ (-1)))) _ _ _ hP hD hS (lv_sub hl [4, 2, 1, 0] rfl) (by omega) (by rw [← hr]; exact (if_neg c_15).symm)
  exact loop 60 0 0 (u.2 1) _ _ _ hP hD hS (lv_sub hl [3, 2, 1, 0] rfl) (by omega) rfl
theorem lkX2_endsBeyondServer_10 : Cond.fieldLink RX2 10 "FetchHouse" "history" "LFetchHouse$History;" ∈ wsX2_endsBeyondServer := List.mem_of_getElem? (i := 1) (by decide +kernel)
theorem lkX2_endsBeyondServer_115 : Cond.constantLong RX2 115 (-1) ∈ wsX2_endsBeyondServer := List.mem_of_getElem? (i := 4) (by decide +kernel)
theorem lkX2_endsBeyondServer_19 : Cond.fieldLink RX2 19 "FetchHouse" "server" "LFetchHouse$Store;" ∈ wsX2_endsBeyondServer := List.mem_of_getElem? (i := 3) (by decide +kernel)
theorem lkX2_endsBeyondServer_23 : Cond.fieldLink RX2 23 "FetchHouse" "client" "LFetchHouse$Store;" ∈ wsX2_endsBeyondServer := List.mem_of_getElem? (i := 2) (by decide +kernel)
theorem inX2_endsBeyondServer_RX2 : ∀ w ∈ u_ws RX2 TX2 9, w ∈ wsX2_endsBeyondServer := fun w h => List.mem_cons_of_mem _ (List.mem_append_left _ (List.mem_append_left _ (List.mem_append_right _ h)))
theorem inX2_endsBeyondServer_RX1 : ∀ w ∈ u_ws RX1 TX1 3, w ∈ wsX2_endsBeyondServer := fun w h => List.mem_cons_of_mem _ (List.mem_append_left _ (List.mem_append_right _ h))
theorem inX2_endsBeyondServer_RX0 : ∀ w ∈ u_ws RX0 TX0 6, w ∈ wsX2_endsBeyondServer := fun w h => List.mem_cons_of_mem _ (List.mem_append_right _ h)
abbrev rmX2_endsBeyondServer : Room := { frames := 3, cells := 0, slots := 0, locals := 67 }
set_option maxHeartbeats 4000000 in
set_option maxRecDepth 100000 in
theorem ctX2_endsBeyondServer (l : Launch) (D : va_G) (cI cZ : ClassId) (q : Nat → Nat) (u : SX) (n : Nat) (hn : u.1 15 0 = nI n) (h60 : n ≤ 60) (p0 : Int64) : gM l yX2_endsBeyondServer wsX2_endsBeyondServer rmX2_endsBeyondServer D [(cI, .int), (cZ, .boolean)] (XW cI cZ q) XG [.ref (q 0), .long p0] u (some (.int (xEnds n (u.1 0) (u.1 1) (u.2 0) (u.2 1) p0))) u := by
  refine g_start (cc := cX2_endsBeyondServer) (maxL := 3) (ret := (some .boolean)) (by decide) rfl (Nat.le_of_ble_eq_true rfl) ?_
  intro p e s m below meth c A ls Q hx hb hml hret hts hown hlk hE hP hK hD hA hl hQ hS
  have hown : s.vm.findClass RX2 = some m.cls := hown
  have hl : lv_has ls 3 [(0, .ref (q 0)), (1, .long p0)] := hl
  refine lv_lload_n hx hb dX2_endsBeyondServer_0 rfl (lv_at hl 1 rfl) ?_
  refine lv_aload_n hx hb dX2_endsBeyondServer_1 rfl (lv_at hl 0 rfl) ?_
  refine va_get (ci := 2) (v := .ref (q 1)) (C := RX2) (T := TX2) (N := 9) hx hb hts inX2_endsBeyondServer_RX2 hown hK hP 0 rfl rfl 0 (by decide) (hts _ lkX2_endsBeyondServer_10) (fun _ h9 => h9) rfl dX2_endsBeyondServer_2 ?_
  refine lv_aload_n hx hb dX2_endsBeyondServer_5 rfl (lv_at hl 0 rfl) ?_
  refine va_get (ci := 2) (v := .ref (q 3)) (C := RX2) (T := TX2) (N := 9) hx hb hts inX2_endsBeyondServer_RX2 hown hK hP 0 rfl rfl 2 (by decide) (hts _ lkX2_endsBeyondServer_23) (fun _ h9 => h9) rfl dX2_endsBeyondServer_6 ?_
  refine va_getN (host := "FetchHouse") (ci := 1) (v := .long (u.2 1)) (C := RX1) (T := TX1) (N := 3) hx hb hts inX2_endsBeyondServer_RX1 hown hK hP 3 rfl rfl 0 (by decide) (va_Nw.use rfl (hE.1 _ (List.mem_of_getElem? (i := 0) rfl))) (fun _ h9 => h9) rfl dX2_endsBeyondServer_9 ?_
  refine g_callV (As := [.long (u.2 1)]) (rest := [.long p0]) hx hb hml hown hts (ctX0_shallowOf l D cI cZ q u n hn h60 (u.2 1)) gX2_endsBeyondServer_X0_shallowOf rfl rfl rfl hdX0_shallowOf ⟨Nat.le_of_ble_eq_true rfl, Nat.le_of_ble_eq_true rfl⟩ XG_em hE hP hK hD hS hA 1 rfl rfl rfl hl.1 rfl (Nat.le_of_ble_eq_true rfl) dX2_endsBeyondServer_12 ⟨Nat.zero_le _, Nat.zero_le _⟩ (fun H locs hP hD hS => ?_)
  have hP : va_P D vwCl (XW cI cZ q u) H := hP
  have hD : va_D A (XW cI cZ q u) := hD
  refine W.eq (g2 := F0 m 15 ls [.long (xShallow n (u.1 0) (u.1 1) (u.2 1)), .long p0]) rfl ?_
  refine lv_land hx hb dX2_endsBeyondServer_15 ?_
  refine lv_aload_n hx hb dX2_endsBeyondServer_16 rfl (lv_at hl 0 rfl) ?_
  refine va_get (ci := 2) (v := .ref (q 2)) (C := RX2) (T := TX2) (N := 9) hx hb hts inX2_endsBeyondServer_RX2 hown hK hP 0 rfl rfl 1 (by decide) (hts _ lkX2_endsBeyondServer_19) (fun _ h9 => h9) rfl dX2_endsBeyondServer_17 ?_
  refine va_getN (host := "FetchHouse") (ci := 1) (v := .long (u.2 0)) (C := RX1) (T := TX1) (N := 3) hx hb hts inX2_endsBeyondServer_RX1 hown hK hP 2 rfl rfl 0 (by decide) (va_Nw.use rfl (hE.1 _ (List.mem_of_getElem? (i := 0) rfl))) (fun _ h9 => h9) rfl dX2_endsBeyondServer_20 ?_
  refine lv_ldc2 (v := (-1)) hx hb hown (hts _ lkX2_endsBeyondServer_115) dX2_endsBeyondServer_23 ?_
  refine lv_lxor hx hb dX2_endsBeyondServer_26 ?_
  refine lv_land hx hb dX2_endsBeyondServer_27 ?_
  refine lv_lconst (v := 0) hx hb dX2_endsBeyondServer_28 (by decide +kernel) ?_
  refine g_lcmpE (tgt := 37) hx hb dX2_endsBeyondServer_29 dX2_endsBeyondServer_30 (by decide) (fun c_29 => ?_) (fun c_29 => ?_)
  · refine lv_iconst (v := 0) hx hb dX2_endsBeyondServer_37 (by decide +kernel) ?_
    refine g_zret (u1 := u) hx hb hret hlk hQ hP hD hS dX2_endsBeyondServer_38 ?_ ?_ ?_
    · exact rfl
    · exact by simp only [xEnds, c_29, ↓reduceIte, not_true_eq_false, not_false_eq_true]
    · exact rfl
  · refine lv_iconst (v := 1) hx hb dX2_endsBeyondServer_33 (by decide +kernel) ?_
    refine lv_goto (tgt := 38) hx hb dX2_endsBeyondServer_34 (by decide) ?_
    refine g_zret (u1 := u) hx hb hret hlk hQ hP hD hS dX2_endsBeyondServer_38 ?_ ?_ ?_
    · exact rfl
    · exact by simp only [xEnds, c_29, ↓reduceIte, not_true_eq_false, not_false_eq_true]
    · exact rfl
theorem lkX2_refusalOf_10 : Cond.fieldLink RX2 10 "FetchHouse" "history" "LFetchHouse$History;" ∈ wsX2_refusalOf := List.mem_of_getElem? (i := 2) (by decide +kernel)
theorem lkX2_refusalOf_19 : Cond.fieldLink RX2 19 "FetchHouse" "server" "LFetchHouse$Store;" ∈ wsX2_refusalOf := List.mem_of_getElem? (i := 1) (by decide +kernel)
theorem lkX2_refusalOf_23 : Cond.fieldLink RX2 23 "FetchHouse" "client" "LFetchHouse$Store;" ∈ wsX2_refusalOf := List.mem_of_getElem? (i := 3) (by decide +kernel)
theorem inX2_refusalOf_RX2 : ∀ w ∈ u_ws RX2 TX2 9, w ∈ wsX2_refusalOf := fun w h => List.mem_cons_of_mem _ (List.mem_append_left _ (List.mem_append_left _ (List.mem_append_right _ h)))
theorem inX2_refusalOf_RX1 : ∀ w ∈ u_ws RX1 TX1 3, w ∈ wsX2_refusalOf := fun w h => List.mem_cons_of_mem _ (List.mem_append_left _ (List.mem_append_right _ h))
theorem inX2_refusalOf_RX0 : ∀ w ∈ u_ws RX0 TX0 6, w ∈ wsX2_refusalOf := fun w h => List.mem_cons_of_mem _ (List.mem_append_right _ h)
abbrev rmX2_refusalOf : Room := { frames := 4, cells := 0, slots := 0, locals := 96 }
set_option maxHeartbeats 4000000 in
set_option maxRecDepth 100000 in
theorem ctX2_refusalOf (l : Launch) (D : va_G) (cI cZ : ClassId) (q : Nat → Nat) (u : SX) (n : Nat) (hn : u.1 15 0 = nI n) (h60 : n ≤ 60) (p0 p1 p2 : Int32) : gM l yX2_refusalOf wsX2_refusalOf rmX2_refusalOf D [(cI, .int), (cZ, .boolean)] (XW cI cZ q) XG [.ref (q 0), .int p0, .int p1, .int p2] u (some (.int (xRefuse n (u.1 0) (u.1 1) (u.1 6) (u.1 9) (u.2 0) (u.2 1) p0 p1 p2))) u := by
  refine g_start (cc := cX2_refusalOf) (maxL := 6) (ret := (some .int)) (by decide) rfl (Nat.le_of_ble_eq_true rfl) ?_
  intro p e s m below meth c A ls Q hx hb hml hret hts hown hlk hE hP hK hD hA hl hQ hS
  have hown : s.vm.findClass RX2 = some m.cls := hown
  have hl : lv_has ls 6 [(0, .ref (q 0)), (1, .int p0), (2, .int p1), (3, .int p2)] := hl
  refine lv_aload_n hx hb dX2_refusalOf_0 rfl (lv_at hl 0 rfl) ?_
  refine va_get (ci := 2) (v := .ref (q 2)) (C := RX2) (T := TX2) (N := 9) hx hb hts inX2_refusalOf_RX2 hown hK hP 0 rfl rfl 1 (by decide) (hts _ lkX2_refusalOf_19) (fun _ h9 => h9) rfl dX2_refusalOf_1 ?_
  refine lv_iload_n hx hb dX2_refusalOf_4 rfl (lv_at hl 1 rfl) ?_
  refine g_callV (As := [.int p0]) (rest := []) hx hb hml hown hts (ctX1_commitOfRef_0 l D cI cZ q u p0) gX2_refusalOf_X1_commitOfRef rfl rfl rfl hdX1_commitOfRef ⟨Nat.le_of_ble_eq_true rfl, Nat.le_of_ble_eq_true rfl⟩ XG_em hE hP hK hD hS hA 2 rfl rfl rfl hl.1 rfl (Nat.le_of_ble_eq_true rfl) dX2_refusalOf_5 ⟨Nat.zero_le _, Nat.zero_le _⟩ (fun H locs hP hD hS => ?_)
  have hP : va_P D vwCl (XW cI cZ q u) H := hP
  have hD : va_D A (XW cI cZ q u) := hD
  refine W.eq (g2 := F0 m 8 ls [.int (xRefOf (u.1 6) p0)]) rfl ?_
  refine lv_iload_n hx hb dX2_refusalOf_8 rfl (lv_at hl 2 rfl) ?_
  refine lv_icmp_eq (tgt := 15) hx hb dX2_refusalOf_9 (by decide) (fun c_9 => ?_) (fun c_9 => ?_)
  · refine lv_aload_n hx hb dX2_refusalOf_15 rfl (lv_at hl 0 rfl) ?_
    refine va_get (ci := 2) (v := .ref (q 1)) (C := RX2) (T := TX2) (N := 9) hx hb hts inX2_refusalOf_RX2 hown hK hP 0 rfl rfl 0 (by decide) (hts _ lkX2_refusalOf_10) (fun _ h9 => h9) rfl dX2_refusalOf_16 ?_
    refine lv_iload_n hx hb dX2_refusalOf_19 rfl (lv_at hl 3 rfl) ?_
    refine g_callS0 (As := [.int p2]) (rest := [.ref (q 1)]) hx hb hml hown hts (ctX2_setOf l D cI cZ q p2) gX2_refusalOf_X2_setOf rfl rfl rfl hdX2_setOf ⟨Nat.le_of_ble_eq_true rfl, Nat.le_of_ble_eq_true rfl⟩ gEM_true trivial hP hK hS hA rfl hl.1 rfl (Nat.le_of_ble_eq_true rfl) dX2_refusalOf_20 ⟨Nat.zero_le _, Nat.zero_le _⟩ (fun H locs hP hS => ?_)
    refine W.eq (g2 := F0 m 23 ls [.long (xSet p2), .ref (q 1)]) rfl ?_
    refine lv_aload_n hx hb dX2_refusalOf_23 rfl (lv_at hl 0 rfl) ?_
    refine va_get (ci := 2) (v := .ref (q 3)) (C := RX2) (T := TX2) (N := 9) hx hb hts inX2_refusalOf_RX2 hown hK hP 0 rfl rfl 2 (by decide) (hts _ lkX2_refusalOf_23) (fun _ h9 => h9) rfl dX2_refusalOf_24 ?_
    refine va_getN (host := "FetchHouse") (ci := 1) (v := .long (u.2 1)) (C := RX1) (T := TX1) (N := 3) hx hb hts inX2_refusalOf_RX1 hown hK hP 3 rfl rfl 0 (by decide) (va_Nw.use rfl (hE.1 _ (List.mem_of_getElem? (i := 0) rfl))) (fun _ h9 => h9) rfl dX2_refusalOf_27 ?_
    refine g_callV (As := [.long (xSet p2), .long (u.2 1)]) (rest := []) hx hb hml hown hts (ctX0_ancestorsOf l D cI cZ q u n hn h60 (xSet p2) (u.2 1)) gX2_refusalOf_X0_ancestorsOf rfl rfl rfl hdX0_ancestorsOf ⟨Nat.le_of_ble_eq_true rfl, Nat.le_of_ble_eq_true rfl⟩ XG_em hE hP hK hD hS hA 1 rfl rfl rfl hl.1 rfl (Nat.le_of_ble_eq_true rfl) dX2_refusalOf_30 ⟨Nat.zero_le _, Nat.zero_le _⟩ (fun H locs hP hD hS => ?_)
    have hP : va_P D vwCl (XW cI cZ q u) H := hP
    have hD : va_D A (XW cI cZ q u) := hD
    refine W.eq (g2 := F0 m 33 ls [.long (xAnc n (u.1 0) (u.1 1) (xSet p2) (u.2 1))]) rfl ?_
    refine lv_lstore (lv' := [(4, .long (xAnc n (u.1 0) (u.1 1) (xSet p2) (u.2 1))), (0, .ref (q 0)), (1, .int p0), (2, .int p1), (3, .int p2)]) hx hb dX2_refusalOf_33 hl (by decide) rfl (fun ls hl => ?_)
    refine lv_aload_n hx hb dX2_refusalOf_35 rfl (lv_at hl 1 rfl) ?_
    refine lv_iload_n hx hb dX2_refusalOf_36 rfl (lv_at hl 2 rfl) ?_
    refine g_callV (As := [.int p0]) (rest := []) hx hb hml hown hts (ctX2_isProtectedRef l D cI cZ q u p0) gX2_refusalOf_X2_isProtectedRef rfl rfl rfl hdX2_isProtectedRef ⟨Nat.le_of_ble_eq_true rfl, Nat.le_of_ble_eq_true rfl⟩ XG_em hE hP hK hD hS hA 0 rfl rfl rfl hl.1 rfl (Nat.le_of_ble_eq_true rfl) dX2_refusalOf_37 ⟨Nat.zero_le _, Nat.zero_le _⟩ (fun H locs hP hD hS => ?_)
    have hP : va_P D vwCl (XW cI cZ q u) H := hP
    have hD : va_D A (XW cI cZ q u) := hD
    refine W.eq (g2 := F0 m 40 ls [.int (xProt (u.1 9) p0)]) rfl ?_
    refine lv_if_eq (tgt := 60) hx hb dX2_refusalOf_40 (by decide) (fun c_40 => ?_) (fun c_40 => ?_)
    · refine lv_iload_n hx hb dX2_refusalOf_60 rfl (lv_at hl 4 rfl) ?_
      refine lv_iconst (v := (-1)) hx hb dX2_refusalOf_61 (by decide +kernel) ?_
      refine lv_icmp_eq (tgt := 84) hx hb dX2_refusalOf_62 (by decide) (fun c_62 => ?_) (fun c_62 => ?_)
      · refine lv_iconst (v := 0) hx hb dX2_refusalOf_84 (by decide +kernel) ?_
        refine g_iret (u1 := u) hx hb hret hlk hQ hP hD hS dX2_refusalOf_85 ?_ ?_
        · exact by unfold xRefuse xRefuse2; rw [if_pos c_9, if_pos c_40, if_pos c_62]
        · exact rfl
      · refine lv_lload hx hb dX2_refusalOf_65 (lv_at hl 0 rfl) ?_
        refine lv_lconst (v := 0) hx hb dX2_refusalOf_67 (by decide +kernel) ?_
        refine g_lcmpE (tgt := 81) hx hb dX2_refusalOf_68 dX2_refusalOf_69 (by decide) (fun c_68 => ?_) (fun c_68 => ?_)
        · refine lv_bipush (v := (-4)) hx hb dX2_refusalOf_81 (by decide +kernel) ?_
          refine g_iret (u1 := u) hx hb hret hlk hQ hP hD hS dX2_refusalOf_83 ?_ ?_
          · exact by unfold xRefuse xRefuse2; rw [if_pos c_9, if_pos c_40, if_neg c_62, if_pos c_68]
          · exact rfl
        · refine lv_aload_n hx hb dX2_refusalOf_72 rfl (lv_at hl 1 rfl) ?_
          refine lv_lload hx hb dX2_refusalOf_73 (lv_at hl 0 rfl) ?_
          refine g_callV (As := [.long (xAnc n (u.1 0) (u.1 1) (xSet p2) (u.2 1))]) (rest := []) hx hb hml hown hts (ctX2_endsBeyondServer l D cI cZ q u n hn h60 (xAnc n (u.1 0) (u.1 1) (xSet p2) (u.2 1))) gX2_refusalOf_X2_endsBeyondServer rfl rfl rfl hdX2_endsBeyondServer ⟨Nat.le_of_ble_eq_true rfl, Nat.le_of_ble_eq_true rfl⟩ XG_em hE hP hK hD hS hA 0 rfl rfl rfl hl.1 rfl (Nat.le_of_ble_eq_true rfl) dX2_refusalOf_75 ⟨Nat.zero_le _, Nat.zero_le _⟩ (fun H locs hP hD hS => ?_)
          have hP : va_P D vwCl (XW cI cZ q u) H := hP
          have hD : va_D A (XW cI cZ q u) := hD
          refine W.eq (g2 := F0 m 78 ls [.int (xEnds n (u.1 0) (u.1 1) (u.2 0) (u.2 1) (xAnc n (u.1 0) (u.1 1) (xSet p2) (u.2 1)))]) rfl ?_
          refine lv_if_eq (tgt := 84) hx hb dX2_refusalOf_78 (by decide) (fun c_78 => ?_) (fun c_78 => ?_)
          · refine lv_iconst (v := 0) hx hb dX2_refusalOf_84 (by decide +kernel) ?_
            refine g_iret (u1 := u) hx hb hret hlk hQ hP hD hS dX2_refusalOf_85 ?_ ?_
            · exact by unfold xRefuse xRefuse2; rw [if_pos c_9, if_pos c_40, if_neg c_62, if_neg c_68, if_pos c_78]
            · exact rfl
          · refine lv_bipush (v := (-4)) hx hb dX2_refusalOf_81 (by decide +kernel) ?_
            refine g_iret (u1 := u) hx hb hret hlk hQ hP hD hS dX2_refusalOf_83 ?_ ?_
            · exact by unfold xRefuse xRefuse2; rw [if_pos c_9, if_pos c_40, if_neg c_62, if_neg c_68, if_neg c_78]
            · exact rfl
    · refine lv_iload_n hx hb dX2_refusalOf_43 rfl (lv_at hl 3 rfl) ?_
      refine lv_iconst (v := (-1)) hx hb dX2_refusalOf_44 (by decide +kernel) ?_
      refine lv_icmp_eq (tgt := 60) hx hb dX2_refusalOf_45 (by decide) (fun c_45 => ?_) (fun c_45 => ?_)
      · refine lv_iload_n hx hb dX2_refusalOf_60 rfl (lv_at hl 4 rfl) ?_
        refine lv_iconst (v := (-1)) hx hb dX2_refusalOf_61 (by decide +kernel) ?_
        refine lv_icmp_eq (tgt := 84) hx hb dX2_refusalOf_62 (by decide) (fun c_62 => ?_) (fun c_62 => ?_)
        · refine lv_iconst (v := 0) hx hb dX2_refusalOf_84 (by decide +kernel) ?_
          refine g_iret (u1 := u) hx hb hret hlk hQ hP hD hS dX2_refusalOf_85 ?_ ?_
          · exact by unfold xRefuse xRefuse2; rw [if_pos c_9, if_neg c_40, if_pos c_45, if_pos c_62]
          · exact rfl
        · refine lv_lload hx hb dX2_refusalOf_65 (lv_at hl 0 rfl) ?_
          refine lv_lconst (v := 0) hx hb dX2_refusalOf_67 (by decide +kernel) ?_
          refine g_lcmpE (tgt := 81) hx hb dX2_refusalOf_68 dX2_refusalOf_69 (by decide) (fun c_68 => ?_) (fun c_68 => ?_)
          · refine lv_bipush (v := (-4)) hx hb dX2_refusalOf_81 (by decide +kernel) ?_
            refine g_iret (u1 := u) hx hb hret hlk hQ hP hD hS dX2_refusalOf_83 ?_ ?_
            · exact by unfold xRefuse xRefuse2; rw [if_pos c_9, if_neg c_40, if_pos c_45, if_neg c_62, if_pos c_68]
            · exact rfl
          · refine lv_aload_n hx hb dX2_refusalOf_72 rfl (lv_at hl 1 rfl) ?_
            refine lv_lload hx hb dX2_refusalOf_73 (lv_at hl 0 rfl) ?_
            refine g_callV (As := [.long (xAnc n (u.1 0) (u.1 1) (xSet p2) (u.2 1))]) (rest := []) hx hb hml hown hts (ctX2_endsBeyondServer l D cI cZ q u n hn h60 (xAnc n (u.1 0) (u.1 1) (xSet p2) (u.2 1))) gX2_refusalOf_X2_endsBeyondServer rfl rfl rfl hdX2_endsBeyondServer ⟨Nat.le_of_ble_eq_true rfl, Nat.le_of_ble_eq_true rfl⟩ XG_em hE hP hK hD hS hA 0 rfl rfl rfl hl.1 rfl (Nat.le_of_ble_eq_true rfl) dX2_refusalOf_75 ⟨Nat.zero_le _, Nat.zero_le _⟩ (fun H locs hP hD hS => ?_)
            have hP : va_P D vwCl (XW cI cZ q u) H := hP
            have hD : va_D A (XW cI cZ q u) := hD
            refine W.eq (g2 := F0 m 78 ls [.int (xEnds n (u.1 0) (u.1 1) (u.2 0) (u.2 1) (xAnc n (u.1 0) (u.1 1) (xSet p2) (u.2 1)))]) rfl ?_
            refine lv_if_eq (tgt := 84) hx hb dX2_refusalOf_78 (by decide) (fun c_78 => ?_) (fun c_78 => ?_)
            · refine lv_iconst (v := 0) hx hb dX2_refusalOf_84 (by decide +kernel) ?_
              refine g_iret (u1 := u) hx hb hret hlk hQ hP hD hS dX2_refusalOf_85 ?_ ?_
              · exact by unfold xRefuse xRefuse2; rw [if_pos c_9, if_neg c_40, if_pos c_45, if_neg c_62, if_neg c_68, if_pos c_78]
              · exact rfl
            · refine lv_bipush (v := (-4)) hx hb dX2_refusalOf_81 (by decide +kernel) ?_
              refine g_iret (u1 := u) hx hb hret hlk hQ hP hD hS dX2_refusalOf_83 ?_ ?_
              · exact by unfold xRefuse xRefuse2; rw [if_pos c_9, if_neg c_40, if_pos c_45, if_neg c_62, if_neg c_68, if_neg c_78]
              · exact rfl
      · refine lv_lload hx hb dX2_refusalOf_48 (lv_at hl 0 rfl) ?_
        refine lv_iload_n hx hb dX2_refusalOf_50 rfl (lv_at hl 3 rfl) ?_
        refine g_callS0 (As := [.long (xAnc n (u.1 0) (u.1 1) (xSet p2) (u.2 1)), .int p1]) (rest := []) hx hb hml hown hts (ctX2_contains l D cI cZ q (xAnc n (u.1 0) (u.1 1) (xSet p2) (u.2 1)) p1) gX2_refusalOf_X2_contains rfl rfl rfl hdX2_contains ⟨Nat.le_of_ble_eq_true rfl, Nat.le_of_ble_eq_true rfl⟩ gEM_true trivial hP hK hS hA rfl hl.1 rfl (Nat.le_of_ble_eq_true rfl) dX2_refusalOf_51 ⟨Nat.zero_le _, Nat.zero_le _⟩ (fun H locs hP hS => ?_)
        refine W.eq (g2 := F0 m 54 ls [.int (xCon (xAnc n (u.1 0) (u.1 1) (xSet p2) (u.2 1)) p1)]) rfl ?_
        refine lv_if_ne (tgt := 60) hx hb dX2_refusalOf_54 (by decide) (fun c_54 => ?_) (fun c_54 => ?_)
        · refine lv_iload_n hx hb dX2_refusalOf_60 rfl (lv_at hl 4 rfl) ?_
          refine lv_iconst (v := (-1)) hx hb dX2_refusalOf_61 (by decide +kernel) ?_
          refine lv_icmp_eq (tgt := 84) hx hb dX2_refusalOf_62 (by decide) (fun c_62 => ?_) (fun c_62 => ?_)
          · refine lv_iconst (v := 0) hx hb dX2_refusalOf_84 (by decide +kernel) ?_
            refine g_iret (u1 := u) hx hb hret hlk hQ hP hD hS dX2_refusalOf_85 ?_ ?_
            · exact by unfold xRefuse xRefuse2; rw [if_pos c_9, if_neg c_40, if_neg c_45, if_neg c_54, if_pos c_62]
            · exact rfl
          · refine lv_lload hx hb dX2_refusalOf_65 (lv_at hl 0 rfl) ?_
            refine lv_lconst (v := 0) hx hb dX2_refusalOf_67 (by decide +kernel) ?_
            refine g_lcmpE (tgt := 81) hx hb dX2_refusalOf_68 dX2_refusalOf_69 (by decide) (fun c_68 => ?_) (fun c_68 => ?_)
            · refine lv_bipush (v := (-4)) hx hb dX2_refusalOf_81 (by decide +kernel) ?_
              refine g_iret (u1 := u) hx hb hret hlk hQ hP hD hS dX2_refusalOf_83 ?_ ?_
              · exact by unfold xRefuse xRefuse2; rw [if_pos c_9, if_neg c_40, if_neg c_45, if_neg c_54, if_neg c_62, if_pos c_68]
              · exact rfl
            · refine lv_aload_n hx hb dX2_refusalOf_72 rfl (lv_at hl 1 rfl) ?_
              refine lv_lload hx hb dX2_refusalOf_73 (lv_at hl 0 rfl) ?_
              refine g_callV (As := [.long (xAnc n (u.1 0) (u.1 1) (xSet p2) (u.2 1))]) (rest := []) hx hb hml hown hts (ctX2_endsBeyondServer l D cI cZ q u n hn h60 (xAnc n (u.1 0) (u.1 1) (xSet p2) (u.2 1))) gX2_refusalOf_X2_endsBeyondServer rfl rfl rfl hdX2_endsBeyondServer ⟨Nat.le_of_ble_eq_true rfl, Nat.le_of_ble_eq_true rfl⟩ XG_em hE hP hK hD hS hA 0 rfl rfl rfl hl.1 rfl (Nat.le_of_ble_eq_true rfl) dX2_refusalOf_75 ⟨Nat.zero_le _, Nat.zero_le _⟩ (fun H locs hP hD hS => ?_)
              have hP : va_P D vwCl (XW cI cZ q u) H := hP
              have hD : va_D A (XW cI cZ q u) := hD
              refine W.eq (g2 := F0 m 78 ls [.int (xEnds n (u.1 0) (u.1 1) (u.2 0) (u.2 1) (xAnc n (u.1 0) (u.1 1) (xSet p2) (u.2 1)))]) rfl ?_
              refine lv_if_eq (tgt := 84) hx hb dX2_refusalOf_78 (by decide) (fun c_78 => ?_) (fun c_78 => ?_)
              · refine lv_iconst (v := 0) hx hb dX2_refusalOf_84 (by decide +kernel) ?_
                refine g_iret (u1 := u) hx hb hret hlk hQ hP hD hS dX2_refusalOf_85 ?_ ?_
                · exact by unfold xRefuse xRefuse2; rw [if_pos c_9, if_neg c_40, if_neg c_45, if_neg c_54, if_neg c_62, if_neg c_68, if_pos c_78]
                · exact rfl
              · refine lv_bipush (v := (-4)) hx hb dX2_refusalOf_81 (by decide +kernel) ?_
                refine g_iret (u1 := u) hx hb hret hlk hQ hP hD hS dX2_refusalOf_83 ?_ ?_
                · exact by unfold xRefuse xRefuse2; rw [if_pos c_9, if_neg c_40, if_neg c_45, if_neg c_54, if_neg c_62, if_neg c_68, if_neg c_78]
                · exact rfl
        · refine lv_bipush (v := (-3)) hx hb dX2_refusalOf_57 (by decide +kernel) ?_
          refine g_iret (u1 := u) hx hb hret hlk hQ hP hD hS dX2_refusalOf_59 ?_ ?_
          · exact by unfold xRefuse xRefuse2; rw [if_pos c_9, if_neg c_40, if_neg c_45, if_pos c_54]
          · exact rfl
  · refine lv_bipush (v := (-2)) hx hb dX2_refusalOf_12 (by decide +kernel) ?_
    refine g_iret (u1 := u) hx hb hret hlk hQ hP hD hS dX2_refusalOf_14 ?_ ?_
    · exact by unfold xRefuse xRefuse2; rw [if_neg c_9]
    · exact rfl
theorem lkX2_firstRefusal_148 : Cond.fieldLink RX2 148 "FetchHouse" "waitingMoves" "I" ∈ wsX2_firstRefusal := List.mem_of_getElem? (i := 1) (by decide +kernel)
theorem lkX2_firstRefusal_30 : Cond.fieldLink RX2 30 "FetchHouse" "movedRefs" "[I" ∈ wsX2_firstRefusal := List.mem_of_getElem? (i := 2) (by decide +kernel)
theorem lkX2_firstRefusal_34 : Cond.fieldLink RX2 34 "FetchHouse" "oldCommits" "[I" ∈ wsX2_firstRefusal := List.mem_of_getElem? (i := 3) (by decide +kernel)
theorem lkX2_firstRefusal_37 : Cond.fieldLink RX2 37 "FetchHouse" "newCommits" "[I" ∈ wsX2_firstRefusal := List.mem_of_getElem? (i := 4) (by decide +kernel)
theorem inX2_firstRefusal_RX2 : ∀ w ∈ u_ws RX2 TX2 9, w ∈ wsX2_firstRefusal := fun w h => List.mem_cons_of_mem _ (List.mem_append_left _ (List.mem_append_left _ (List.mem_append_right _ h)))
theorem inX2_firstRefusal_RX1 : ∀ w ∈ u_ws RX1 TX1 3, w ∈ wsX2_firstRefusal := fun w h => List.mem_cons_of_mem _ (List.mem_append_left _ (List.mem_append_right _ h))
theorem inX2_firstRefusal_RX0 : ∀ w ∈ u_ws RX0 TX0 6, w ∈ wsX2_firstRefusal := fun w h => List.mem_cons_of_mem _ (List.mem_append_right _ h)
abbrev rmX2_firstRefusal : Room := { frames := 5, cells := 0, slots := 0, locals := 121 }
set_option maxHeartbeats 4000000 in
set_option maxRecDepth 100000 in
theorem ctX2_firstRefusal (l : Launch) (D : va_G) (cI cZ : ClassId) (q : Nat → Nat) (u : SX) (n : Nat) (hn : u.1 15 0 = nI n) (h60 : n ≤ 60) (w : Nat) (hw : u.1 13 0 = nI w) (h3 : w ≤ 3) : gM l yX2_firstRefusal wsX2_firstRefusal rmX2_firstRefusal D [(cI, .int), (cZ, .boolean)] (XW cI cZ q) XG [.ref (q 0)] u (some (.int (xFirst n (u.1 0) (u.1 1) (u.1 6) (u.1 9) (u.2 0) (u.2 1) (u.1 10) (u.1 11) (u.1 12) w))) u := by
  refine g_start (cc := cX2_firstRefusal) (maxL := 3) (ret := (some .int)) (by decide) rfl (Nat.le_of_ble_eq_true rfl) ?_
  intro p e s m below meth c A ls Q hx hb hml hret hts hown hlk hE hP hK hD hA hl hQ hS
  have hown : s.vm.findClass RX2 = some m.cls := hown
  have hl : lv_has ls 3 [(0, .ref (q 0))] := hl
  refine lv_iconst (v := (nI 0)) hx hb dX2_firstRefusal_0 (by decide +kernel) ?_
  refine lv_istore_n (lv' := [(1, .int (nI 0)), (0, .ref (q 0))]) hx hb dX2_firstRefusal_1 rfl hl (by decide) rfl (fun ls hl => ?_)
  have loop : ∀ (d k : Nat) (H : Heap) (locs : List Loc) (ls : Array Slot) (hP : va_P D vwCl (XW cI cZ q u) H) (hD : va_D A (XW cI cZ q u)) (hS : va_S A s.heap H locs) (hl : lv_has ls 3 [(0, .ref (q 0)), (1, .int (nI k))]) (hk : k + d = w) (hr : xFirstL (fun k => xRefuse n (u.1 0) (u.1 1) (u.1 6) (u.1 9) (u.2 0) (u.2 1) (u.1 10 k) (u.1 11 k) (u.1 12 k)) d k = (xFirst n (u.1 0) (u.1 1) (u.1 6) (u.1 9) (u.2 0) (u.2 1) (u.1 10) (u.1 11) (u.1 12) w)), W p l e rmX2_firstRefusal s m ([.ref (q 0)] : List Value).toArray below meth c H locs 0 0 Q (F0 m 2 ls []) := by
    intro d
    induction d with
    | zero =>
      intro k H locs ls hP hD hS hl hk hr
      refine lv_iload_n hx hb dX2_firstRefusal_2 rfl (lv_at hl 1 rfl) ?_
      refine lv_aload_n hx hb dX2_firstRefusal_3 rfl (lv_at hl 0 rfl) ?_
      refine va_get (ci := 2) (v := .int (nI w)) (C := RX2) (T := TX2) (N := 9) hx hb hts inX2_firstRefusal_RX2 hown hK hP 0 rfl rfl 7 (by decide) (hts _ lkX2_firstRefusal_148) (fun _ h9 => h9) (congrArg (fun z => some (Value.int z)) hw) dX2_firstRefusal_4 ?_
      refine lv_icmp_ge (tgt := 45) hx hb dX2_firstRefusal_7 (by decide) (fun c_7 => ?_) (fun c_7 => ?_)
      · have n_7 : w ≤ k := (g_leI (a := w) (b := k) rfl rfl (by omega) (by omega)).mp c_7
        refine lv_iconst (v := 0) hx hb dX2_firstRefusal_45 (by decide +kernel) ?_
        refine g_iret (u1 := u) hx hb hret hlk hQ hP hD hS dX2_firstRefusal_46 ?_ ?_
        · exact (by rw [← hr] <;> rfl)
        · exact rfl
      · have n_7 : ¬ w ≤ k := fun h => c_7 ((g_leI (a := w) (b := k) rfl rfl (by omega) (by omega)).mpr h)
        exfalso; omega
    | succ d ih =>
      intro k H locs ls hP hD hS hl hk hr
      refine lv_iload_n hx hb dX2_firstRefusal_2 rfl (lv_at hl 1 rfl) ?_
      refine lv_aload_n hx hb dX2_firstRefusal_3 rfl (lv_at hl 0 rfl) ?_
      refine va_get (ci := 2) (v := .int (nI w)) (C := RX2) (T := TX2) (N := 9) hx hb hts inX2_firstRefusal_RX2 hown hK hP 0 rfl rfl 7 (by decide) (hts _ lkX2_firstRefusal_148) (fun _ h9 => h9) (congrArg (fun z => some (Value.int z)) hw) dX2_firstRefusal_4 ?_
      refine lv_icmp_ge (tgt := 45) hx hb dX2_firstRefusal_7 (by decide) (fun c_7 => ?_) (fun c_7 => ?_)
      · have n_7 : w ≤ k := (g_leI (a := w) (b := k) rfl rfl (by omega) (by omega)).mp c_7
        exfalso; omega
      · have n_7 : ¬ w ≤ k := fun h => c_7 ((g_leI (a := w) (b := k) rfl rfl (by omega) (by omega)).mpr h)
        refine lv_aload_n hx hb dX2_firstRefusal_10 rfl (lv_at hl 0 rfl) ?_
        refine lv_aload_n hx hb dX2_firstRefusal_11 rfl (lv_at hl 0 rfl) ?_
        refine va_get (ci := 2) (v := .ref (q 14)) (C := RX2) (T := TX2) (N := 9) hx hb hts inX2_firstRefusal_RX2 hown hK hP 0 rfl rfl 4 (by decide) (hts _ lkX2_firstRefusal_30) (fun _ h9 => h9) rfl dX2_firstRefusal_12 ?_
        refine lv_iload_n hx hb dX2_firstRefusal_15 rfl (lv_at hl 1 rfl) ?_
        refine g_iald (n := 3) (f := (u.1 10)) hx hb hK hP 14 0 rfl rfl k (by omega) (by omega) rfl dX2_firstRefusal_16 ?_
        refine lv_aload_n hx hb dX2_firstRefusal_17 rfl (lv_at hl 0 rfl) ?_
        refine va_get (ci := 2) (v := .ref (q 15)) (C := RX2) (T := TX2) (N := 9) hx hb hts inX2_firstRefusal_RX2 hown hK hP 0 rfl rfl 5 (by decide) (hts _ lkX2_firstRefusal_34) (fun _ h9 => h9) rfl dX2_firstRefusal_18 ?_
        refine lv_iload_n hx hb dX2_firstRefusal_21 rfl (lv_at hl 1 rfl) ?_
        refine g_iald (n := 3) (f := (u.1 11)) hx hb hK hP 15 0 rfl rfl k (by omega) (by omega) rfl dX2_firstRefusal_22 ?_
        refine lv_aload_n hx hb dX2_firstRefusal_23 rfl (lv_at hl 0 rfl) ?_
        refine va_get (ci := 2) (v := .ref (q 16)) (C := RX2) (T := TX2) (N := 9) hx hb hts inX2_firstRefusal_RX2 hown hK hP 0 rfl rfl 6 (by decide) (hts _ lkX2_firstRefusal_37) (fun _ h9 => h9) rfl dX2_firstRefusal_24 ?_
        refine lv_iload_n hx hb dX2_firstRefusal_27 rfl (lv_at hl 1 rfl) ?_
        refine g_iald (n := 3) (f := (u.1 12)) hx hb hK hP 16 0 rfl rfl k (by omega) (by omega) rfl dX2_firstRefusal_28 ?_
        refine g_callV (As := [.int ((u.1 10) k), .int ((u.1 11) k), .int ((u.1 12) k)]) (rest := []) hx hb hml hown hts (ctX2_refusalOf l D cI cZ q u n hn h60 ((u.1 10) k) ((u.1 11) k) ((u.1 12) k)) gX2_firstRefusal_X2_refusalOf rfl rfl rfl hdX2_refusalOf ⟨Nat.le_of_ble_eq_true rfl, Nat.le_of_ble_eq_true rfl⟩ XG_em hE hP hK hD hS hA 0 rfl rfl rfl hl.1 rfl (Nat.le_of_ble_eq_true rfl) dX2_firstRefusal_29 ⟨Nat.zero_le _, Nat.zero_le _⟩ (fun H locs hP hD hS => ?_)
        have hP : va_P D vwCl (XW cI cZ q u) H := hP
        have hD : va_D A (XW cI cZ q u) := hD
        refine W.eq (g2 := F0 m 32 ls [.int (xRefuse n (u.1 0) (u.1 1) (u.1 6) (u.1 9) (u.2 0) (u.2 1) ((u.1 10) k) ((u.1 11) k) ((u.1 12) k))]) rfl ?_
        refine lv_istore_n (lv' := [(2, .int (xRefuse n (u.1 0) (u.1 1) (u.1 6) (u.1 9) (u.2 0) (u.2 1) ((u.1 10) k) ((u.1 11) k) ((u.1 12) k))), (0, .ref (q 0)), (1, .int (nI k))]) hx hb dX2_firstRefusal_32 rfl hl (by decide) rfl (fun ls hl => ?_)
        refine lv_iload_n hx hb dX2_firstRefusal_33 rfl (lv_at hl 0 rfl) ?_
        refine lv_if_eq (tgt := 39) hx hb dX2_firstRefusal_34 (by decide) (fun c_34 => ?_) (fun c_34 => ?_)
        · refine lv_iinc (v := (nI (k + 1))) (lv' := [(1, .int (nI (k + 1))), (2, .int (xRefuse n (u.1 0) (u.1 1) (u.1 6) (u.1 9) (u.2 0) (u.2 1) ((u.1 10) k) ((u.1 11) k) ((u.1 12) k))), (0, .ref (q 0))]) hx hb dX2_firstRefusal_39 hl (k := 2) rfl (nI_1 _) (by decide) rfl (fun ls hl => ?_)
          refine lv_goto (tgt := 2) hx hb dX2_firstRefusal_42 (by decide) ?_
          exact ih (k + 1) _ _ _ hP hD hS (lv_sub hl [2, 0] rfl) (by omega) (by rw [← hr]; exact (if_pos c_34).symm)
        · refine lv_iload_n hx hb dX2_firstRefusal_37 rfl (lv_at hl 0 rfl) ?_
          refine g_iret (u1 := u) hx hb hret hlk hQ hP hD hS dX2_firstRefusal_38 ?_ ?_
          · exact (by rw [← hr]; exact congrArg (fun z => some (Value.int z)) (if_neg c_34).symm)
          · exact rfl
  exact loop w 0 _ _ _ hP hD hS (lv_sub hl [1, 0] rfl) (by omega) rfl
theorem lkX2_doMoves_10 : Cond.fieldLink RX2 10 "FetchHouse" "history" "LFetchHouse$History;" ∈ wsX2_doMoves := List.mem_of_getElem? (i := 5) (by decide +kernel)
theorem lkX2_doMoves_115 : Cond.constantLong RX2 115 (-1) ∈ wsX2_doMoves := List.mem_of_getElem? (i := 7) (by decide +kernel)
theorem lkX2_doMoves_148 : Cond.fieldLink RX2 148 "FetchHouse" "waitingMoves" "I" ∈ wsX2_doMoves := List.mem_of_getElem? (i := 1) (by decide +kernel)
theorem lkX2_doMoves_19 : Cond.fieldLink RX2 19 "FetchHouse" "server" "LFetchHouse$Store;" ∈ wsX2_doMoves := List.mem_of_getElem? (i := 2) (by decide +kernel)
theorem lkX2_doMoves_23 : Cond.fieldLink RX2 23 "FetchHouse" "client" "LFetchHouse$Store;" ∈ wsX2_doMoves := List.mem_of_getElem? (i := 6) (by decide +kernel)
theorem lkX2_doMoves_30 : Cond.fieldLink RX2 30 "FetchHouse" "movedRefs" "[I" ∈ wsX2_doMoves := List.mem_of_getElem? (i := 3) (by decide +kernel)
theorem lkX2_doMoves_37 : Cond.fieldLink RX2 37 "FetchHouse" "newCommits" "[I" ∈ wsX2_doMoves := List.mem_of_getElem? (i := 4) (by decide +kernel)
theorem inX2_doMoves_RX2 : ∀ w ∈ u_ws RX2 TX2 9, w ∈ wsX2_doMoves := fun w h => List.mem_cons_of_mem _ (List.mem_append_left _ (List.mem_append_left _ (List.mem_append_right _ h)))
theorem inX2_doMoves_RX1 : ∀ w ∈ u_ws RX1 TX1 3, w ∈ wsX2_doMoves := fun w h => List.mem_cons_of_mem _ (List.mem_append_left _ (List.mem_append_right _ h))
theorem inX2_doMoves_RX0 : ∀ w ∈ u_ws RX0 TX0 6, w ∈ wsX2_doMoves := fun w h => List.mem_cons_of_mem _ (List.mem_append_right _ h)
abbrev rmX2_doMoves : Room := { frames := 4, cells := 0, slots := 0, locals := 96 }
set_option maxHeartbeats 4000000 in
set_option maxRecDepth 100000 in
theorem ctX2_doMoves (l : Launch) (D : va_G) (cI cZ : ClassId) (q : Nat → Nat) (u : SX) (n : Nat) (hn : u.1 15 0 = nI n) (h60 : n ≤ 60) (w : Nat) (hw : u.1 13 0 = nI w) (h3 : w ≤ 3) : gM l yX2_doMoves wsX2_doMoves rmX2_doMoves D [(cI, .int), (cZ, .boolean)] (XW cI cZ q) XG [.ref (q 0)] u (some (.int (xBits ((xAnc n (u.1 0) (u.1 1) (xMv (u.1 10) (u.1 12) (u.1 6) w).1 (u.2 1)) &&& ((u.2 0) ^^^ (-1)))))) (gL (gS (gS (gS u 4 (xFiles n (u.1 2) (xAnc n (u.1 0) (u.1 1) (xMv (u.1 10) (u.1 12) (u.1 6) w).1 (u.2 1)) (u.1 4))) 5 (xAddFs (xFiles n (u.1 2) (xAnc n (u.1 0) (u.1 1) (xMv (u.1 10) (u.1 12) (u.1 6) w).1 (u.2 1)) (u.1 4)) (u.1 7) (u.1 5))) 6 (xMv (u.1 10) (u.1 12) (u.1 6) w).2) 0 ((u.2 0) ||| (xAnc n (u.1 0) (u.1 1) (xMv (u.1 10) (u.1 12) (u.1 6) w).1 (u.2 1)))) := by
  refine g_start (cc := cX2_doMoves) (maxL := 6) (ret := (some .int)) (by decide) rfl (Nat.le_of_ble_eq_true rfl) ?_
  intro p e s m below meth c A ls Q hx hb hml hret hts hown hlk hE hP hK hD hA hl hQ hS
  have hown : s.vm.findClass RX2 = some m.cls := hown
  have hl : lv_has ls 6 [(0, .ref (q 0))] := hl
  refine lv_lconst (v := 0) hx hb dX2_doMoves_0 (by decide +kernel) ?_
  refine lv_lstore_n (lv' := [(1, .long 0), (0, .ref (q 0))]) hx hb dX2_doMoves_1 rfl hl (by decide) rfl (fun ls hl => ?_)
  refine lv_iconst (v := (nI 0)) hx hb dX2_doMoves_2 (by decide +kernel) ?_
  refine lv_istore_n (lv' := [(3, .int (nI 0)), (1, .long 0), (0, .ref (q 0))]) hx hb dX2_doMoves_3 rfl hl (by decide) rfl (fun ls hl => ?_)
  have loop : ∀ (d k : Nat) (t : Int64) (rf : Nat → Int32) (H : Heap) (locs : List Loc) (ls : Array Slot) (hP : va_P D vwCl (XW cI cZ q (gS u 6 rf)) H) (hD : va_D A (XW cI cZ q (gS u 6 rf))) (hS : va_S A s.heap H locs) (hl : lv_has ls 6 [(0, .ref (q 0)), (1, .long t), (3, .int (nI k))]) (hk : k + d = w) (hr : itU (xMvStep (u.1 10) (u.1 12)) d k (t, rf) = (xMv (u.1 10) (u.1 12) (u.1 6) w)), W p l e rmX2_doMoves s m ([.ref (q 0)] : List Value).toArray below meth c H locs 0 0 Q (F0 m 4 ls []) := by
    intro d
    induction d with
    | zero =>
      intro k t rf H locs ls hP hD hS hl hk hr
      have ht : t = (xMv (u.1 10) (u.1 12) (u.1 6) w).1 := by rw [← hr]; rfl
      have hrf : rf = (xMv (u.1 10) (u.1 12) (u.1 6) w).2 := by rw [← hr]; rfl
      refine lv_iload_n hx hb dX2_doMoves_4 rfl (lv_at hl 2 rfl) ?_
      refine lv_aload_n hx hb dX2_doMoves_5 rfl (lv_at hl 0 rfl) ?_
      refine va_get (ci := 2) (v := .int (nI w)) (C := RX2) (T := TX2) (N := 9) hx hb hts inX2_doMoves_RX2 hown hK hP 0 rfl rfl 7 (by decide) (hts _ lkX2_doMoves_148) (fun _ h9 => h9) (congrArg (fun z => some (Value.int z)) hw) dX2_doMoves_6 ?_
      refine lv_icmp_ge (tgt := 49) hx hb dX2_doMoves_9 (by decide) (fun c_9 => ?_) (fun c_9 => ?_)
      · have n_9 : w ≤ k := (g_leI (a := w) (b := k) rfl rfl (by omega) (by omega)).mp c_9
        refine lv_aload_n hx hb dX2_doMoves_49 rfl (lv_at hl 0 rfl) ?_
        refine va_get (ci := 2) (v := .ref (q 1)) (C := RX2) (T := TX2) (N := 9) hx hb hts inX2_doMoves_RX2 hown hK hP 0 rfl rfl 0 (by decide) (hts _ lkX2_doMoves_10) (fun _ h9 => h9) rfl dX2_doMoves_50 ?_
        refine lv_lload_n hx hb dX2_doMoves_53 rfl (lv_at hl 1 rfl) ?_
        refine lv_aload_n hx hb dX2_doMoves_54 rfl (lv_at hl 0 rfl) ?_
        refine va_get (ci := 2) (v := .ref (q 3)) (C := RX2) (T := TX2) (N := 9) hx hb hts inX2_doMoves_RX2 hown hK hP 0 rfl rfl 2 (by decide) (hts _ lkX2_doMoves_23) (fun _ h9 => h9) rfl dX2_doMoves_55 ?_
        refine va_getN (host := "FetchHouse") (ci := 1) (v := .long (u.2 1)) (C := RX1) (T := TX1) (N := 3) hx hb hts inX2_doMoves_RX1 hown hK hP 3 rfl rfl 0 (by decide) (va_Nw.use rfl (hE.1 _ (List.mem_of_getElem? (i := 0) rfl))) (fun _ h9 => h9) rfl dX2_doMoves_58 ?_
        refine g_callV (As := [.long t, .long (u.2 1)]) (rest := []) hx hb hml hown hts (ctX0_ancestorsOf l D cI cZ q (gS u 6 rf) n hn h60 t (u.2 1)) gX2_doMoves_X0_ancestorsOf rfl rfl rfl hdX0_ancestorsOf ⟨Nat.le_of_ble_eq_true rfl, Nat.le_of_ble_eq_true rfl⟩ XG_em hE hP hK hD hS hA 1 rfl rfl rfl hl.1 rfl (Nat.le_of_ble_eq_true rfl) dX2_doMoves_61 ⟨Nat.zero_le _, Nat.zero_le _⟩ (fun H locs hP hD hS => ?_)
        have hP : va_P D vwCl (XW cI cZ q (gS u 6 rf)) H := hP
        have hD : va_D A (XW cI cZ q (gS u 6 rf)) := hD
        refine W.eq (g2 := F0 m 64 ls [.long (xAnc n (u.1 0) (u.1 1) t (u.2 1))]) rfl ?_
        refine lv_lstore_n (lv' := [(3, .long (xAnc n (u.1 0) (u.1 1) t (u.2 1))), (0, .ref (q 0)), (1, .long t)]) hx hb dX2_doMoves_64 rfl hl (by decide) rfl (fun ls hl => ?_)
        refine lv_lload_n hx hb dX2_doMoves_65 rfl (lv_at hl 0 rfl) ?_
        refine lv_aload_n hx hb dX2_doMoves_66 rfl (lv_at hl 1 rfl) ?_
        refine va_get (ci := 2) (v := .ref (q 2)) (C := RX2) (T := TX2) (N := 9) hx hb hts inX2_doMoves_RX2 hown hK hP 0 rfl rfl 1 (by decide) (hts _ lkX2_doMoves_19) (fun _ h9 => h9) rfl dX2_doMoves_67 ?_
        refine va_getN (host := "FetchHouse") (ci := 1) (v := .long (u.2 0)) (C := RX1) (T := TX1) (N := 3) hx hb hts inX2_doMoves_RX1 hown hK hP 2 rfl rfl 0 (by decide) (va_Nw.use rfl (hE.1 _ (List.mem_of_getElem? (i := 0) rfl))) (fun _ h9 => h9) rfl dX2_doMoves_70 ?_
        refine lv_ldc2 (v := (-1)) hx hb hown (hts _ lkX2_doMoves_115) dX2_doMoves_73 ?_
        refine lv_lxor hx hb dX2_doMoves_76 ?_
        refine lv_land hx hb dX2_doMoves_77 ?_
        refine g_callS0 (As := [.long ((xAnc n (u.1 0) (u.1 1) t (u.2 1)) &&& ((u.2 0) ^^^ (-1)))]) (rest := []) hx hb hml hown hts (ctJ13_bitCount_95d88 l D cI cZ q ((xAnc n (u.1 0) (u.1 1) t (u.2 1)) &&& ((u.2 0) ^^^ (-1)))) gX2_doMoves_J13_bitCount_95d88 rfl rfl rfl hdJ13_bitCount_95d88 ⟨Nat.le_of_ble_eq_true rfl, Nat.le_of_ble_eq_true rfl⟩ gEM_true trivial hP hK hS hA rfl hl.1 rfl (Nat.le_of_ble_eq_true rfl) dX2_doMoves_78 ⟨Nat.zero_le _, Nat.zero_le _⟩ (fun H locs hP hS => ?_)
        refine W.eq (g2 := F0 m 81 ls [.int (xBits ((xAnc n (u.1 0) (u.1 1) t (u.2 1)) &&& ((u.2 0) ^^^ (-1))))]) rfl ?_
        refine lv_istore (lv' := [(5, .int (xBits ((xAnc n (u.1 0) (u.1 1) t (u.2 1)) &&& ((u.2 0) ^^^ (-1))))), (3, .long (xAnc n (u.1 0) (u.1 1) t (u.2 1))), (0, .ref (q 0)), (1, .long t)]) hx hb dX2_doMoves_81 hl (by decide) rfl (fun ls hl => ?_)
        refine lv_aload_n hx hb dX2_doMoves_83 rfl (lv_at hl 2 rfl) ?_
        refine va_get (ci := 2) (v := .ref (q 2)) (C := RX2) (T := TX2) (N := 9) hx hb hts inX2_doMoves_RX2 hown hK hP 0 rfl rfl 1 (by decide) (hts _ lkX2_doMoves_19) (fun _ h9 => h9) rfl dX2_doMoves_84 ?_
        refine lv_dup hx hb dX2_doMoves_87 rfl ?_
        refine va_getN (host := "FetchHouse") (ci := 1) (v := .long (u.2 0)) (C := RX1) (T := TX1) (N := 3) hx hb hts inX2_doMoves_RX1 hown hK hP 2 rfl rfl 0 (by decide) (va_Nw.use rfl (hE.1 _ (List.mem_of_getElem? (i := 0) rfl))) (fun _ h9 => h9) rfl dX2_doMoves_88 ?_
        refine lv_lload_n hx hb dX2_doMoves_91 rfl (lv_at hl 1 rfl) ?_
        refine lv_lor hx hb dX2_doMoves_92 ?_
        refine va_putN (host := "FetchHouse") (ci := 1) (v := .long ((u.2 0) ||| (xAnc n (u.1 0) (u.1 1) t (u.2 1)))) (ty := .long) (C := RX1) (T := TX1) (N := 3) hx hb hts inX2_doMoves_RX1 tyX1 tyX1_ok nmX1 hown hK hP hD hS 2 rfl rfl 0 (by decide) (va_Nw.use rfl (hE.1 _ (List.mem_of_getElem? (i := 0) rfl))) (fun _ h9 => h9) rfl (by decide +kernel) rfl rfl (Nat.le_of_ble_eq_true rfl) dX2_doMoves_93 (fun H locs hP hD hS => ?_)
        have hP : va_P D vwCl (XW cI cZ q (gL (gS u 6 rf) 0 ((u.2 0) ||| (xAnc n (u.1 0) (u.1 1) t (u.2 1))))) H := hP
        have hD : va_D A (XW cI cZ q (gL (gS u 6 rf) 0 ((u.2 0) ||| (xAnc n (u.1 0) (u.1 1) t (u.2 1))))) := hD
        refine lv_aload_n hx hb dX2_doMoves_96 rfl (lv_at hl 2 rfl) ?_
        refine va_get (ci := 2) (v := .ref (q 2)) (C := RX2) (T := TX2) (N := 9) hx hb hts inX2_doMoves_RX2 hown hK hP 0 rfl rfl 1 (by decide) (hts _ lkX2_doMoves_19) (fun _ h9 => h9) rfl dX2_doMoves_97 ?_
        refine lv_aload_n hx hb dX2_doMoves_100 rfl (lv_at hl 2 rfl) ?_
        refine va_get (ci := 2) (v := .ref (q 1)) (C := RX2) (T := TX2) (N := 9) hx hb hts inX2_doMoves_RX2 hown hK hP 0 rfl rfl 0 (by decide) (hts _ lkX2_doMoves_10) (fun _ h9 => h9) rfl dX2_doMoves_101 ?_
        refine lv_lload_n hx hb dX2_doMoves_104 rfl (lv_at hl 1 rfl) ?_
        refine g_callV (As := [.long (xAnc n (u.1 0) (u.1 1) t (u.2 1))]) (rest := [.ref (q 2)]) hx hb hml hown hts (ctX0_filesOf l D cI cZ q (gL (gS u 6 rf) 0 ((u.2 0) ||| (xAnc n (u.1 0) (u.1 1) t (u.2 1)))) n hn h60 (xAnc n (u.1 0) (u.1 1) t (u.2 1))) gX2_doMoves_X0_filesOf rfl rfl rfl hdX0_filesOf ⟨Nat.le_of_ble_eq_true rfl, Nat.le_of_ble_eq_true rfl⟩ XG_em hE hP hK hD hS hA 1 rfl rfl rfl hl.1 rfl (Nat.le_of_ble_eq_true rfl) dX2_doMoves_105 ⟨Nat.zero_le _, Nat.zero_le _⟩ (fun H locs hP hD hS => ?_)
        have hP : va_P D vwCl (XW cI cZ q (gL (gS (gS u 4 (xFiles n (u.1 2) (xAnc n (u.1 0) (u.1 1) t (u.2 1)) (u.1 4))) 6 rf) 0 ((u.2 0) ||| (xAnc n (u.1 0) (u.1 1) t (u.2 1))))) H := hP
        have hD : va_D A (XW cI cZ q (gL (gS (gS u 4 (xFiles n (u.1 2) (xAnc n (u.1 0) (u.1 1) t (u.2 1)) (u.1 4))) 6 rf) 0 ((u.2 0) ||| (xAnc n (u.1 0) (u.1 1) t (u.2 1))))) := hD
        refine W.eq (g2 := F0 m 108 ls [.ref (q 8), .ref (q 2)]) rfl ?_
        refine lv_aload_n hx hb dX2_doMoves_108 rfl (lv_at hl 2 rfl) ?_
        refine va_get (ci := 2) (v := .ref (q 3)) (C := RX2) (T := TX2) (N := 9) hx hb hts inX2_doMoves_RX2 hown hK hP 0 rfl rfl 2 (by decide) (hts _ lkX2_doMoves_23) (fun _ h9 => h9) rfl dX2_doMoves_109 ?_
        refine g_callV (As := [.ref (q 8), .ref (q 3)]) (rest := []) hx hb hml hown hts (ctX1_addFiles_0 l D cI cZ q (gL (gS (gS u 4 (xFiles n (u.1 2) (xAnc n (u.1 0) (u.1 1) t (u.2 1)) (u.1 4))) 6 rf) 0 ((u.2 0) ||| (xAnc n (u.1 0) (u.1 1) t (u.2 1))))) gX2_doMoves_X1_addFiles rfl rfl rfl hdX1_addFiles ⟨Nat.le_of_ble_eq_true rfl, Nat.le_of_ble_eq_true rfl⟩ XG_em hE hP hK hD hS hA 2 rfl rfl rfl hl.1 rfl (Nat.le_of_ble_eq_true rfl) dX2_doMoves_112 ⟨Nat.zero_le _, Nat.zero_le _⟩ (fun H locs hP hD hS => ?_)
        have hP : va_P D vwCl (XW cI cZ q (gL (gS (gS (gS u 4 (xFiles n (u.1 2) (xAnc n (u.1 0) (u.1 1) t (u.2 1)) (u.1 4))) 5 (xAddFs (xFiles n (u.1 2) (xAnc n (u.1 0) (u.1 1) t (u.2 1)) (u.1 4)) (u.1 7) (u.1 5))) 6 rf) 0 ((u.2 0) ||| (xAnc n (u.1 0) (u.1 1) t (u.2 1))))) H := hP
        have hD : va_D A (XW cI cZ q (gL (gS (gS (gS u 4 (xFiles n (u.1 2) (xAnc n (u.1 0) (u.1 1) t (u.2 1)) (u.1 4))) 5 (xAddFs (xFiles n (u.1 2) (xAnc n (u.1 0) (u.1 1) t (u.2 1)) (u.1 4)) (u.1 7) (u.1 5))) 6 rf) 0 ((u.2 0) ||| (xAnc n (u.1 0) (u.1 1) t (u.2 1))))) := hD
        refine W.eq (g2 := F0 m 115 ls []) rfl ?_
        refine lv_iload hx hb dX2_doMoves_115 (lv_at hl 0 rfl) ?_
        refine g_iret (u1 := (gL (gS (gS (gS u 4 (xFiles n (u.1 2) (xAnc n (u.1 0) (u.1 1) t (u.2 1)) (u.1 4))) 5 (xAddFs (xFiles n (u.1 2) (xAnc n (u.1 0) (u.1 1) t (u.2 1)) (u.1 4)) (u.1 7) (u.1 5))) 6 rf) 0 ((u.2 0) ||| (xAnc n (u.1 0) (u.1 1) t (u.2 1))))) hx hb hret hlk hQ hP hD hS dX2_doMoves_117 ?_ ?_
        · exact (by rw [ht])
        · exact (by rw [ht, hrf] <;> rfl)
      · have n_9 : ¬ w ≤ k := fun h => c_9 ((g_leI (a := w) (b := k) rfl rfl (by omega) (by omega)).mpr h)
        exfalso; omega
    | succ d ih =>
      intro k t rf H locs ls hP hD hS hl hk hr
      refine lv_iload_n hx hb dX2_doMoves_4 rfl (lv_at hl 2 rfl) ?_
      refine lv_aload_n hx hb dX2_doMoves_5 rfl (lv_at hl 0 rfl) ?_
      refine va_get (ci := 2) (v := .int (nI w)) (C := RX2) (T := TX2) (N := 9) hx hb hts inX2_doMoves_RX2 hown hK hP 0 rfl rfl 7 (by decide) (hts _ lkX2_doMoves_148) (fun _ h9 => h9) (congrArg (fun z => some (Value.int z)) hw) dX2_doMoves_6 ?_
      refine lv_icmp_ge (tgt := 49) hx hb dX2_doMoves_9 (by decide) (fun c_9 => ?_) (fun c_9 => ?_)
      · have n_9 : w ≤ k := (g_leI (a := w) (b := k) rfl rfl (by omega) (by omega)).mp c_9
        exfalso; omega
      · have n_9 : ¬ w ≤ k := fun h => c_9 ((g_leI (a := w) (b := k) rfl rfl (by omega) (by omega)).mpr h)
        refine lv_aload_n hx hb dX2_doMoves_12 rfl (lv_at hl 0 rfl) ?_
        refine va_get (ci := 2) (v := .ref (q 2)) (C := RX2) (T := TX2) (N := 9) hx hb hts inX2_doMoves_RX2 hown hK hP 0 rfl rfl 1 (by decide) (hts _ lkX2_doMoves_19) (fun _ h9 => h9) rfl dX2_doMoves_13 ?_
        refine lv_aload_n hx hb dX2_doMoves_16 rfl (lv_at hl 0 rfl) ?_
        refine va_get (ci := 2) (v := .ref (q 14)) (C := RX2) (T := TX2) (N := 9) hx hb hts inX2_doMoves_RX2 hown hK hP 0 rfl rfl 4 (by decide) (hts _ lkX2_doMoves_30) (fun _ h9 => h9) rfl dX2_doMoves_17 ?_
        refine lv_iload_n hx hb dX2_doMoves_20 rfl (lv_at hl 2 rfl) ?_
        refine g_iald (n := 3) (f := (u.1 10)) hx hb hK hP 14 0 rfl rfl k (by omega) (by omega) rfl dX2_doMoves_21 ?_
        refine lv_aload_n hx hb dX2_doMoves_22 rfl (lv_at hl 0 rfl) ?_
        refine va_get (ci := 2) (v := .ref (q 16)) (C := RX2) (T := TX2) (N := 9) hx hb hts inX2_doMoves_RX2 hown hK hP 0 rfl rfl 6 (by decide) (hts _ lkX2_doMoves_37) (fun _ h9 => h9) rfl dX2_doMoves_23 ?_
        refine lv_iload_n hx hb dX2_doMoves_26 rfl (lv_at hl 2 rfl) ?_
        refine g_iald (n := 3) (f := (u.1 12)) hx hb hK hP 16 0 rfl rfl k (by omega) (by omega) rfl dX2_doMoves_27 ?_
        refine g_callV (As := [.int ((u.1 10) k), .int ((u.1 12) k)]) (rest := []) hx hb hml hown hts (ctX1_pointRef_0 l D cI cZ q (gS u 6 rf) ((u.1 10) k) ((u.1 12) k)) gX2_doMoves_X1_pointRef rfl rfl rfl hdX1_pointRef ⟨Nat.le_of_ble_eq_true rfl, Nat.le_of_ble_eq_true rfl⟩ XG_em hE hP hK hD hS hA 2 rfl rfl rfl hl.1 rfl (Nat.le_of_ble_eq_true rfl) dX2_doMoves_28 ⟨Nat.zero_le _, Nat.zero_le _⟩ (fun H locs hP hD hS => ?_)
        have hP : va_P D vwCl (XW cI cZ q (gS u 6 (xPoint rf ((u.1 10) k) ((u.1 12) k)))) H := hP
        have hD : va_D A (XW cI cZ q (gS u 6 (xPoint rf ((u.1 10) k) ((u.1 12) k)))) := hD
        refine W.eq (g2 := F0 m 31 ls []) rfl ?_
        refine lv_lload_n hx hb dX2_doMoves_31 rfl (lv_at hl 1 rfl) ?_
        refine lv_aload_n hx hb dX2_doMoves_32 rfl (lv_at hl 0 rfl) ?_
        refine va_get (ci := 2) (v := .ref (q 16)) (C := RX2) (T := TX2) (N := 9) hx hb hts inX2_doMoves_RX2 hown hK hP 0 rfl rfl 6 (by decide) (hts _ lkX2_doMoves_37) (fun _ h9 => h9) rfl dX2_doMoves_33 ?_
        refine lv_iload_n hx hb dX2_doMoves_36 rfl (lv_at hl 2 rfl) ?_
        refine g_iald (n := 3) (f := (u.1 12)) hx hb hK hP 16 0 rfl rfl k (by omega) (by omega) rfl dX2_doMoves_37 ?_
        refine g_callS0 (As := [.int ((u.1 12) k)]) (rest := [.long t]) hx hb hml hown hts (ctX2_setOf l D cI cZ q ((u.1 12) k)) gX2_doMoves_X2_setOf rfl rfl rfl hdX2_setOf ⟨Nat.le_of_ble_eq_true rfl, Nat.le_of_ble_eq_true rfl⟩ gEM_true trivial hP hK hS hA rfl hl.1 rfl (Nat.le_of_ble_eq_true rfl) dX2_doMoves_38 ⟨Nat.zero_le _, Nat.zero_le _⟩ (fun H locs hP hS => ?_)
        refine W.eq (g2 := F0 m 41 ls [.long (xSet ((u.1 12) k)), .long t]) rfl ?_
        refine lv_lor hx hb dX2_doMoves_41 ?_
        refine lv_lstore_n (lv' := [(1, .long (t ||| (xSet ((u.1 12) k)))), (0, .ref (q 0)), (3, .int (nI k))]) hx hb dX2_doMoves_42 rfl hl (by decide) rfl (fun ls hl => ?_)
        refine lv_iinc (v := (nI (k + 1))) (lv' := [(3, .int (nI (k + 1))), (1, .long (t ||| (xSet ((u.1 12) k)))), (0, .ref (q 0))]) hx hb dX2_doMoves_43 hl (k := 2) rfl (nI_1 _) (by decide) rfl (fun ls hl => ?_)
        refine lv_goto (tgt := 4) hx hb dX2_doMoves_46 (by decide) ?_
        exact ih (k + 1) (t ||| (xSet ((u.1 12) k))) (xPoint rf ((u.1 10) k) ((u.1 12) k)) _ _ _ hP hD hS (lv_sub hl [2, 1, 0] rfl) (by omega) (by rw [← hr] <;> rfl)
  exact loop w 0 0 (u.1 6) _ _ _ hP hD hS (lv_sub hl [2, 1, 0] rfl) (by omega) rfl
