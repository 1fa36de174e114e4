/-! THE LAW'S WRAPPERS: a call of the class, or the number of what it throws -/
abbrev rmL0 : Room := { frames := 9, cells := 0, slots := 0, locals := 240 }
abbrev rmL1 : Room := { frames := 9, cells := 1, slots := 6, locals := 240 }
def zI (v : Int32) : Int32 := if v = 0 then 0 else 1
abbrev tyXZ (cI cZ : ClassId) : List (ClassId × FieldType) := [(cI, .int), (cZ, .boolean)]
theorem hdL_makes : yL_makes.cls ≠ "java/lang/invoke/MethodHandle" ∧ yL_makes.cls ≠ "java/lang/invoke/VarHandle" ∧ (parseMethodDescriptor yL_makes.desc).map (fun d => d.parameters.length) = some 6 := by decide +kernel
set_option maxHeartbeats 4000000 in
set_option maxRecDepth 100000 in
theorem wr_makes (l : Launch) (D : va_G) (cI cZ : ClassId) (q : Nat → Nat) {u u' : SX} {rmc : Room} (p0 p1 p2 p3 p4 : Int32) {v : Int32} (hrm : rmc.cells = 0 ∧ rmc.slots = 0 ∧ rmc.frames ≤ 8 ∧ rmc.locals ≤ 200) (hM : gM l yX2_make wsX2_make rmc D (tyXZ cI cZ) (XW cI cZ q) XG [.ref (q 0), .int p0, .int p1, .int p2, .int p3, .int p4] u (some (.int v)) u') : gB l yL_makes wsL_makes rmL0 D (tyXZ cI cZ) (XW cI cZ q) LE XT [.ref (q 0), .int p0, .int p1, .int p2, .int p3, .int p4] u (some (.int v)) u' 0 0 0 := by
  refine g_startBW (cc := cL_makes) (maxL := 7) (ret := some .int) (hh := [(0, 11, 12, 13), (0, 11, 17, 16), (0, 11, 22, 19)]) (by decide) rfl (Nat.le_of_ble_eq_true rfl) ?_
  intro p e s m below meth c A ls Q hx hb hml hret hts hown hlk hE hP hK hD hA hl hQ hS hXT htab
  have hown : s.vm.findClass RL = some m.cls := hown
  have hl : lv_has ls 7 [(0, .ref (q 0)), (1, .int p0), (2, .int p1), (3, .int p2), (4, .int p3), (5, .int p4)] := hl
  refine lv_aload_n hx hb dL_makes_0 rfl (lv_at hl 0 rfl) ?_
  refine lv_iload_n hx hb dL_makes_1 rfl (lv_at hl 1 rfl) ?_
  refine lv_iload_n hx hb dL_makes_2 rfl (lv_at hl 2 rfl) ?_
  refine lv_iload_n hx hb dL_makes_3 rfl (lv_at hl 3 rfl) ?_
  refine lv_iload hx hb dL_makes_4 (lv_at hl 4 rfl) ?_
  refine lv_iload hx hb dL_makes_6 (lv_at hl 5 rfl) ?_
  refine g_callV (As := [.int p0, .int p1, .int p2, .int p3, .int p4]) (rest := []) hx hb hml hown hts hM gL_makes_X2_make rfl hrm.1 hrm.2.1 hdX2_make ⟨Nat.le_trans (Nat.succ_le_succ hrm.2.2.1) (Nat.le_of_ble_eq_true rfl), Nat.le_trans (Nat.add_le_add_left hrm.2.2.2 _) (Nat.le_of_ble_eq_true rfl)⟩ XG_em hE.1.1 hP hK hD hS hA 0 rfl rfl rfl hl.1 rfl (Nat.le_of_ble_eq_true rfl) dL_makes_8 ⟨Nat.zero_le _, Nat.zero_le _⟩ (fun H locs hP hD hS => ?_)
  refine W.eq (g2 := F0 m 11 ls [.int v]) rfl ?_
  exact g_retB (u1 := u') hx hb hret rfl hlk hQ (Nat.le_refl _) (Nat.le_refl _) hP hD hS hS.1 dL_makes_11 rfl rfl
set_option maxHeartbeats 4000000 in
set_option maxRecDepth 100000 in
theorem wr1_makes (l : Launch) (D : va_G) (cI cZ : ClassId) (q : Nat → Nat) {u u' : SX} {rmc : Room} (p0 p1 p2 p3 p4 : Int32) {v : Int32} (hrm : rmc.cells = 0 ∧ rmc.slots = 0 ∧ rmc.frames ≤ 8 ∧ rmc.locals ≤ 200) (hM : gM l yX2_make wsX2_make rmc D (tyXZ cI cZ) (XW cI cZ q) XG [.ref (q 0), .int p0, .int p1, .int p2, .int p3, .int p4] u (some (.int v)) u') : gB l yL_makes wsL_makes rmL1 D (tyXZ cI cZ) (XW cI cZ q) LE XT [.ref (q 0), .int p0, .int p1, .int p2, .int p3, .int p4] u (some (.int v)) u' 1 6 0 := by
  refine g_startBW (cc := cL_makes) (maxL := 7) (ret := some .int) (hh := [(0, 11, 12, 13), (0, 11, 17, 16), (0, 11, 22, 19)]) (by decide) rfl (Nat.le_of_ble_eq_true rfl) ?_
  intro p e s m below meth c A ls Q hx hb hml hret hts hown hlk hE hP hK hD hA hl hQ hS hXT htab
  have hown : s.vm.findClass RL = some m.cls := hown
  have hl : lv_has ls 7 [(0, .ref (q 0)), (1, .int p0), (2, .int p1), (3, .int p2), (4, .int p3), (5, .int p4)] := hl
  refine lv_aload_n hx hb dL_makes_0 rfl (lv_at hl 0 rfl) ?_
  refine lv_iload_n hx hb dL_makes_1 rfl (lv_at hl 1 rfl) ?_
  refine lv_iload_n hx hb dL_makes_2 rfl (lv_at hl 2 rfl) ?_
  refine lv_iload_n hx hb dL_makes_3 rfl (lv_at hl 3 rfl) ?_
  refine lv_iload hx hb dL_makes_4 (lv_at hl 4 rfl) ?_
  refine lv_iload hx hb dL_makes_6 (lv_at hl 5 rfl) ?_
  refine g_callV (As := [.int p0, .int p1, .int p2, .int p3, .int p4]) (rest := []) hx hb hml hown hts hM gL_makes_X2_make rfl hrm.1 hrm.2.1 hdX2_make ⟨Nat.le_trans (Nat.succ_le_succ hrm.2.2.1) (Nat.le_of_ble_eq_true rfl), Nat.le_trans (Nat.add_le_add_left hrm.2.2.2 _) (Nat.le_of_ble_eq_true rfl)⟩ XG_em hE.1.1 hP hK hD hS hA 0 rfl rfl rfl hl.1 rfl (Nat.le_of_ble_eq_true rfl) dL_makes_8 ⟨Nat.zero_le _, Nat.zero_le _⟩ (fun H locs hP hD hS => ?_)
  refine W.eq (g2 := F0 m 11 ls [.int v]) rfl ?_
  exact g_retB (u1 := u') hx hb hret rfl hlk hQ (Nat.zero_le _) (Nat.zero_le _) hP hD hS hS.1 dL_makes_11 rfl rfl
set_option maxHeartbeats 4000000 in
set_option maxRecDepth 100000 in
theorem wr_makes_IOO (l : Launch) (D : va_G) (cI cZ : ClassId) (q : Nat → Nat) {u : SX} {rmc : Room} (p0 p1 p2 p3 p4 : Int32) (hrm : rmc.cells = 1 ∧ rmc.slots = 6 ∧ rmc.frames ≤ 8 ∧ rmc.locals ≤ 200) (hM : gX l yX2_make wsX2_make rmc D (tyXZ cI cZ) (XW cI cZ q) XE XT [.ref (q 0), .int p0, .int p1, .int p2, .int p3, .int p4] u "java/lang/IndexOutOfBoundsException") : gB l yL_makes wsL_makes rmL1 D (tyXZ cI cZ) (XW cI cZ q) LE XT [.ref (q 0), .int p0, .int p1, .int p2, .int p3, .int p4] u (some (.int (-2000000001))) u 1 6 1 := by
  refine g_startBW (cc := cL_makes) (maxL := 7) (ret := some .int) (hh := [(0, 11, 12, 13), (0, 11, 17, 16), (0, 11, 22, 19)]) (by decide) rfl (Nat.le_of_ble_eq_true rfl) ?_
  intro p e s m below meth c A ls Q hx hb hml hret hts hown hlk hE hP hK hD hA hl hQ hS hXT htab
  have hown : s.vm.findClass RL = some m.cls := hown
  have hl : lv_has ls 7 [(0, .ref (q 0)), (1, .int p0), (2, .int p1), (3, .int p2), (4, .int p3), (5, .int p4)] := hl
  refine lv_aload_n hx hb dL_makes_0 rfl (lv_at hl 0 rfl) ?_
  refine lv_iload_n hx hb dL_makes_1 rfl (lv_at hl 1 rfl) ?_
  refine lv_iload_n hx hb dL_makes_2 rfl (lv_at hl 2 rfl) ?_
  refine lv_iload_n hx hb dL_makes_3 rfl (lv_at hl 3 rfl) ?_
  refine lv_iload hx hb dL_makes_4 (lv_at hl 4 rfl) ?_
  refine lv_iload hx hb dL_makes_6 (lv_at hl 5 rfl) ?_
  refine g_xVW (As := [.int p0, .int p1, .int p2, .int p3, .int p4]) (rest := []) hx hb hml hown hts hM gL_makes_X2_make rfl hrm.1 hrm.2.1 hdX2_make ⟨Nat.le_trans (Nat.succ_le_succ hrm.2.2.1) (Nat.le_of_ble_eq_true rfl), Nat.le_trans (Nat.add_le_add_left hrm.2.2.2 _) (Nat.le_of_ble_eq_true rfl)⟩ XE_em hE.1 XT_tm hXT hP hK hD hS hA 0 rfl rfl rfl hl.1 rfl (Nat.le_of_ble_eq_true rfl) dL_makes_8 ⟨Nat.le_of_ble_eq_true rfl, Nat.le_of_ble_eq_true rfl⟩ (fun ce q9 H locs hP hD hS1 hz hce hcv hcl => ?_)
  refine vx_catch (own := RL) (name := "java/lang/IndexOutOfBoundsException") hown [] (⟨0, 11, 12, 13⟩ : ExceptionTableEntry) [(⟨0, 11, 17, 16⟩ : ExceptionTableEntry), (⟨0, 11, 22, 19⟩ : ExceptionTableEntry)] htab (fun z hz => by cases hz) (by decide) (by decide) (hts _ (List.mem_of_getElem? (i := 1) (by decide +kernel))) (va_Nw.use rfl (hE.1.1.1 _ (List.mem_of_getElem? (i := 9) rfl))) hce hcv hcl ?_
  refine lv_astore (lv' := [(6, .ref q9), (0, .ref (q 0)), (1, .int p0), (2, .int p1), (3, .int p2), (4, .int p3), (5, .int p4)]) hx hb dL_makes_12 hl (by decide) rfl (fun ls hl => ?_)
  refine lv_ldc (v := (-2000000001)) hx hb hown (hts _ (List.mem_of_getElem? (i := 4) (by decide +kernel))) dL_makes_14 ?_
  exact g_retB (u1 := u) hx hb hret rfl hlk hQ (Nat.le_refl _) (Nat.le_refl _) hP hD hS1 (Nat.le_trans (Nat.succ_le_succ hS.1) hz) dL_makes_16 rfl rfl
set_option maxHeartbeats 4000000 in
set_option maxRecDepth 100000 in
theorem wr_makes_IAE (l : Launch) (D : va_G) (cI cZ : ClassId) (q : Nat → Nat) {u : SX} {rmc : Room} (p0 p1 p2 p3 p4 : Int32) (hrm : rmc.cells = 1 ∧ rmc.slots = 6 ∧ rmc.frames ≤ 8 ∧ rmc.locals ≤ 200) (hM : gX l yX2_make wsX2_make rmc D (tyXZ cI cZ) (XW cI cZ q) XE XT [.ref (q 0), .int p0, .int p1, .int p2, .int p3, .int p4] u "java/lang/IllegalArgumentException") : gB l yL_makes wsL_makes rmL1 D (tyXZ cI cZ) (XW cI cZ q) LE XT [.ref (q 0), .int p0, .int p1, .int p2, .int p3, .int p4] u (some (.int (-2000000002))) u 1 6 1 := by
  refine g_startBW (cc := cL_makes) (maxL := 7) (ret := some .int) (hh := [(0, 11, 12, 13), (0, 11, 17, 16), (0, 11, 22, 19)]) (by decide) rfl (Nat.le_of_ble_eq_true rfl) ?_
  intro p e s m below meth c A ls Q hx hb hml hret hts hown hlk hE hP hK hD hA hl hQ hS hXT htab
  have hown : s.vm.findClass RL = some m.cls := hown
  have hl : lv_has ls 7 [(0, .ref (q 0)), (1, .int p0), (2, .int p1), (3, .int p2), (4, .int p3), (5, .int p4)] := hl
  refine lv_aload_n hx hb dL_makes_0 rfl (lv_at hl 0 rfl) ?_
  refine lv_iload_n hx hb dL_makes_1 rfl (lv_at hl 1 rfl) ?_
  refine lv_iload_n hx hb dL_makes_2 rfl (lv_at hl 2 rfl) ?_
  refine lv_iload_n hx hb dL_makes_3 rfl (lv_at hl 3 rfl) ?_
  refine lv_iload hx hb dL_makes_4 (lv_at hl 4 rfl) ?_
  refine lv_iload hx hb dL_makes_6 (lv_at hl 5 rfl) ?_
  refine g_xVW (As := [.int p0, .int p1, .int p2, .int p3, .int p4]) (rest := []) hx hb hml hown hts hM gL_makes_X2_make rfl hrm.1 hrm.2.1 hdX2_make ⟨Nat.le_trans (Nat.succ_le_succ hrm.2.2.1) (Nat.le_of_ble_eq_true rfl), Nat.le_trans (Nat.add_le_add_left hrm.2.2.2 _) (Nat.le_of_ble_eq_true rfl)⟩ XE_em hE.1 XT_tm hXT hP hK hD hS hA 0 rfl rfl rfl hl.1 rfl (Nat.le_of_ble_eq_true rfl) dL_makes_8 ⟨Nat.le_of_ble_eq_true rfl, Nat.le_of_ble_eq_true rfl⟩ (fun ce q9 H locs hP hD hS1 hz hce hcv hcl => ?_)
  refine vx_catch (own := RL) (name := "java/lang/IllegalArgumentException") hown [(⟨0, 11, 12, 13⟩ : ExceptionTableEntry)] (⟨0, 11, 17, 16⟩ : ExceptionTableEntry) [(⟨0, 11, 22, 19⟩ : ExceptionTableEntry)] htab (List.forall_mem_cons.mpr ⟨Or.inr ⟨by decide, "java/lang/IndexOutOfBoundsException", hts _ (List.mem_of_getElem? (i := 1) (by decide +kernel)), hE.2.1⟩, fun z hz => by cases hz⟩) (by decide) (by decide) (hts _ (List.mem_of_getElem? (i := 2) (by decide +kernel))) (va_Nw.use rfl (hE.1.1.1 _ (List.mem_of_getElem? (i := 10) rfl))) hce hcv hcl ?_
  refine lv_astore (lv' := [(6, .ref q9), (0, .ref (q 0)), (1, .int p0), (2, .int p1), (3, .int p2), (4, .int p3), (5, .int p4)]) hx hb dL_makes_17 hl (by decide) rfl (fun ls hl => ?_)
  refine lv_ldc (v := (-2000000002)) hx hb hown (hts _ (List.mem_of_getElem? (i := 5) (by decide +kernel))) dL_makes_19 ?_
  exact g_retB (u1 := u) hx hb hret rfl hlk hQ (Nat.le_refl _) (Nat.le_refl _) hP hD hS1 (Nat.le_trans (Nat.succ_le_succ hS.1) hz) dL_makes_21 rfl rfl
set_option maxHeartbeats 4000000 in
set_option maxRecDepth 100000 in
theorem wr_makes_ISE (l : Launch) (D : va_G) (cI cZ : ClassId) (q : Nat → Nat) {u : SX} {rmc : Room} (p0 p1 p2 p3 p4 : Int32) (hrm : rmc.cells = 1 ∧ rmc.slots = 6 ∧ rmc.frames ≤ 8 ∧ rmc.locals ≤ 200) (hM : gX l yX2_make wsX2_make rmc D (tyXZ cI cZ) (XW cI cZ q) XE XT [.ref (q 0), .int p0, .int p1, .int p2, .int p3, .int p4] u "java/lang/IllegalStateException") : gB l yL_makes wsL_makes rmL1 D (tyXZ cI cZ) (XW cI cZ q) LE XT [.ref (q 0), .int p0, .int p1, .int p2, .int p3, .int p4] u (some (.int (-2000000003))) u 1 6 1 := by
  refine g_startBW (cc := cL_makes) (maxL := 7) (ret := some .int) (hh := [(0, 11, 12, 13), (0, 11, 17, 16), (0, 11, 22, 19)]) (by decide) rfl (Nat.le_of_ble_eq_true rfl) ?_
  intro p e s m below meth c A ls Q hx hb hml hret hts hown hlk hE hP hK hD hA hl hQ hS hXT htab
  have hown : s.vm.findClass RL = some m.cls := hown
  have hl : lv_has ls 7 [(0, .ref (q 0)), (1, .int p0), (2, .int p1), (3, .int p2), (4, .int p3), (5, .int p4)] := hl
  refine lv_aload_n hx hb dL_makes_0 rfl (lv_at hl 0 rfl) ?_
  refine lv_iload_n hx hb dL_makes_1 rfl (lv_at hl 1 rfl) ?_
  refine lv_iload_n hx hb dL_makes_2 rfl (lv_at hl 2 rfl) ?_
  refine lv_iload_n hx hb dL_makes_3 rfl (lv_at hl 3 rfl) ?_
  refine lv_iload hx hb dL_makes_4 (lv_at hl 4 rfl) ?_
  refine lv_iload hx hb dL_makes_6 (lv_at hl 5 rfl) ?_
  refine g_xVW (As := [.int p0, .int p1, .int p2, .int p3, .int p4]) (rest := []) hx hb hml hown hts hM gL_makes_X2_make rfl hrm.1 hrm.2.1 hdX2_make ⟨Nat.le_trans (Nat.succ_le_succ hrm.2.2.1) (Nat.le_of_ble_eq_true rfl), Nat.le_trans (Nat.add_le_add_left hrm.2.2.2 _) (Nat.le_of_ble_eq_true rfl)⟩ XE_em hE.1 XT_tm hXT hP hK hD hS hA 0 rfl rfl rfl hl.1 rfl (Nat.le_of_ble_eq_true rfl) dL_makes_8 ⟨Nat.le_of_ble_eq_true rfl, Nat.le_of_ble_eq_true rfl⟩ (fun ce q9 H locs hP hD hS1 hz hce hcv hcl => ?_)
  refine vx_catch (own := RL) (name := "java/lang/IllegalStateException") hown [(⟨0, 11, 12, 13⟩ : ExceptionTableEntry), (⟨0, 11, 17, 16⟩ : ExceptionTableEntry)] (⟨0, 11, 22, 19⟩ : ExceptionTableEntry) [] htab (List.forall_mem_cons.mpr ⟨Or.inr ⟨by decide, "java/lang/IndexOutOfBoundsException", hts _ (List.mem_of_getElem? (i := 1) (by decide +kernel)), hE.2.2.1⟩, (List.forall_mem_cons.mpr ⟨Or.inr ⟨by decide, "java/lang/IllegalArgumentException", hts _ (List.mem_of_getElem? (i := 2) (by decide +kernel)), hE.2.2.2⟩, fun z hz => by cases hz⟩)⟩) (by decide) (by decide) (hts _ (List.mem_of_getElem? (i := 3) (by decide +kernel))) (va_Nw.use rfl (hE.1.1.1 _ (List.mem_of_getElem? (i := 11) rfl))) hce hcv hcl ?_
  refine lv_astore (lv' := [(6, .ref q9), (0, .ref (q 0)), (1, .int p0), (2, .int p1), (3, .int p2), (4, .int p3), (5, .int p4)]) hx hb dL_makes_22 hl (by decide) rfl (fun ls hl => ?_)
  refine lv_ldc (v := (-2000000003)) hx hb hown (hts _ (List.mem_of_getElem? (i := 6) (by decide +kernel))) dL_makes_24 ?_
  exact g_retB (u1 := u) hx hb hret rfl hlk hQ (Nat.le_refl _) (Nat.le_refl _) hP hD hS1 (Nat.le_trans (Nat.succ_le_succ hS.1) hz) dL_makes_26 rfl rfl
theorem hdL_sets : yL_sets.cls ≠ "java/lang/invoke/MethodHandle" ∧ yL_sets.cls ≠ "java/lang/invoke/VarHandle" ∧ (parseMethodDescriptor yL_sets.desc).map (fun d => d.parameters.length) = some 4 := by decide +kernel
set_option maxHeartbeats 4000000 in
set_option maxRecDepth 100000 in
theorem wr_sets (l : Launch) (D : va_G) (cI cZ : ClassId) (q : Nat → Nat) {u u' : SX} {rmc : Room} (p0 p1 p2 : Int32) {v : Int32} (hrm : rmc.cells = 0 ∧ rmc.slots = 0 ∧ rmc.frames ≤ 8 ∧ rmc.locals ≤ 200) (hM : gM l yX2_setRef wsX2_setRef rmc D (tyXZ cI cZ) (XW cI cZ q) XG [.ref (q 0), .int p0, .int p1, .int p2] u (some (.int v)) u') : gB l yL_sets wsL_sets rmL0 D (tyXZ cI cZ) (XW cI cZ q) LE XT [.ref (q 0), .int p0, .int p1, .int p2] u (some (.int v)) u' 0 0 0 := by
  refine g_startBW (cc := cL_sets) (maxL := 5) (ret := some .int) (hh := [(0, 7, 8, 13)]) (by decide) rfl (Nat.le_of_ble_eq_true rfl) ?_
  intro p e s m below meth c A ls Q hx hb hml hret hts hown hlk hE hP hK hD hA hl hQ hS hXT htab
  have hown : s.vm.findClass RL = some m.cls := hown
  have hl : lv_has ls 5 [(0, .ref (q 0)), (1, .int p0), (2, .int p1), (3, .int p2)] := hl
  refine lv_aload_n hx hb dL_sets_0 rfl (lv_at hl 0 rfl) ?_
  refine lv_iload_n hx hb dL_sets_1 rfl (lv_at hl 1 rfl) ?_
  refine lv_iload_n hx hb dL_sets_2 rfl (lv_at hl 2 rfl) ?_
  refine lv_iload_n hx hb dL_sets_3 rfl (lv_at hl 3 rfl) ?_
  refine g_callV (As := [.int p0, .int p1, .int p2]) (rest := []) hx hb hml hown hts hM gL_sets_X2_setRef rfl hrm.1 hrm.2.1 hdX2_setRef ⟨Nat.le_trans (Nat.succ_le_succ hrm.2.2.1) (Nat.le_of_ble_eq_true rfl), Nat.le_trans (Nat.add_le_add_left hrm.2.2.2 _) (Nat.le_of_ble_eq_true rfl)⟩ XG_em hE.1.1 hP hK hD hS hA 0 rfl rfl rfl hl.1 rfl (Nat.le_of_ble_eq_true rfl) dL_sets_4 ⟨Nat.zero_le _, Nat.zero_le _⟩ (fun H locs hP hD hS => ?_)
  refine W.eq (g2 := F0 m 7 ls [.int v]) rfl ?_
  exact g_retB (u1 := u') hx hb hret rfl hlk hQ (Nat.le_refl _) (Nat.le_refl _) hP hD hS hS.1 dL_sets_7 rfl rfl
set_option maxHeartbeats 4000000 in
set_option maxRecDepth 100000 in
theorem wr_sets_IOO (l : Launch) (D : va_G) (cI cZ : ClassId) (q : Nat → Nat) {u : SX} {rmc : Room} (p0 p1 p2 : Int32) (hrm : rmc.cells = 1 ∧ rmc.slots = 6 ∧ rmc.frames ≤ 8 ∧ rmc.locals ≤ 200) (hM : gX l yX2_setRef wsX2_setRef rmc D (tyXZ cI cZ) (XW cI cZ q) XE XT [.ref (q 0), .int p0, .int p1, .int p2] u "java/lang/IndexOutOfBoundsException") : gB l yL_sets wsL_sets rmL1 D (tyXZ cI cZ) (XW cI cZ q) LE XT [.ref (q 0), .int p0, .int p1, .int p2] u (some (.int (-2000000001))) u 1 6 1 := by
  refine g_startBW (cc := cL_sets) (maxL := 5) (ret := some .int) (hh := [(0, 7, 8, 13)]) (by decide) rfl (Nat.le_of_ble_eq_true rfl) ?_
  intro p e s m below meth c A ls Q hx hb hml hret hts hown hlk hE hP hK hD hA hl hQ hS hXT htab
  have hown : s.vm.findClass RL = some m.cls := hown
  have hl : lv_has ls 5 [(0, .ref (q 0)), (1, .int p0), (2, .int p1), (3, .int p2)] := hl
  refine lv_aload_n hx hb dL_sets_0 rfl (lv_at hl 0 rfl) ?_
  refine lv_iload_n hx hb dL_sets_1 rfl (lv_at hl 1 rfl) ?_
  refine lv_iload_n hx hb dL_sets_2 rfl (lv_at hl 2 rfl) ?_
  refine lv_iload_n hx hb dL_sets_3 rfl (lv_at hl 3 rfl) ?_
  refine g_xVW (As := [.int p0, .int p1, .int p2]) (rest := []) hx hb hml hown hts hM gL_sets_X2_setRef rfl hrm.1 hrm.2.1 hdX2_setRef ⟨Nat.le_trans (Nat.succ_le_succ hrm.2.2.1) (Nat.le_of_ble_eq_true rfl), Nat.le_trans (Nat.add_le_add_left hrm.2.2.2 _) (Nat.le_of_ble_eq_true rfl)⟩ XE_em hE.1 XT_tm hXT hP hK hD hS hA 0 rfl rfl rfl hl.1 rfl (Nat.le_of_ble_eq_true rfl) dL_sets_4 ⟨Nat.le_of_ble_eq_true rfl, Nat.le_of_ble_eq_true rfl⟩ (fun ce q9 H locs hP hD hS1 hz hce hcv hcl => ?_)
  refine vx_catch (own := RL) (name := "java/lang/IndexOutOfBoundsException") hown [] (⟨0, 7, 8, 13⟩ : ExceptionTableEntry) [] htab (fun z hz => by cases hz) (by decide) (by decide) (hts _ (List.mem_of_getElem? (i := 1) (by decide +kernel))) (va_Nw.use rfl (hE.1.1.1 _ (List.mem_of_getElem? (i := 9) rfl))) hce hcv hcl ?_
  refine lv_astore (lv' := [(4, .ref q9), (0, .ref (q 0)), (1, .int p0), (2, .int p1), (3, .int p2)]) hx hb dL_sets_8 hl (by decide) rfl (fun ls hl => ?_)
  refine lv_ldc (v := (-2000000001)) hx hb hown (hts _ (List.mem_of_getElem? (i := 2) (by decide +kernel))) dL_sets_10 ?_
  exact g_retB (u1 := u) hx hb hret rfl hlk hQ (Nat.le_refl _) (Nat.le_refl _) hP hD hS1 (Nat.le_trans (Nat.succ_le_succ hS.1) hz) dL_sets_12 rfl rfl
theorem hdL_ref : yL_ref.cls ≠ "java/lang/invoke/MethodHandle" ∧ yL_ref.cls ≠ "java/lang/invoke/VarHandle" ∧ (parseMethodDescriptor yL_ref.desc).map (fun d => d.parameters.length) = some 3 := by decide +kernel
set_option maxHeartbeats 4000000 in
set_option maxRecDepth 100000 in
theorem wr_ref (l : Launch) (D : va_G) (cI cZ : ClassId) (q : Nat → Nat) {u u' : SX} {rmc : Room} (p0 p1 : Int32) {v : Int32} (hrm : rmc.cells = 0 ∧ rmc.slots = 0 ∧ rmc.frames ≤ 8 ∧ rmc.locals ≤ 200) (hM : gM l yX2_ref wsX2_ref rmc D (tyXZ cI cZ) (XW cI cZ q) XG [.ref (q 0), .int p0, .int p1] u (some (.int v)) u') : gB l yL_ref wsL_ref rmL0 D (tyXZ cI cZ) (XW cI cZ q) LE XT [.ref (q 0), .int p0, .int p1] u (some (.int v)) u' 0 0 0 := by
  refine g_startBW (cc := cL_ref) (maxL := 4) (ret := some .int) (hh := [(0, 6, 7, 13)]) (by decide) rfl (Nat.le_of_ble_eq_true rfl) ?_
  intro p e s m below meth c A ls Q hx hb hml hret hts hown hlk hE hP hK hD hA hl hQ hS hXT htab
  have hown : s.vm.findClass RL = some m.cls := hown
  have hl : lv_has ls 4 [(0, .ref (q 0)), (1, .int p0), (2, .int p1)] := hl
  refine lv_aload_n hx hb dL_ref_0 rfl (lv_at hl 0 rfl) ?_
  refine lv_iload_n hx hb dL_ref_1 rfl (lv_at hl 1 rfl) ?_
  refine lv_iload_n hx hb dL_ref_2 rfl (lv_at hl 2 rfl) ?_
  refine g_callV (As := [.int p0, .int p1]) (rest := []) hx hb hml hown hts hM gL_ref_X2_ref rfl hrm.1 hrm.2.1 hdX2_ref ⟨Nat.le_trans (Nat.succ_le_succ hrm.2.2.1) (Nat.le_of_ble_eq_true rfl), Nat.le_trans (Nat.add_le_add_left hrm.2.2.2 _) (Nat.le_of_ble_eq_true rfl)⟩ XG_em hE.1.1 hP hK hD hS hA 0 rfl rfl rfl hl.1 rfl (Nat.le_of_ble_eq_true rfl) dL_ref_3 ⟨Nat.zero_le _, Nat.zero_le _⟩ (fun H locs hP hD hS => ?_)
  refine W.eq (g2 := F0 m 6 ls [.int v]) rfl ?_
  exact g_retB (u1 := u') hx hb hret rfl hlk hQ (Nat.le_refl _) (Nat.le_refl _) hP hD hS hS.1 dL_ref_6 rfl rfl
set_option maxHeartbeats 4000000 in
set_option maxRecDepth 100000 in
theorem wr_ref_IOO (l : Launch) (D : va_G) (cI cZ : ClassId) (q : Nat → Nat) {u : SX} {rmc : Room} (p0 p1 : Int32) (hrm : rmc.cells = 1 ∧ rmc.slots = 6 ∧ rmc.frames ≤ 8 ∧ rmc.locals ≤ 200) (hM : gX l yX2_ref wsX2_ref rmc D (tyXZ cI cZ) (XW cI cZ q) XE XT [.ref (q 0), .int p0, .int p1] u "java/lang/IndexOutOfBoundsException") : gB l yL_ref wsL_ref rmL1 D (tyXZ cI cZ) (XW cI cZ q) LE XT [.ref (q 0), .int p0, .int p1] u (some (.int (-2000000001))) u 1 6 1 := by
  refine g_startBW (cc := cL_ref) (maxL := 4) (ret := some .int) (hh := [(0, 6, 7, 13)]) (by decide) rfl (Nat.le_of_ble_eq_true rfl) ?_
  intro p e s m below meth c A ls Q hx hb hml hret hts hown hlk hE hP hK hD hA hl hQ hS hXT htab
  have hown : s.vm.findClass RL = some m.cls := hown
  have hl : lv_has ls 4 [(0, .ref (q 0)), (1, .int p0), (2, .int p1)] := hl
  refine lv_aload_n hx hb dL_ref_0 rfl (lv_at hl 0 rfl) ?_
  refine lv_iload_n hx hb dL_ref_1 rfl (lv_at hl 1 rfl) ?_
  refine lv_iload_n hx hb dL_ref_2 rfl (lv_at hl 2 rfl) ?_
  refine g_xVW (As := [.int p0, .int p1]) (rest := []) hx hb hml hown hts hM gL_ref_X2_ref rfl hrm.1 hrm.2.1 hdX2_ref ⟨Nat.le_trans (Nat.succ_le_succ hrm.2.2.1) (Nat.le_of_ble_eq_true rfl), Nat.le_trans (Nat.add_le_add_left hrm.2.2.2 _) (Nat.le_of_ble_eq_true rfl)⟩ XE_em hE.1 XT_tm hXT hP hK hD hS hA 0 rfl rfl rfl hl.1 rfl (Nat.le_of_ble_eq_true rfl) dL_ref_3 ⟨Nat.le_of_ble_eq_true rfl, Nat.le_of_ble_eq_true rfl⟩ (fun ce q9 H locs hP hD hS1 hz hce hcv hcl => ?_)
  refine vx_catch (own := RL) (name := "java/lang/IndexOutOfBoundsException") hown [] (⟨0, 6, 7, 13⟩ : ExceptionTableEntry) [] htab (fun z hz => by cases hz) (by decide) (by decide) (hts _ (List.mem_of_getElem? (i := 1) (by decide +kernel))) (va_Nw.use rfl (hE.1.1.1 _ (List.mem_of_getElem? (i := 9) rfl))) hce hcv hcl ?_
  refine lv_astore_n (lv' := [(3, .ref q9), (0, .ref (q 0)), (1, .int p0), (2, .int p1)]) hx hb dL_ref_7 rfl hl (by decide) rfl (fun ls hl => ?_)
  refine lv_ldc (v := (-2000000001)) hx hb hown (hts _ (List.mem_of_getElem? (i := 2) (by decide +kernel))) dL_ref_8 ?_
  exact g_retB (u1 := u) hx hb hret rfl hlk hQ (Nat.le_refl _) (Nat.le_refl _) hP hD hS1 (Nat.le_trans (Nat.succ_le_succ hS.1) hz) dL_ref_10 rfl rfl
theorem hdL_file : yL_file.cls ≠ "java/lang/invoke/MethodHandle" ∧ yL_file.cls ≠ "java/lang/invoke/VarHandle" ∧ (parseMethodDescriptor yL_file.desc).map (fun d => d.parameters.length) = some 3 := by decide +kernel
set_option maxHeartbeats 4000000 in
set_option maxRecDepth 100000 in
theorem wr_file (l : Launch) (D : va_G) (cI cZ : ClassId) (q : Nat → Nat) {u u' : SX} {rmc : Room} (p0 p1 : Int32) {v : Int32} (hrm : rmc.cells = 0 ∧ rmc.slots = 0 ∧ rmc.frames ≤ 8 ∧ rmc.locals ≤ 200) (hM : gM l yX2_fileAt wsX2_fileAt rmc D (tyXZ cI cZ) (XW cI cZ q) XG [.ref (q 0), .int p0, .int p1] u (some (.int v)) u') : gB l yL_file wsL_file rmL0 D (tyXZ cI cZ) (XW cI cZ q) LE XT [.ref (q 0), .int p0, .int p1] u (some (.int v)) u' 0 0 0 := by
  refine g_startBW (cc := cL_file) (maxL := 4) (ret := some .int) (hh := [(0, 6, 7, 13)]) (by decide) rfl (Nat.le_of_ble_eq_true rfl) ?_
  intro p e s m below meth c A ls Q hx hb hml hret hts hown hlk hE hP hK hD hA hl hQ hS hXT htab
  have hown : s.vm.findClass RL = some m.cls := hown
  have hl : lv_has ls 4 [(0, .ref (q 0)), (1, .int p0), (2, .int p1)] := hl
  refine lv_aload_n hx hb dL_file_0 rfl (lv_at hl 0 rfl) ?_
  refine lv_iload_n hx hb dL_file_1 rfl (lv_at hl 1 rfl) ?_
  refine lv_iload_n hx hb dL_file_2 rfl (lv_at hl 2 rfl) ?_
  refine g_callV (As := [.int p0, .int p1]) (rest := []) hx hb hml hown hts hM gL_file_X2_fileAt rfl hrm.1 hrm.2.1 hdX2_fileAt ⟨Nat.le_trans (Nat.succ_le_succ hrm.2.2.1) (Nat.le_of_ble_eq_true rfl), Nat.le_trans (Nat.add_le_add_left hrm.2.2.2 _) (Nat.le_of_ble_eq_true rfl)⟩ XG_em hE.1.1 hP hK hD hS hA 0 rfl rfl rfl hl.1 rfl (Nat.le_of_ble_eq_true rfl) dL_file_3 ⟨Nat.zero_le _, Nat.zero_le _⟩ (fun H locs hP hD hS => ?_)
  refine W.eq (g2 := F0 m 6 ls [.int v]) rfl ?_
  exact g_retB (u1 := u') hx hb hret rfl hlk hQ (Nat.le_refl _) (Nat.le_refl _) hP hD hS hS.1 dL_file_6 rfl rfl
set_option maxHeartbeats 4000000 in
set_option maxRecDepth 100000 in
theorem wr_file_IOO (l : Launch) (D : va_G) (cI cZ : ClassId) (q : Nat → Nat) {u : SX} {rmc : Room} (p0 p1 : Int32) (hrm : rmc.cells = 1 ∧ rmc.slots = 6 ∧ rmc.frames ≤ 8 ∧ rmc.locals ≤ 200) (hM : gX l yX2_fileAt wsX2_fileAt rmc D (tyXZ cI cZ) (XW cI cZ q) XE XT [.ref (q 0), .int p0, .int p1] u "java/lang/IndexOutOfBoundsException") : gB l yL_file wsL_file rmL1 D (tyXZ cI cZ) (XW cI cZ q) LE XT [.ref (q 0), .int p0, .int p1] u (some (.int (-2000000001))) u 1 6 1 := by
  refine g_startBW (cc := cL_file) (maxL := 4) (ret := some .int) (hh := [(0, 6, 7, 13)]) (by decide) rfl (Nat.le_of_ble_eq_true rfl) ?_
  intro p e s m below meth c A ls Q hx hb hml hret hts hown hlk hE hP hK hD hA hl hQ hS hXT htab
  have hown : s.vm.findClass RL = some m.cls := hown
  have hl : lv_has ls 4 [(0, .ref (q 0)), (1, .int p0), (2, .int p1)] := hl
  refine lv_aload_n hx hb dL_file_0 rfl (lv_at hl 0 rfl) ?_
  refine lv_iload_n hx hb dL_file_1 rfl (lv_at hl 1 rfl) ?_
  refine lv_iload_n hx hb dL_file_2 rfl (lv_at hl 2 rfl) ?_
  refine g_xVW (As := [.int p0, .int p1]) (rest := []) hx hb hml hown hts hM gL_file_X2_fileAt rfl hrm.1 hrm.2.1 hdX2_fileAt ⟨Nat.le_trans (Nat.succ_le_succ hrm.2.2.1) (Nat.le_of_ble_eq_true rfl), Nat.le_trans (Nat.add_le_add_left hrm.2.2.2 _) (Nat.le_of_ble_eq_true rfl)⟩ XE_em hE.1 XT_tm hXT hP hK hD hS hA 0 rfl rfl rfl hl.1 rfl (Nat.le_of_ble_eq_true rfl) dL_file_3 ⟨Nat.le_of_ble_eq_true rfl, Nat.le_of_ble_eq_true rfl⟩ (fun ce q9 H locs hP hD hS1 hz hce hcv hcl => ?_)
  refine vx_catch (own := RL) (name := "java/lang/IndexOutOfBoundsException") hown [] (⟨0, 6, 7, 13⟩ : ExceptionTableEntry) [] htab (fun z hz => by cases hz) (by decide) (by decide) (hts _ (List.mem_of_getElem? (i := 1) (by decide +kernel))) (va_Nw.use rfl (hE.1.1.1 _ (List.mem_of_getElem? (i := 9) rfl))) hce hcv hcl ?_
  refine lv_astore_n (lv' := [(3, .ref q9), (0, .ref (q 0)), (1, .int p0), (2, .int p1)]) hx hb dL_file_7 rfl hl (by decide) rfl (fun ls hl => ?_)
  refine lv_ldc (v := (-2000000001)) hx hb hown (hts _ (List.mem_of_getElem? (i := 2) (by decide +kernel))) dL_file_8 ?_
  exact g_retB (u1 := u) hx hb hret rfl hlk hQ (Nat.le_refl _) (Nat.le_refl _) hP hD hS1 (Nat.le_trans (Nat.succ_le_succ hS.1) hz) dL_file_10 rfl rfl
theorem hdL_fetches : yL_fetches.cls ≠ "java/lang/invoke/MethodHandle" ∧ yL_fetches.cls ≠ "java/lang/invoke/VarHandle" ∧ (parseMethodDescriptor yL_fetches.desc).map (fun d => d.parameters.length) = some 4 := by decide +kernel
set_option maxHeartbeats 4000000 in
set_option maxRecDepth 100000 in
theorem wr_fetches (l : Launch) (D : va_G) (cI cZ : ClassId) (q : Nat → Nat) {u u' : SX} {rmc : Room} (p0 p1 p2 : Int32) {v : Int32} (hrm : rmc.cells = 0 ∧ rmc.slots = 0 ∧ rmc.frames ≤ 8 ∧ rmc.locals ≤ 200) (hM : gM l yX2_fetch wsX2_fetch rmc D (tyXZ cI cZ) (XW cI cZ q) XG [.ref (q 0), .int p0, .int p1, .int p2] u (some (.int v)) u') : gB l yL_fetches wsL_fetches rmL0 D (tyXZ cI cZ) (XW cI cZ q) LE XT [.ref (q 0), .int p0, .int p1, .int p2] u (some (.int v)) u' 0 0 0 := by
  refine g_startBW (cc := cL_fetches) (maxL := 5) (ret := some .int) (hh := [(0, 7, 8, 13), (0, 7, 13, 16), (0, 7, 18, 19)]) (by decide) rfl (Nat.le_of_ble_eq_true rfl) ?_
  intro p e s m below meth c A ls Q hx hb hml hret hts hown hlk hE hP hK hD hA hl hQ hS hXT htab
  have hown : s.vm.findClass RL = some m.cls := hown
  have hl : lv_has ls 5 [(0, .ref (q 0)), (1, .int p0), (2, .int p1), (3, .int p2)] := hl
  refine lv_aload_n hx hb dL_fetches_0 rfl (lv_at hl 0 rfl) ?_
  refine lv_iload_n hx hb dL_fetches_1 rfl (lv_at hl 1 rfl) ?_
  refine lv_iload_n hx hb dL_fetches_2 rfl (lv_at hl 2 rfl) ?_
  refine lv_iload_n hx hb dL_fetches_3 rfl (lv_at hl 3 rfl) ?_
  refine g_callV (As := [.int p0, .int p1, .int p2]) (rest := []) hx hb hml hown hts hM gL_fetches_X2_fetch rfl hrm.1 hrm.2.1 hdX2_fetch ⟨Nat.le_trans (Nat.succ_le_succ hrm.2.2.1) (Nat.le_of_ble_eq_true rfl), Nat.le_trans (Nat.add_le_add_left hrm.2.2.2 _) (Nat.le_of_ble_eq_true rfl)⟩ XG_em hE.1.1 hP hK hD hS hA 0 rfl rfl rfl hl.1 rfl (Nat.le_of_ble_eq_true rfl) dL_fetches_4 ⟨Nat.zero_le _, Nat.zero_le _⟩ (fun H locs hP hD hS => ?_)
  refine W.eq (g2 := F0 m 7 ls [.int v]) rfl ?_
  exact g_retB (u1 := u') hx hb hret rfl hlk hQ (Nat.le_refl _) (Nat.le_refl _) hP hD hS hS.1 dL_fetches_7 rfl rfl
set_option maxHeartbeats 4000000 in
set_option maxRecDepth 100000 in
theorem wr_fetches_IOO (l : Launch) (D : va_G) (cI cZ : ClassId) (q : Nat → Nat) {u : SX} {rmc : Room} (p0 p1 p2 : Int32) (hrm : rmc.cells = 1 ∧ rmc.slots = 6 ∧ rmc.frames ≤ 8 ∧ rmc.locals ≤ 200) (hM : gX l yX2_fetch wsX2_fetch rmc D (tyXZ cI cZ) (XW cI cZ q) XE XT [.ref (q 0), .int p0, .int p1, .int p2] u "java/lang/IndexOutOfBoundsException") : gB l yL_fetches wsL_fetches rmL1 D (tyXZ cI cZ) (XW cI cZ q) LE XT [.ref (q 0), .int p0, .int p1, .int p2] u (some (.int (-2000000001))) u 1 6 1 := by
  refine g_startBW (cc := cL_fetches) (maxL := 5) (ret := some .int) (hh := [(0, 7, 8, 13), (0, 7, 13, 16), (0, 7, 18, 19)]) (by decide) rfl (Nat.le_of_ble_eq_true rfl) ?_
  intro p e s m below meth c A ls Q hx hb hml hret hts hown hlk hE hP hK hD hA hl hQ hS hXT htab
  have hown : s.vm.findClass RL = some m.cls := hown
  have hl : lv_has ls 5 [(0, .ref (q 0)), (1, .int p0), (2, .int p1), (3, .int p2)] := hl
  refine lv_aload_n hx hb dL_fetches_0 rfl (lv_at hl 0 rfl) ?_
  refine lv_iload_n hx hb dL_fetches_1 rfl (lv_at hl 1 rfl) ?_
  refine lv_iload_n hx hb dL_fetches_2 rfl (lv_at hl 2 rfl) ?_
  refine lv_iload_n hx hb dL_fetches_3 rfl (lv_at hl 3 rfl) ?_
  refine g_xVW (As := [.int p0, .int p1, .int p2]) (rest := []) hx hb hml hown hts hM gL_fetches_X2_fetch rfl hrm.1 hrm.2.1 hdX2_fetch ⟨Nat.le_trans (Nat.succ_le_succ hrm.2.2.1) (Nat.le_of_ble_eq_true rfl), Nat.le_trans (Nat.add_le_add_left hrm.2.2.2 _) (Nat.le_of_ble_eq_true rfl)⟩ XE_em hE.1 XT_tm hXT hP hK hD hS hA 0 rfl rfl rfl hl.1 rfl (Nat.le_of_ble_eq_true rfl) dL_fetches_4 ⟨Nat.le_of_ble_eq_true rfl, Nat.le_of_ble_eq_true rfl⟩ (fun ce q9 H locs hP hD hS1 hz hce hcv hcl => ?_)
  refine vx_catch (own := RL) (name := "java/lang/IndexOutOfBoundsException") hown [] (⟨0, 7, 8, 13⟩ : ExceptionTableEntry) [(⟨0, 7, 13, 16⟩ : ExceptionTableEntry), (⟨0, 7, 18, 19⟩ : ExceptionTableEntry)] htab (fun z hz => by cases hz) (by decide) (by decide) (hts _ (List.mem_of_getElem? (i := 1) (by decide +kernel))) (va_Nw.use rfl (hE.1.1.1 _ (List.mem_of_getElem? (i := 9) rfl))) hce hcv hcl ?_
  refine lv_astore (lv' := [(4, .ref q9), (0, .ref (q 0)), (1, .int p0), (2, .int p1), (3, .int p2)]) hx hb dL_fetches_8 hl (by decide) rfl (fun ls hl => ?_)
  refine lv_ldc (v := (-2000000001)) hx hb hown (hts _ (List.mem_of_getElem? (i := 4) (by decide +kernel))) dL_fetches_10 ?_
  exact g_retB (u1 := u) hx hb hret rfl hlk hQ (Nat.le_refl _) (Nat.le_refl _) hP hD hS1 (Nat.le_trans (Nat.succ_le_succ hS.1) hz) dL_fetches_12 rfl rfl
set_option maxHeartbeats 4000000 in
set_option maxRecDepth 100000 in
theorem wr_fetches_IAE (l : Launch) (D : va_G) (cI cZ : ClassId) (q : Nat → Nat) {u : SX} {rmc : Room} (p0 p1 p2 : Int32) (hrm : rmc.cells = 1 ∧ rmc.slots = 6 ∧ rmc.frames ≤ 8 ∧ rmc.locals ≤ 200) (hM : gX l yX2_fetch wsX2_fetch rmc D (tyXZ cI cZ) (XW cI cZ q) XE XT [.ref (q 0), .int p0, .int p1, .int p2] u "java/lang/IllegalArgumentException") : gB l yL_fetches wsL_fetches rmL1 D (tyXZ cI cZ) (XW cI cZ q) LE XT [.ref (q 0), .int p0, .int p1, .int p2] u (some (.int (-2000000002))) u 1 6 1 := by
  refine g_startBW (cc := cL_fetches) (maxL := 5) (ret := some .int) (hh := [(0, 7, 8, 13), (0, 7, 13, 16), (0, 7, 18, 19)]) (by decide) rfl (Nat.le_of_ble_eq_true rfl) ?_
  intro p e s m below meth c A ls Q hx hb hml hret hts hown hlk hE hP hK hD hA hl hQ hS hXT htab
  have hown : s.vm.findClass RL = some m.cls := hown
  have hl : lv_has ls 5 [(0, .ref (q 0)), (1, .int p0), (2, .int p1), (3, .int p2)] := hl
  refine lv_aload_n hx hb dL_fetches_0 rfl (lv_at hl 0 rfl) ?_
  refine lv_iload_n hx hb dL_fetches_1 rfl (lv_at hl 1 rfl) ?_
  refine lv_iload_n hx hb dL_fetches_2 rfl (lv_at hl 2 rfl) ?_
  refine lv_iload_n hx hb dL_fetches_3 rfl (lv_at hl 3 rfl) ?_
  refine g_xVW (As := [.int p0, .int p1, .int p2]) (rest := []) hx hb hml hown hts hM gL_fetches_X2_fetch rfl hrm.1 hrm.2.1 hdX2_fetch ⟨Nat.le_trans (Nat.succ_le_succ hrm.2.2.1) (Nat.le_of_ble_eq_true rfl), Nat.le_trans (Nat.add_le_add_left hrm.2.2.2 _) (Nat.le_of_ble_eq_true rfl)⟩ XE_em hE.1 XT_tm hXT hP hK hD hS hA 0 rfl rfl rfl hl.1 rfl (Nat.le_of_ble_eq_true rfl) dL_fetches_4 ⟨Nat.le_of_ble_eq_true rfl, Nat.le_of_ble_eq_true rfl⟩ (fun ce q9 H locs hP hD hS1 hz hce hcv hcl => ?_)
  refine vx_catch (own := RL) (name := "java/lang/IllegalArgumentException") hown [(⟨0, 7, 8, 13⟩ : ExceptionTableEntry)] (⟨0, 7, 13, 16⟩ : ExceptionTableEntry) [(⟨0, 7, 18, 19⟩ : ExceptionTableEntry)] htab (List.forall_mem_cons.mpr ⟨Or.inr ⟨by decide, "java/lang/IndexOutOfBoundsException", hts _ (List.mem_of_getElem? (i := 1) (by decide +kernel)), hE.2.1⟩, fun z hz => by cases hz⟩) (by decide) (by decide) (hts _ (List.mem_of_getElem? (i := 2) (by decide +kernel))) (va_Nw.use rfl (hE.1.1.1 _ (List.mem_of_getElem? (i := 10) rfl))) hce hcv hcl ?_
  refine lv_astore (lv' := [(4, .ref q9), (0, .ref (q 0)), (1, .int p0), (2, .int p1), (3, .int p2)]) hx hb dL_fetches_13 hl (by decide) rfl (fun ls hl => ?_)
  refine lv_ldc (v := (-2000000002)) hx hb hown (hts _ (List.mem_of_getElem? (i := 5) (by decide +kernel))) dL_fetches_15 ?_
  exact g_retB (u1 := u) hx hb hret rfl hlk hQ (Nat.le_refl _) (Nat.le_refl _) hP hD hS1 (Nat.le_trans (Nat.succ_le_succ hS.1) hz) dL_fetches_17 rfl rfl
set_option maxHeartbeats 4000000 in
set_option maxRecDepth 100000 in
theorem wr_fetches_ISE (l : Launch) (D : va_G) (cI cZ : ClassId) (q : Nat → Nat) {u : SX} {rmc : Room} (p0 p1 p2 : Int32) (hrm : rmc.cells = 1 ∧ rmc.slots = 6 ∧ rmc.frames ≤ 8 ∧ rmc.locals ≤ 200) (hM : gX l yX2_fetch wsX2_fetch rmc D (tyXZ cI cZ) (XW cI cZ q) XE XT [.ref (q 0), .int p0, .int p1, .int p2] u "java/lang/IllegalStateException") : gB l yL_fetches wsL_fetches rmL1 D (tyXZ cI cZ) (XW cI cZ q) LE XT [.ref (q 0), .int p0, .int p1, .int p2] u (some (.int (-2000000003))) u 1 6 1 := by
  refine g_startBW (cc := cL_fetches) (maxL := 5) (ret := some .int) (hh := [(0, 7, 8, 13), (0, 7, 13, 16), (0, 7, 18, 19)]) (by decide) rfl (Nat.le_of_ble_eq_true rfl) ?_
  intro p e s m below meth c A ls Q hx hb hml hret hts hown hlk hE hP hK hD hA hl hQ hS hXT htab
  have hown : s.vm.findClass RL = some m.cls := hown
  have hl : lv_has ls 5 [(0, .ref (q 0)), (1, .int p0), (2, .int p1), (3, .int p2)] := hl
  refine lv_aload_n hx hb dL_fetches_0 rfl (lv_at hl 0 rfl) ?_
  refine lv_iload_n hx hb dL_fetches_1 rfl (lv_at hl 1 rfl) ?_
  refine lv_iload_n hx hb dL_fetches_2 rfl (lv_at hl 2 rfl) ?_
  refine lv_iload_n hx hb dL_fetches_3 rfl (lv_at hl 3 rfl) ?_
  refine g_xVW (As := [.int p0, .int p1, .int p2]) (rest := []) hx hb hml hown hts hM gL_fetches_X2_fetch rfl hrm.1 hrm.2.1 hdX2_fetch ⟨Nat.le_trans (Nat.succ_le_succ hrm.2.2.1) (Nat.le_of_ble_eq_true rfl), Nat.le_trans (Nat.add_le_add_left hrm.2.2.2 _) (Nat.le_of_ble_eq_true rfl)⟩ XE_em hE.1 XT_tm hXT hP hK hD hS hA 0 rfl rfl rfl hl.1 rfl (Nat.le_of_ble_eq_true rfl) dL_fetches_4 ⟨Nat.le_of_ble_eq_true rfl, Nat.le_of_ble_eq_true rfl⟩ (fun ce q9 H locs hP hD hS1 hz hce hcv hcl => ?_)
  refine vx_catch (own := RL) (name := "java/lang/IllegalStateException") hown [(⟨0, 7, 8, 13⟩ : ExceptionTableEntry), (⟨0, 7, 13, 16⟩ : ExceptionTableEntry)] (⟨0, 7, 18, 19⟩ : ExceptionTableEntry) [] htab (List.forall_mem_cons.mpr ⟨Or.inr ⟨by decide, "java/lang/IndexOutOfBoundsException", hts _ (List.mem_of_getElem? (i := 1) (by decide +kernel)), hE.2.2.1⟩, (List.forall_mem_cons.mpr ⟨Or.inr ⟨by decide, "java/lang/IllegalArgumentException", hts _ (List.mem_of_getElem? (i := 2) (by decide +kernel)), hE.2.2.2⟩, fun z hz => by cases hz⟩)⟩) (by decide) (by decide) (hts _ (List.mem_of_getElem? (i := 3) (by decide +kernel))) (va_Nw.use rfl (hE.1.1.1 _ (List.mem_of_getElem? (i := 11) rfl))) hce hcv hcl ?_
  refine lv_astore (lv' := [(4, .ref q9), (0, .ref (q 0)), (1, .int p0), (2, .int p1), (3, .int p2)]) hx hb dL_fetches_18 hl (by decide) rfl (fun ls hl => ?_)
  refine lv_ldc (v := (-2000000003)) hx hb hown (hts _ (List.mem_of_getElem? (i := 6) (by decide +kernel))) dL_fetches_20 ?_
  exact g_retB (u1 := u) hx hb hret rfl hlk hQ (Nat.le_refl _) (Nat.le_refl _) hP hD hS1 (Nat.le_trans (Nat.succ_le_succ hS.1) hz) dL_fetches_22 rfl rfl
theorem hdL_would : yL_would.cls ≠ "java/lang/invoke/MethodHandle" ∧ yL_would.cls ≠ "java/lang/invoke/VarHandle" ∧ (parseMethodDescriptor yL_would.desc).map (fun d => d.parameters.length) = some 3 := by decide +kernel
set_option maxHeartbeats 4000000 in
set_option maxRecDepth 100000 in
theorem wr_would (l : Launch) (D : va_G) (cI cZ : ClassId) (q : Nat → Nat) {u u' : SX} {rmc : Room} (p0 p1 : Int32) {v : Int32} (hrm : rmc.cells = 0 ∧ rmc.slots = 0 ∧ rmc.frames ≤ 8 ∧ rmc.locals ≤ 200) (hM : gM l yX2_wouldFetch wsX2_wouldFetch rmc D (tyXZ cI cZ) (XW cI cZ q) XG [.ref (q 0), .int p0, .int p1] u (some (.int v)) u') : gB l yL_would wsL_would rmL0 D (tyXZ cI cZ) (XW cI cZ q) LE XT [.ref (q 0), .int p0, .int p1] u (some (.int v)) u' 0 0 0 := by
  refine g_startBW (cc := cL_would) (maxL := 4) (ret := some .int) (hh := [(0, 6, 7, 13), (0, 6, 11, 16), (0, 6, 15, 19)]) (by decide) rfl (Nat.le_of_ble_eq_true rfl) ?_
  intro p e s m below meth c A ls Q hx hb hml hret hts hown hlk hE hP hK hD hA hl hQ hS hXT htab
  have hown : s.vm.findClass RL = some m.cls := hown
  have hl : lv_has ls 4 [(0, .ref (q 0)), (1, .int p0), (2, .int p1)] := hl
  refine lv_aload_n hx hb dL_would_0 rfl (lv_at hl 0 rfl) ?_
  refine lv_iload_n hx hb dL_would_1 rfl (lv_at hl 1 rfl) ?_
  refine lv_iload_n hx hb dL_would_2 rfl (lv_at hl 2 rfl) ?_
  refine g_callV (As := [.int p0, .int p1]) (rest := []) hx hb hml hown hts hM gL_would_X2_wouldFetch rfl hrm.1 hrm.2.1 hdX2_wouldFetch ⟨Nat.le_trans (Nat.succ_le_succ hrm.2.2.1) (Nat.le_of_ble_eq_true rfl), Nat.le_trans (Nat.add_le_add_left hrm.2.2.2 _) (Nat.le_of_ble_eq_true rfl)⟩ XG_em hE.1.1 hP hK hD hS hA 0 rfl rfl rfl hl.1 rfl (Nat.le_of_ble_eq_true rfl) dL_would_3 ⟨Nat.zero_le _, Nat.zero_le _⟩ (fun H locs hP hD hS => ?_)
  refine W.eq (g2 := F0 m 6 ls [.int v]) rfl ?_
  exact g_retB (u1 := u') hx hb hret rfl hlk hQ (Nat.le_refl _) (Nat.le_refl _) hP hD hS hS.1 dL_would_6 rfl rfl
set_option maxHeartbeats 4000000 in
set_option maxRecDepth 100000 in
theorem wr_would_IOO (l : Launch) (D : va_G) (cI cZ : ClassId) (q : Nat → Nat) {u : SX} {rmc : Room} (p0 p1 : Int32) (hrm : rmc.cells = 1 ∧ rmc.slots = 6 ∧ rmc.frames ≤ 8 ∧ rmc.locals ≤ 200) (hM : gX l yX2_wouldFetch wsX2_wouldFetch rmc D (tyXZ cI cZ) (XW cI cZ q) XE XT [.ref (q 0), .int p0, .int p1] u "java/lang/IndexOutOfBoundsException") : gB l yL_would wsL_would rmL1 D (tyXZ cI cZ) (XW cI cZ q) LE XT [.ref (q 0), .int p0, .int p1] u (some (.int (-2000000001))) u 1 6 1 := by
  refine g_startBW (cc := cL_would) (maxL := 4) (ret := some .int) (hh := [(0, 6, 7, 13), (0, 6, 11, 16), (0, 6, 15, 19)]) (by decide) rfl (Nat.le_of_ble_eq_true rfl) ?_
  intro p e s m below meth c A ls Q hx hb hml hret hts hown hlk hE hP hK hD hA hl hQ hS hXT htab
  have hown : s.vm.findClass RL = some m.cls := hown
  have hl : lv_has ls 4 [(0, .ref (q 0)), (1, .int p0), (2, .int p1)] := hl
  refine lv_aload_n hx hb dL_would_0 rfl (lv_at hl 0 rfl) ?_
  refine lv_iload_n hx hb dL_would_1 rfl (lv_at hl 1 rfl) ?_
  refine lv_iload_n hx hb dL_would_2 rfl (lv_at hl 2 rfl) ?_
  refine g_xVW (As := [.int p0, .int p1]) (rest := []) hx hb hml hown hts hM gL_would_X2_wouldFetch rfl hrm.1 hrm.2.1 hdX2_wouldFetch ⟨Nat.le_trans (Nat.succ_le_succ hrm.2.2.1) (Nat.le_of_ble_eq_true rfl), Nat.le_trans (Nat.add_le_add_left hrm.2.2.2 _) (Nat.le_of_ble_eq_true rfl)⟩ XE_em hE.1 XT_tm hXT hP hK hD hS hA 0 rfl rfl rfl hl.1 rfl (Nat.le_of_ble_eq_true rfl) dL_would_3 ⟨Nat.le_of_ble_eq_true rfl, Nat.le_of_ble_eq_true rfl⟩ (fun ce q9 H locs hP hD hS1 hz hce hcv hcl => ?_)
  refine vx_catch (own := RL) (name := "java/lang/IndexOutOfBoundsException") hown [] (⟨0, 6, 7, 13⟩ : ExceptionTableEntry) [(⟨0, 6, 11, 16⟩ : ExceptionTableEntry), (⟨0, 6, 15, 19⟩ : ExceptionTableEntry)] htab (fun z hz => by cases hz) (by decide) (by decide) (hts _ (List.mem_of_getElem? (i := 1) (by decide +kernel))) (va_Nw.use rfl (hE.1.1.1 _ (List.mem_of_getElem? (i := 9) rfl))) hce hcv hcl ?_
  refine lv_astore_n (lv' := [(3, .ref q9), (0, .ref (q 0)), (1, .int p0), (2, .int p1)]) hx hb dL_would_7 rfl hl (by decide) rfl (fun ls hl => ?_)
  refine lv_ldc (v := (-2000000001)) hx hb hown (hts _ (List.mem_of_getElem? (i := 4) (by decide +kernel))) dL_would_8 ?_
  exact g_retB (u1 := u) hx hb hret rfl hlk hQ (Nat.le_refl _) (Nat.le_refl _) hP hD hS1 (Nat.le_trans (Nat.succ_le_succ hS.1) hz) dL_would_10 rfl rfl
set_option maxHeartbeats 4000000 in
set_option maxRecDepth 100000 in
theorem wr_would_IAE (l : Launch) (D : va_G) (cI cZ : ClassId) (q : Nat → Nat) {u : SX} {rmc : Room} (p0 p1 : Int32) (hrm : rmc.cells = 1 ∧ rmc.slots = 6 ∧ rmc.frames ≤ 8 ∧ rmc.locals ≤ 200) (hM : gX l yX2_wouldFetch wsX2_wouldFetch rmc D (tyXZ cI cZ) (XW cI cZ q) XE XT [.ref (q 0), .int p0, .int p1] u "java/lang/IllegalArgumentException") : gB l yL_would wsL_would rmL1 D (tyXZ cI cZ) (XW cI cZ q) LE XT [.ref (q 0), .int p0, .int p1] u (some (.int (-2000000002))) u 1 6 1 := by
  refine g_startBW (cc := cL_would) (maxL := 4) (ret := some .int) (hh := [(0, 6, 7, 13), (0, 6, 11, 16), (0, 6, 15, 19)]) (by decide) rfl (Nat.le_of_ble_eq_true rfl) ?_
  intro p e s m below meth c A ls Q hx hb hml hret hts hown hlk hE hP hK hD hA hl hQ hS hXT htab
  have hown : s.vm.findClass RL = some m.cls := hown
  have hl : lv_has ls 4 [(0, .ref (q 0)), (1, .int p0), (2, .int p1)] := hl
  refine lv_aload_n hx hb dL_would_0 rfl (lv_at hl 0 rfl) ?_
  refine lv_iload_n hx hb dL_would_1 rfl (lv_at hl 1 rfl) ?_
  refine lv_iload_n hx hb dL_would_2 rfl (lv_at hl 2 rfl) ?_
  refine g_xVW (As := [.int p0, .int p1]) (rest := []) hx hb hml hown hts hM gL_would_X2_wouldFetch rfl hrm.1 hrm.2.1 hdX2_wouldFetch ⟨Nat.le_trans (Nat.succ_le_succ hrm.2.2.1) (Nat.le_of_ble_eq_true rfl), Nat.le_trans (Nat.add_le_add_left hrm.2.2.2 _) (Nat.le_of_ble_eq_true rfl)⟩ XE_em hE.1 XT_tm hXT hP hK hD hS hA 0 rfl rfl rfl hl.1 rfl (Nat.le_of_ble_eq_true rfl) dL_would_3 ⟨Nat.le_of_ble_eq_true rfl, Nat.le_of_ble_eq_true rfl⟩ (fun ce q9 H locs hP hD hS1 hz hce hcv hcl => ?_)
  refine vx_catch (own := RL) (name := "java/lang/IllegalArgumentException") hown [(⟨0, 6, 7, 13⟩ : ExceptionTableEntry)] (⟨0, 6, 11, 16⟩ : ExceptionTableEntry) [(⟨0, 6, 15, 19⟩ : ExceptionTableEntry)] htab (List.forall_mem_cons.mpr ⟨Or.inr ⟨by decide, "java/lang/IndexOutOfBoundsException", hts _ (List.mem_of_getElem? (i := 1) (by decide +kernel)), hE.2.1⟩, fun z hz => by cases hz⟩) (by decide) (by decide) (hts _ (List.mem_of_getElem? (i := 2) (by decide +kernel))) (va_Nw.use rfl (hE.1.1.1 _ (List.mem_of_getElem? (i := 10) rfl))) hce hcv hcl ?_
  refine lv_astore_n (lv' := [(3, .ref q9), (0, .ref (q 0)), (1, .int p0), (2, .int p1)]) hx hb dL_would_11 rfl hl (by decide) rfl (fun ls hl => ?_)
  refine lv_ldc (v := (-2000000002)) hx hb hown (hts _ (List.mem_of_getElem? (i := 5) (by decide +kernel))) dL_would_12 ?_
  exact g_retB (u1 := u) hx hb hret rfl hlk hQ (Nat.le_refl _) (Nat.le_refl _) hP hD hS1 (Nat.le_trans (Nat.succ_le_succ hS.1) hz) dL_would_14 rfl rfl
set_option maxHeartbeats 4000000 in
set_option maxRecDepth 100000 in
theorem wr_would_ISE (l : Launch) (D : va_G) (cI cZ : ClassId) (q : Nat → Nat) {u : SX} {rmc : Room} (p0 p1 : Int32) (hrm : rmc.cells = 1 ∧ rmc.slots = 6 ∧ rmc.frames ≤ 8 ∧ rmc.locals ≤ 200) (hM : gX l yX2_wouldFetch wsX2_wouldFetch rmc D (tyXZ cI cZ) (XW cI cZ q) XE XT [.ref (q 0), .int p0, .int p1] u "java/lang/IllegalStateException") : gB l yL_would wsL_would rmL1 D (tyXZ cI cZ) (XW cI cZ q) LE XT [.ref (q 0), .int p0, .int p1] u (some (.int (-2000000003))) u 1 6 1 := by
  refine g_startBW (cc := cL_would) (maxL := 4) (ret := some .int) (hh := [(0, 6, 7, 13), (0, 6, 11, 16), (0, 6, 15, 19)]) (by decide) rfl (Nat.le_of_ble_eq_true rfl) ?_
  intro p e s m below meth c A ls Q hx hb hml hret hts hown hlk hE hP hK hD hA hl hQ hS hXT htab
  have hown : s.vm.findClass RL = some m.cls := hown
  have hl : lv_has ls 4 [(0, .ref (q 0)), (1, .int p0), (2, .int p1)] := hl
  refine lv_aload_n hx hb dL_would_0 rfl (lv_at hl 0 rfl) ?_
  refine lv_iload_n hx hb dL_would_1 rfl (lv_at hl 1 rfl) ?_
  refine lv_iload_n hx hb dL_would_2 rfl (lv_at hl 2 rfl) ?_
  refine g_xVW (As := [.int p0, .int p1]) (rest := []) hx hb hml hown hts hM gL_would_X2_wouldFetch rfl hrm.1 hrm.2.1 hdX2_wouldFetch ⟨Nat.le_trans (Nat.succ_le_succ hrm.2.2.1) (Nat.le_of_ble_eq_true rfl), Nat.le_trans (Nat.add_le_add_left hrm.2.2.2 _) (Nat.le_of_ble_eq_true rfl)⟩ XE_em hE.1 XT_tm hXT hP hK hD hS hA 0 rfl rfl rfl hl.1 rfl (Nat.le_of_ble_eq_true rfl) dL_would_3 ⟨Nat.le_of_ble_eq_true rfl, Nat.le_of_ble_eq_true rfl⟩ (fun ce q9 H locs hP hD hS1 hz hce hcv hcl => ?_)
  refine vx_catch (own := RL) (name := "java/lang/IllegalStateException") hown [(⟨0, 6, 7, 13⟩ : ExceptionTableEntry), (⟨0, 6, 11, 16⟩ : ExceptionTableEntry)] (⟨0, 6, 15, 19⟩ : ExceptionTableEntry) [] htab (List.forall_mem_cons.mpr ⟨Or.inr ⟨by decide, "java/lang/IndexOutOfBoundsException", hts _ (List.mem_of_getElem? (i := 1) (by decide +kernel)), hE.2.2.1⟩, (List.forall_mem_cons.mpr ⟨Or.inr ⟨by decide, "java/lang/IllegalArgumentException", hts _ (List.mem_of_getElem? (i := 2) (by decide +kernel)), hE.2.2.2⟩, fun z hz => by cases hz⟩)⟩) (by decide) (by decide) (hts _ (List.mem_of_getElem? (i := 3) (by decide +kernel))) (va_Nw.use rfl (hE.1.1.1 _ (List.mem_of_getElem? (i := 11) rfl))) hce hcv hcl ?_
  refine lv_astore_n (lv' := [(3, .ref q9), (0, .ref (q 0)), (1, .int p0), (2, .int p1)]) hx hb dL_would_15 rfl hl (by decide) rfl (fun ls hl => ?_)
  refine lv_ldc (v := (-2000000003)) hx hb hown (hts _ (List.mem_of_getElem? (i := 6) (by decide +kernel))) dL_would_16 ?_
  exact g_retB (u1 := u) hx hb hret rfl hlk hQ (Nat.le_refl _) (Nat.le_refl _) hP hD hS1 (Nat.le_trans (Nat.succ_le_succ hS.1) hz) dL_would_18 rfl rfl
theorem hdL_loads : yL_loads.cls ≠ "java/lang/invoke/MethodHandle" ∧ yL_loads.cls ≠ "java/lang/invoke/VarHandle" ∧ (parseMethodDescriptor yL_loads.desc).map (fun d => d.parameters.length) = some 2 := by decide +kernel
set_option maxHeartbeats 4000000 in
set_option maxRecDepth 100000 in
theorem wr_loads (l : Launch) (D : va_G) (cI cZ : ClassId) (q : Nat → Nat) {u u' : SX} {rmc : Room} (p0 : Int32) {v : Int32} (hrm : rmc.cells = 0 ∧ rmc.slots = 0 ∧ rmc.frames ≤ 8 ∧ rmc.locals ≤ 200) (hM : gM l yX2_load wsX2_load rmc D (tyXZ cI cZ) (XW cI cZ q) XG [.ref (q 0), .int p0] u (some (.int v)) u') : gB l yL_loads wsL_loads rmL0 D (tyXZ cI cZ) (XW cI cZ q) LE XT [.ref (q 0), .int p0] u (some (.int (zI v))) u' 0 0 0 := by
  refine g_startBW (cc := cL_loads) (maxL := 3) (ret := some .int) (hh := [(0, 13, 14, 16), (0, 13, 18, 19)]) (by decide) rfl (Nat.le_of_ble_eq_true rfl) ?_
  intro p e s m below meth c A ls Q hx hb hml hret hts hown hlk hE hP hK hD hA hl hQ hS hXT htab
  have hown : s.vm.findClass RL = some m.cls := hown
  have hl : lv_has ls 3 [(0, .ref (q 0)), (1, .int p0)] := hl
  refine lv_aload_n hx hb dL_loads_0 rfl (lv_at hl 0 rfl) ?_
  refine lv_iload_n hx hb dL_loads_1 rfl (lv_at hl 1 rfl) ?_
  refine g_callV (As := [.int p0]) (rest := []) hx hb hml hown hts hM gL_loads_X2_load rfl hrm.1 hrm.2.1 hdX2_load ⟨Nat.le_trans (Nat.succ_le_succ hrm.2.2.1) (Nat.le_of_ble_eq_true rfl), Nat.le_trans (Nat.add_le_add_left hrm.2.2.2 _) (Nat.le_of_ble_eq_true rfl)⟩ XG_em hE.1.1 hP hK hD hS hA 0 rfl rfl rfl hl.1 rfl (Nat.le_of_ble_eq_true rfl) dL_loads_2 ⟨Nat.zero_le _, Nat.zero_le _⟩ (fun H locs hP hD hS => ?_)
  refine W.eq (g2 := F0 m 5 ls [.int v]) rfl ?_
  refine lv_if_eq (tgt := 12) hx hb dL_loads_5 (by decide) (fun c_1 => ?_) (fun c_1 => ?_)
  · refine lv_iconst (v := 0) hx hb dL_loads_12 (by decide +kernel) ?_
    exact g_retB (u1 := u') hx hb hret rfl hlk hQ (Nat.le_refl _) (Nat.le_refl _) hP hD hS hS.1 dL_loads_13 (by rw [show zI v = 0 from if_pos c_1]) rfl
  · refine lv_iconst (v := 1) hx hb dL_loads_8 (by decide +kernel) ?_
    refine lv_goto (tgt := 13) hx hb dL_loads_9 (by decide) ?_
    exact g_retB (u1 := u') hx hb hret rfl hlk hQ (Nat.le_refl _) (Nat.le_refl _) hP hD hS hS.1 dL_loads_13 (by rw [show zI v = 1 from if_neg c_1]) rfl
set_option maxHeartbeats 4000000 in
set_option maxRecDepth 100000 in
theorem wr_loads_IAE (l : Launch) (D : va_G) (cI cZ : ClassId) (q : Nat → Nat) {u : SX} {rmc : Room} (p0 : Int32) (hrm : rmc.cells = 1 ∧ rmc.slots = 6 ∧ rmc.frames ≤ 8 ∧ rmc.locals ≤ 200) (hM : gX l yX2_load wsX2_load rmc D (tyXZ cI cZ) (XW cI cZ q) XE XT [.ref (q 0), .int p0] u "java/lang/IllegalArgumentException") : gB l yL_loads wsL_loads rmL1 D (tyXZ cI cZ) (XW cI cZ q) LE XT [.ref (q 0), .int p0] u (some (.int (-2000000002))) u 1 6 1 := by
  refine g_startBW (cc := cL_loads) (maxL := 3) (ret := some .int) (hh := [(0, 13, 14, 16), (0, 13, 18, 19)]) (by decide) rfl (Nat.le_of_ble_eq_true rfl) ?_
  intro p e s m below meth c A ls Q hx hb hml hret hts hown hlk hE hP hK hD hA hl hQ hS hXT htab
  have hown : s.vm.findClass RL = some m.cls := hown
  have hl : lv_has ls 3 [(0, .ref (q 0)), (1, .int p0)] := hl
  refine lv_aload_n hx hb dL_loads_0 rfl (lv_at hl 0 rfl) ?_
  refine lv_iload_n hx hb dL_loads_1 rfl (lv_at hl 1 rfl) ?_
  refine g_xVW (As := [.int p0]) (rest := []) hx hb hml hown hts hM gL_loads_X2_load rfl hrm.1 hrm.2.1 hdX2_load ⟨Nat.le_trans (Nat.succ_le_succ hrm.2.2.1) (Nat.le_of_ble_eq_true rfl), Nat.le_trans (Nat.add_le_add_left hrm.2.2.2 _) (Nat.le_of_ble_eq_true rfl)⟩ XE_em hE.1 XT_tm hXT hP hK hD hS hA 0 rfl rfl rfl hl.1 rfl (Nat.le_of_ble_eq_true rfl) dL_loads_2 ⟨Nat.le_of_ble_eq_true rfl, Nat.le_of_ble_eq_true rfl⟩ (fun ce q9 H locs hP hD hS1 hz hce hcv hcl => ?_)
  refine vx_catch (own := RL) (name := "java/lang/IllegalArgumentException") hown [] (⟨0, 13, 14, 16⟩ : ExceptionTableEntry) [(⟨0, 13, 18, 19⟩ : ExceptionTableEntry)] htab (fun z hz => by cases hz) (by decide) (by decide) (hts _ (List.mem_of_getElem? (i := 1) (by decide +kernel))) (va_Nw.use rfl (hE.1.1.1 _ (List.mem_of_getElem? (i := 10) rfl))) hce hcv hcl ?_
  refine lv_astore_n (lv' := [(2, .ref q9), (0, .ref (q 0)), (1, .int p0)]) hx hb dL_loads_14 rfl hl (by decide) rfl (fun ls hl => ?_)
  refine lv_ldc (v := (-2000000002)) hx hb hown (hts _ (List.mem_of_getElem? (i := 3) (by decide +kernel))) dL_loads_15 ?_
  exact g_retB (u1 := u) hx hb hret rfl hlk hQ (Nat.le_refl _) (Nat.le_refl _) hP hD hS1 (Nat.le_trans (Nat.succ_le_succ hS.1) hz) dL_loads_17 rfl rfl
set_option maxHeartbeats 4000000 in
set_option maxRecDepth 100000 in
theorem wr_loads_ISE (l : Launch) (D : va_G) (cI cZ : ClassId) (q : Nat → Nat) {u : SX} {rmc : Room} (p0 : Int32) (hrm : rmc.cells = 1 ∧ rmc.slots = 6 ∧ rmc.frames ≤ 8 ∧ rmc.locals ≤ 200) (hM : gX l yX2_load wsX2_load rmc D (tyXZ cI cZ) (XW cI cZ q) XE XT [.ref (q 0), .int p0] u "java/lang/IllegalStateException") : gB l yL_loads wsL_loads rmL1 D (tyXZ cI cZ) (XW cI cZ q) LE XT [.ref (q 0), .int p0] u (some (.int (-2000000003))) u 1 6 1 := by
  refine g_startBW (cc := cL_loads) (maxL := 3) (ret := some .int) (hh := [(0, 13, 14, 16), (0, 13, 18, 19)]) (by decide) rfl (Nat.le_of_ble_eq_true rfl) ?_
  intro p e s m below meth c A ls Q hx hb hml hret hts hown hlk hE hP hK hD hA hl hQ hS hXT htab
  have hown : s.vm.findClass RL = some m.cls := hown
  have hl : lv_has ls 3 [(0, .ref (q 0)), (1, .int p0)] := hl
  refine lv_aload_n hx hb dL_loads_0 rfl (lv_at hl 0 rfl) ?_
  refine lv_iload_n hx hb dL_loads_1 rfl (lv_at hl 1 rfl) ?_
  refine g_xVW (As := [.int p0]) (rest := []) hx hb hml hown hts hM gL_loads_X2_load rfl hrm.1 hrm.2.1 hdX2_load ⟨Nat.le_trans (Nat.succ_le_succ hrm.2.2.1) (Nat.le_of_ble_eq_true rfl), Nat.le_trans (Nat.add_le_add_left hrm.2.2.2 _) (Nat.le_of_ble_eq_true rfl)⟩ XE_em hE.1 XT_tm hXT hP hK hD hS hA 0 rfl rfl rfl hl.1 rfl (Nat.le_of_ble_eq_true rfl) dL_loads_2 ⟨Nat.le_of_ble_eq_true rfl, Nat.le_of_ble_eq_true rfl⟩ (fun ce q9 H locs hP hD hS1 hz hce hcv hcl => ?_)
  refine vx_catch (own := RL) (name := "java/lang/IllegalStateException") hown [(⟨0, 13, 14, 16⟩ : ExceptionTableEntry)] (⟨0, 13, 18, 19⟩ : ExceptionTableEntry) [] htab (List.forall_mem_cons.mpr ⟨Or.inr ⟨by decide, "java/lang/IllegalArgumentException", hts _ (List.mem_of_getElem? (i := 1) (by decide +kernel)), hE.2.2.2⟩, fun z hz => by cases hz⟩) (by decide) (by decide) (hts _ (List.mem_of_getElem? (i := 2) (by decide +kernel))) (va_Nw.use rfl (hE.1.1.1 _ (List.mem_of_getElem? (i := 11) rfl))) hce hcv hcl ?_
  refine lv_astore_n (lv' := [(2, .ref q9), (0, .ref (q 0)), (1, .int p0)]) hx hb dL_loads_18 rfl hl (by decide) rfl (fun ls hl => ?_)
  refine lv_ldc (v := (-2000000003)) hx hb hown (hts _ (List.mem_of_getElem? (i := 4) (by decide +kernel))) dL_loads_19 ?_
  exact g_retB (u1 := u) hx hb hret rfl hlk hQ (Nat.le_refl _) (Nat.le_refl _) hP hD hS1 (Nat.le_trans (Nat.succ_le_succ hS.1) hz) dL_loads_21 rfl rfl
theorem hdL_protects : yL_protects.cls ≠ "java/lang/invoke/MethodHandle" ∧ yL_protects.cls ≠ "java/lang/invoke/VarHandle" ∧ (parseMethodDescriptor yL_protects.desc).map (fun d => d.parameters.length) = some 3 := by decide +kernel
set_option maxHeartbeats 4000000 in
set_option maxRecDepth 100000 in
theorem wr_protects (l : Launch) (D : va_G) (cI cZ : ClassId) (q : Nat → Nat) {u u' : SX} {rmc : Room} (p0 p1 : Int32) {v : Int32} (hrm : rmc.cells = 0 ∧ rmc.slots = 0 ∧ rmc.frames ≤ 8 ∧ rmc.locals ≤ 200) (hM : gM l yX2_protect wsX2_protect rmc D (tyXZ cI cZ) (XW cI cZ q) XG [.ref (q 0), .int p0, .int p1] u (some (.int v)) u') : gB l yL_protects wsL_protects rmL0 D (tyXZ cI cZ) (XW cI cZ q) LE XT [.ref (q 0), .int p0, .int p1] u (some (.int (zI v))) u' 0 0 0 := by
  refine g_startBW (cc := cL_protects) (maxL := 4) (ret := some .int) (hh := [(0, 14, 15, 13)]) (by decide) rfl (Nat.le_of_ble_eq_true rfl) ?_
  intro p e s m below meth c A ls Q hx hb hml hret hts hown hlk hE hP hK hD hA hl hQ hS hXT htab
  have hown : s.vm.findClass RL = some m.cls := hown
  have hl : lv_has ls 4 [(0, .ref (q 0)), (1, .int p0), (2, .int p1)] := hl
  refine lv_aload_n hx hb dL_protects_0 rfl (lv_at hl 0 rfl) ?_
  refine lv_iload_n hx hb dL_protects_1 rfl (lv_at hl 1 rfl) ?_
  refine lv_iload_n hx hb dL_protects_2 rfl (lv_at hl 2 rfl) ?_
  refine g_callV (As := [.int p0, .int p1]) (rest := []) hx hb hml hown hts hM gL_protects_X2_protect rfl hrm.1 hrm.2.1 hdX2_protect ⟨Nat.le_trans (Nat.succ_le_succ hrm.2.2.1) (Nat.le_of_ble_eq_true rfl), Nat.le_trans (Nat.add_le_add_left hrm.2.2.2 _) (Nat.le_of_ble_eq_true rfl)⟩ XG_em hE.1.1 hP hK hD hS hA 0 rfl rfl rfl hl.1 rfl (Nat.le_of_ble_eq_true rfl) dL_protects_3 ⟨Nat.zero_le _, Nat.zero_le _⟩ (fun H locs hP hD hS => ?_)
  refine W.eq (g2 := F0 m 6 ls [.int v]) rfl ?_
  refine lv_if_eq (tgt := 13) hx hb dL_protects_6 (by decide) (fun c_1 => ?_) (fun c_1 => ?_)
  · refine lv_iconst (v := 0) hx hb dL_protects_13 (by decide +kernel) ?_
    exact g_retB (u1 := u') hx hb hret rfl hlk hQ (Nat.le_refl _) (Nat.le_refl _) hP hD hS hS.1 dL_protects_14 (by rw [show zI v = 0 from if_pos c_1]) rfl
  · refine lv_iconst (v := 1) hx hb dL_protects_9 (by decide +kernel) ?_
    refine lv_goto (tgt := 14) hx hb dL_protects_10 (by decide) ?_
    exact g_retB (u1 := u') hx hb hret rfl hlk hQ (Nat.le_refl _) (Nat.le_refl _) hP hD hS hS.1 dL_protects_14 (by rw [show zI v = 1 from if_neg c_1]) rfl
set_option maxHeartbeats 4000000 in
set_option maxRecDepth 100000 in
theorem wr_protects_IOO (l : Launch) (D : va_G) (cI cZ : ClassId) (q : Nat → Nat) {u : SX} {rmc : Room} (p0 p1 : Int32) (hrm : rmc.cells = 1 ∧ rmc.slots = 6 ∧ rmc.frames ≤ 8 ∧ rmc.locals ≤ 200) (hM : gX l yX2_protect wsX2_protect rmc D (tyXZ cI cZ) (XW cI cZ q) XE XT [.ref (q 0), .int p0, .int p1] u "java/lang/IndexOutOfBoundsException") : gB l yL_protects wsL_protects rmL1 D (tyXZ cI cZ) (XW cI cZ q) LE XT [.ref (q 0), .int p0, .int p1] u (some (.int (-2000000001))) u 1 6 1 := by
  refine g_startBW (cc := cL_protects) (maxL := 4) (ret := some .int) (hh := [(0, 14, 15, 13)]) (by decide) rfl (Nat.le_of_ble_eq_true rfl) ?_
  intro p e s m below meth c A ls Q hx hb hml hret hts hown hlk hE hP hK hD hA hl hQ hS hXT htab
  have hown : s.vm.findClass RL = some m.cls := hown
  have hl : lv_has ls 4 [(0, .ref (q 0)), (1, .int p0), (2, .int p1)] := hl
  refine lv_aload_n hx hb dL_protects_0 rfl (lv_at hl 0 rfl) ?_
  refine lv_iload_n hx hb dL_protects_1 rfl (lv_at hl 1 rfl) ?_
  refine lv_iload_n hx hb dL_protects_2 rfl (lv_at hl 2 rfl) ?_
  refine g_xVW (As := [.int p0, .int p1]) (rest := []) hx hb hml hown hts hM gL_protects_X2_protect rfl hrm.1 hrm.2.1 hdX2_protect ⟨Nat.le_trans (Nat.succ_le_succ hrm.2.2.1) (Nat.le_of_ble_eq_true rfl), Nat.le_trans (Nat.add_le_add_left hrm.2.2.2 _) (Nat.le_of_ble_eq_true rfl)⟩ XE_em hE.1 XT_tm hXT hP hK hD hS hA 0 rfl rfl rfl hl.1 rfl (Nat.le_of_ble_eq_true rfl) dL_protects_3 ⟨Nat.le_of_ble_eq_true rfl, Nat.le_of_ble_eq_true rfl⟩ (fun ce q9 H locs hP hD hS1 hz hce hcv hcl => ?_)
  refine vx_catch (own := RL) (name := "java/lang/IndexOutOfBoundsException") hown [] (⟨0, 14, 15, 13⟩ : ExceptionTableEntry) [] htab (fun z hz => by cases hz) (by decide) (by decide) (hts _ (List.mem_of_getElem? (i := 1) (by decide +kernel))) (va_Nw.use rfl (hE.1.1.1 _ (List.mem_of_getElem? (i := 9) rfl))) hce hcv hcl ?_
  refine lv_astore_n (lv' := [(3, .ref q9), (0, .ref (q 0)), (1, .int p0), (2, .int p1)]) hx hb dL_protects_15 rfl hl (by decide) rfl (fun ls hl => ?_)
  refine lv_ldc (v := (-2000000001)) hx hb hown (hts _ (List.mem_of_getElem? (i := 2) (by decide +kernel))) dL_protects_16 ?_
  exact g_retB (u1 := u) hx hb hret rfl hlk hQ (Nat.le_refl _) (Nat.le_refl _) hP hD hS1 (Nat.le_trans (Nat.succ_le_succ hS.1) hz) dL_protects_18 rfl rfl
theorem hdL_moves : yL_moves.cls ≠ "java/lang/invoke/MethodHandle" ∧ yL_moves.cls ≠ "java/lang/invoke/VarHandle" ∧ (parseMethodDescriptor yL_moves.desc).map (fun d => d.parameters.length) = some 4 := by decide +kernel
set_option maxHeartbeats 4000000 in
set_option maxRecDepth 100000 in
theorem wr_moves (l : Launch) (D : va_G) (cI cZ : ClassId) (q : Nat → Nat) {u u' : SX} {rmc : Room} (p0 p1 p2 : Int32) {v : Int32} (hrm : rmc.cells = 0 ∧ rmc.slots = 0 ∧ rmc.frames ≤ 8 ∧ rmc.locals ≤ 200) (hM : gM l yX2_move wsX2_move rmc D (tyXZ cI cZ) (XW cI cZ q) XG [.ref (q 0), .int p0, .int p1, .int p2] u (some (.int v)) u') : gB l yL_moves wsL_moves rmL0 D (tyXZ cI cZ) (XW cI cZ q) LE XT [.ref (q 0), .int p0, .int p1, .int p2] u (some (.int v)) u' 0 0 0 := by
  refine g_startBW (cc := cL_moves) (maxL := 5) (ret := some .int) (hh := [(0, 7, 8, 13), (0, 7, 13, 19)]) (by decide) rfl (Nat.le_of_ble_eq_true rfl) ?_
  intro p e s m below meth c A ls Q hx hb hml hret hts hown hlk hE hP hK hD hA hl hQ hS hXT htab
  have hown : s.vm.findClass RL = some m.cls := hown
  have hl : lv_has ls 5 [(0, .ref (q 0)), (1, .int p0), (2, .int p1), (3, .int p2)] := hl
  refine lv_aload_n hx hb dL_moves_0 rfl (lv_at hl 0 rfl) ?_
  refine lv_iload_n hx hb dL_moves_1 rfl (lv_at hl 1 rfl) ?_
  refine lv_iload_n hx hb dL_moves_2 rfl (lv_at hl 2 rfl) ?_
  refine lv_iload_n hx hb dL_moves_3 rfl (lv_at hl 3 rfl) ?_
  refine g_callV (As := [.int p0, .int p1, .int p2]) (rest := []) hx hb hml hown hts hM gL_moves_X2_move rfl hrm.1 hrm.2.1 hdX2_move ⟨Nat.le_trans (Nat.succ_le_succ hrm.2.2.1) (Nat.le_of_ble_eq_true rfl), Nat.le_trans (Nat.add_le_add_left hrm.2.2.2 _) (Nat.le_of_ble_eq_true rfl)⟩ XG_em hE.1.1 hP hK hD hS hA 0 rfl rfl rfl hl.1 rfl (Nat.le_of_ble_eq_true rfl) dL_moves_4 ⟨Nat.zero_le _, Nat.zero_le _⟩ (fun H locs hP hD hS => ?_)
  refine W.eq (g2 := F0 m 7 ls [.int v]) rfl ?_
  exact g_retB (u1 := u') hx hb hret rfl hlk hQ (Nat.le_refl _) (Nat.le_refl _) hP hD hS hS.1 dL_moves_7 rfl rfl
set_option maxHeartbeats 4000000 in
set_option maxRecDepth 100000 in
theorem wr_moves_IOO (l : Launch) (D : va_G) (cI cZ : ClassId) (q : Nat → Nat) {u : SX} {rmc : Room} (p0 p1 p2 : Int32) (hrm : rmc.cells = 1 ∧ rmc.slots = 6 ∧ rmc.frames ≤ 8 ∧ rmc.locals ≤ 200) (hM : gX l yX2_move wsX2_move rmc D (tyXZ cI cZ) (XW cI cZ q) XE XT [.ref (q 0), .int p0, .int p1, .int p2] u "java/lang/IndexOutOfBoundsException") : gB l yL_moves wsL_moves rmL1 D (tyXZ cI cZ) (XW cI cZ q) LE XT [.ref (q 0), .int p0, .int p1, .int p2] u (some (.int (-2000000001))) u 1 6 1 := by
  refine g_startBW (cc := cL_moves) (maxL := 5) (ret := some .int) (hh := [(0, 7, 8, 13), (0, 7, 13, 19)]) (by decide) rfl (Nat.le_of_ble_eq_true rfl) ?_
  intro p e s m below meth c A ls Q hx hb hml hret hts hown hlk hE hP hK hD hA hl hQ hS hXT htab
  have hown : s.vm.findClass RL = some m.cls := hown
  have hl : lv_has ls 5 [(0, .ref (q 0)), (1, .int p0), (2, .int p1), (3, .int p2)] := hl
  refine lv_aload_n hx hb dL_moves_0 rfl (lv_at hl 0 rfl) ?_
  refine lv_iload_n hx hb dL_moves_1 rfl (lv_at hl 1 rfl) ?_
  refine lv_iload_n hx hb dL_moves_2 rfl (lv_at hl 2 rfl) ?_
  refine lv_iload_n hx hb dL_moves_3 rfl (lv_at hl 3 rfl) ?_
  refine g_xVW (As := [.int p0, .int p1, .int p2]) (rest := []) hx hb hml hown hts hM gL_moves_X2_move rfl hrm.1 hrm.2.1 hdX2_move ⟨Nat.le_trans (Nat.succ_le_succ hrm.2.2.1) (Nat.le_of_ble_eq_true rfl), Nat.le_trans (Nat.add_le_add_left hrm.2.2.2 _) (Nat.le_of_ble_eq_true rfl)⟩ XE_em hE.1 XT_tm hXT hP hK hD hS hA 0 rfl rfl rfl hl.1 rfl (Nat.le_of_ble_eq_true rfl) dL_moves_4 ⟨Nat.le_of_ble_eq_true rfl, Nat.le_of_ble_eq_true rfl⟩ (fun ce q9 H locs hP hD hS1 hz hce hcv hcl => ?_)
  refine vx_catch (own := RL) (name := "java/lang/IndexOutOfBoundsException") hown [] (⟨0, 7, 8, 13⟩ : ExceptionTableEntry) [(⟨0, 7, 13, 19⟩ : ExceptionTableEntry)] htab (fun z hz => by cases hz) (by decide) (by decide) (hts _ (List.mem_of_getElem? (i := 1) (by decide +kernel))) (va_Nw.use rfl (hE.1.1.1 _ (List.mem_of_getElem? (i := 9) rfl))) hce hcv hcl ?_
  refine lv_astore (lv' := [(4, .ref q9), (0, .ref (q 0)), (1, .int p0), (2, .int p1), (3, .int p2)]) hx hb dL_moves_8 hl (by decide) rfl (fun ls hl => ?_)
  refine lv_ldc (v := (-2000000001)) hx hb hown (hts _ (List.mem_of_getElem? (i := 3) (by decide +kernel))) dL_moves_10 ?_
  exact g_retB (u1 := u) hx hb hret rfl hlk hQ (Nat.le_refl _) (Nat.le_refl _) hP hD hS1 (Nat.le_trans (Nat.succ_le_succ hS.1) hz) dL_moves_12 rfl rfl
set_option maxHeartbeats 4000000 in
set_option maxRecDepth 100000 in
theorem wr_moves_ISE (l : Launch) (D : va_G) (cI cZ : ClassId) (q : Nat → Nat) {u : SX} {rmc : Room} (p0 p1 p2 : Int32) (hrm : rmc.cells = 1 ∧ rmc.slots = 6 ∧ rmc.frames ≤ 8 ∧ rmc.locals ≤ 200) (hM : gX l yX2_move wsX2_move rmc D (tyXZ cI cZ) (XW cI cZ q) XE XT [.ref (q 0), .int p0, .int p1, .int p2] u "java/lang/IllegalStateException") : gB l yL_moves wsL_moves rmL1 D (tyXZ cI cZ) (XW cI cZ q) LE XT [.ref (q 0), .int p0, .int p1, .int p2] u (some (.int (-2000000003))) u 1 6 1 := by
  refine g_startBW (cc := cL_moves) (maxL := 5) (ret := some .int) (hh := [(0, 7, 8, 13), (0, 7, 13, 19)]) (by decide) rfl (Nat.le_of_ble_eq_true rfl) ?_
  intro p e s m below meth c A ls Q hx hb hml hret hts hown hlk hE hP hK hD hA hl hQ hS hXT htab
  have hown : s.vm.findClass RL = some m.cls := hown
  have hl : lv_has ls 5 [(0, .ref (q 0)), (1, .int p0), (2, .int p1), (3, .int p2)] := hl
  refine lv_aload_n hx hb dL_moves_0 rfl (lv_at hl 0 rfl) ?_
  refine lv_iload_n hx hb dL_moves_1 rfl (lv_at hl 1 rfl) ?_
  refine lv_iload_n hx hb dL_moves_2 rfl (lv_at hl 2 rfl) ?_
  refine lv_iload_n hx hb dL_moves_3 rfl (lv_at hl 3 rfl) ?_
  refine g_xVW (As := [.int p0, .int p1, .int p2]) (rest := []) hx hb hml hown hts hM gL_moves_X2_move rfl hrm.1 hrm.2.1 hdX2_move ⟨Nat.le_trans (Nat.succ_le_succ hrm.2.2.1) (Nat.le_of_ble_eq_true rfl), Nat.le_trans (Nat.add_le_add_left hrm.2.2.2 _) (Nat.le_of_ble_eq_true rfl)⟩ XE_em hE.1 XT_tm hXT hP hK hD hS hA 0 rfl rfl rfl hl.1 rfl (Nat.le_of_ble_eq_true rfl) dL_moves_4 ⟨Nat.le_of_ble_eq_true rfl, Nat.le_of_ble_eq_true rfl⟩ (fun ce q9 H locs hP hD hS1 hz hce hcv hcl => ?_)
  refine vx_catch (own := RL) (name := "java/lang/IllegalStateException") hown [(⟨0, 7, 8, 13⟩ : ExceptionTableEntry)] (⟨0, 7, 13, 19⟩ : ExceptionTableEntry) [] htab (List.forall_mem_cons.mpr ⟨Or.inr ⟨by decide, "java/lang/IndexOutOfBoundsException", hts _ (List.mem_of_getElem? (i := 1) (by decide +kernel)), hE.2.2.1⟩, fun z hz => by cases hz⟩) (by decide) (by decide) (hts _ (List.mem_of_getElem? (i := 2) (by decide +kernel))) (va_Nw.use rfl (hE.1.1.1 _ (List.mem_of_getElem? (i := 11) rfl))) hce hcv hcl ?_
  refine lv_astore (lv' := [(4, .ref q9), (0, .ref (q 0)), (1, .int p0), (2, .int p1), (3, .int p2)]) hx hb dL_moves_13 hl (by decide) rfl (fun ls hl => ?_)
  refine lv_ldc (v := (-2000000003)) hx hb hown (hts _ (List.mem_of_getElem? (i := 4) (by decide +kernel))) dL_moves_15 ?_
  exact g_retB (u1 := u) hx hb hret rfl hlk hQ (Nat.le_refl _) (Nat.le_refl _) hP hD hS1 (Nat.le_trans (Nat.succ_le_succ hS.1) hz) dL_moves_17 rfl rfl
theorem hdL_collects : yL_collects.cls ≠ "java/lang/invoke/MethodHandle" ∧ yL_collects.cls ≠ "java/lang/invoke/VarHandle" ∧ (parseMethodDescriptor yL_collects.desc).map (fun d => d.parameters.length) = some 2 := by decide +kernel
set_option maxHeartbeats 4000000 in
set_option maxRecDepth 100000 in
theorem wr_collects (l : Launch) (D : va_G) (cI cZ : ClassId) (q : Nat → Nat) {u u' : SX} {rmc : Room} (p0 : Int32) {v : Int32} (hrm : rmc.cells = 0 ∧ rmc.slots = 0 ∧ rmc.frames ≤ 8 ∧ rmc.locals ≤ 200) (hM : gM l yX2_collect wsX2_collect rmc D (tyXZ cI cZ) (XW cI cZ q) XG [.ref (q 0), .int p0] u (some (.int v)) u') : gB l yL_collects wsL_collects rmL0 D (tyXZ cI cZ) (XW cI cZ q) LE XT [.ref (q 0), .int p0] u (some (.int v)) u' 0 0 0 := by
  refine g_startBW (cc := cL_collects) (maxL := 3) (ret := some .int) (hh := [(0, 5, 6, 13)]) (by decide) rfl (Nat.le_of_ble_eq_true rfl) ?_
  intro p e s m below meth c A ls Q hx hb hml hret hts hown hlk hE hP hK hD hA hl hQ hS hXT htab
  have hown : s.vm.findClass RL = some m.cls := hown
  have hl : lv_has ls 3 [(0, .ref (q 0)), (1, .int p0)] := hl
  refine lv_aload_n hx hb dL_collects_0 rfl (lv_at hl 0 rfl) ?_
  refine lv_iload_n hx hb dL_collects_1 rfl (lv_at hl 1 rfl) ?_
  refine g_callV (As := [.int p0]) (rest := []) hx hb hml hown hts hM gL_collects_X2_collect rfl hrm.1 hrm.2.1 hdX2_collect ⟨Nat.le_trans (Nat.succ_le_succ hrm.2.2.1) (Nat.le_of_ble_eq_true rfl), Nat.le_trans (Nat.add_le_add_left hrm.2.2.2 _) (Nat.le_of_ble_eq_true rfl)⟩ XG_em hE.1.1 hP hK hD hS hA 0 rfl rfl rfl hl.1 rfl (Nat.le_of_ble_eq_true rfl) dL_collects_2 ⟨Nat.zero_le _, Nat.zero_le _⟩ (fun H locs hP hD hS => ?_)
  refine W.eq (g2 := F0 m 5 ls [.int v]) rfl ?_
  exact g_retB (u1 := u') hx hb hret rfl hlk hQ (Nat.le_refl _) (Nat.le_refl _) hP hD hS hS.1 dL_collects_5 rfl rfl
set_option maxHeartbeats 4000000 in
set_option maxRecDepth 100000 in
theorem wr_collects_IOO (l : Launch) (D : va_G) (cI cZ : ClassId) (q : Nat → Nat) {u : SX} {rmc : Room} (p0 : Int32) (hrm : rmc.cells = 1 ∧ rmc.slots = 6 ∧ rmc.frames ≤ 8 ∧ rmc.locals ≤ 200) (hM : gX l yX2_collect wsX2_collect rmc D (tyXZ cI cZ) (XW cI cZ q) XE XT [.ref (q 0), .int p0] u "java/lang/IndexOutOfBoundsException") : gB l yL_collects wsL_collects rmL1 D (tyXZ cI cZ) (XW cI cZ q) LE XT [.ref (q 0), .int p0] u (some (.int (-2000000001))) u 1 6 1 := by
  refine g_startBW (cc := cL_collects) (maxL := 3) (ret := some .int) (hh := [(0, 5, 6, 13)]) (by decide) rfl (Nat.le_of_ble_eq_true rfl) ?_
  intro p e s m below meth c A ls Q hx hb hml hret hts hown hlk hE hP hK hD hA hl hQ hS hXT htab
  have hown : s.vm.findClass RL = some m.cls := hown
  have hl : lv_has ls 3 [(0, .ref (q 0)), (1, .int p0)] := hl
  refine lv_aload_n hx hb dL_collects_0 rfl (lv_at hl 0 rfl) ?_
  refine lv_iload_n hx hb dL_collects_1 rfl (lv_at hl 1 rfl) ?_
  refine g_xVW (As := [.int p0]) (rest := []) hx hb hml hown hts hM gL_collects_X2_collect rfl hrm.1 hrm.2.1 hdX2_collect ⟨Nat.le_trans (Nat.succ_le_succ hrm.2.2.1) (Nat.le_of_ble_eq_true rfl), Nat.le_trans (Nat.add_le_add_left hrm.2.2.2 _) (Nat.le_of_ble_eq_true rfl)⟩ XE_em hE.1 XT_tm hXT hP hK hD hS hA 0 rfl rfl rfl hl.1 rfl (Nat.le_of_ble_eq_true rfl) dL_collects_2 ⟨Nat.le_of_ble_eq_true rfl, Nat.le_of_ble_eq_true rfl⟩ (fun ce q9 H locs hP hD hS1 hz hce hcv hcl => ?_)
  refine vx_catch (own := RL) (name := "java/lang/IndexOutOfBoundsException") hown [] (⟨0, 5, 6, 13⟩ : ExceptionTableEntry) [] htab (fun z hz => by cases hz) (by decide) (by decide) (hts _ (List.mem_of_getElem? (i := 1) (by decide +kernel))) (va_Nw.use rfl (hE.1.1.1 _ (List.mem_of_getElem? (i := 9) rfl))) hce hcv hcl ?_
  refine lv_astore_n (lv' := [(2, .ref q9), (0, .ref (q 0)), (1, .int p0)]) hx hb dL_collects_6 rfl hl (by decide) rfl (fun ls hl => ?_)
  refine lv_ldc (v := (-2000000001)) hx hb hown (hts _ (List.mem_of_getElem? (i := 2) (by decide +kernel))) dL_collects_7 ?_
  exact g_retB (u1 := u) hx hb hret rfl hlk hQ (Nat.le_refl _) (Nat.le_refl _) hP hD hS1 (Nat.le_trans (Nat.succ_le_succ hS.1) hz) dL_collects_9 rfl rfl
theorem hdL_has : yL_has.cls ≠ "java/lang/invoke/MethodHandle" ∧ yL_has.cls ≠ "java/lang/invoke/VarHandle" ∧ (parseMethodDescriptor yL_has.desc).map (fun d => d.parameters.length) = some 3 := by decide +kernel
set_option maxHeartbeats 4000000 in
set_option maxRecDepth 100000 in
theorem wr_has (l : Launch) (D : va_G) (cI cZ : ClassId) (q : Nat → Nat) {u u' : SX} {rmc : Room} (p0 p1 : Int32) {v : Int32} (hrm : rmc.cells = 0 ∧ rmc.slots = 0 ∧ rmc.frames ≤ 8 ∧ rmc.locals ≤ 200) (hM : gM l yX2_has wsX2_has rmc D (tyXZ cI cZ) (XW cI cZ q) XG [.ref (q 0), .int p0, .int p1] u (some (.int v)) u') : gB l yL_has wsL_has rmL0 D (tyXZ cI cZ) (XW cI cZ q) LE XT [.ref (q 0), .int p0, .int p1] u (some (.int (zI v))) u' 0 0 0 := by
  refine g_startBW (cc := cL_has) (maxL := 4) (ret := some .int) (hh := [(0, 14, 15, 13)]) (by decide) rfl (Nat.le_of_ble_eq_true rfl) ?_
  intro p e s m below meth c A ls Q hx hb hml hret hts hown hlk hE hP hK hD hA hl hQ hS hXT htab
  have hown : s.vm.findClass RL = some m.cls := hown
  have hl : lv_has ls 4 [(0, .ref (q 0)), (1, .int p0), (2, .int p1)] := hl
  refine lv_aload_n hx hb dL_has_0 rfl (lv_at hl 0 rfl) ?_
  refine lv_iload_n hx hb dL_has_1 rfl (lv_at hl 1 rfl) ?_
  refine lv_iload_n hx hb dL_has_2 rfl (lv_at hl 2 rfl) ?_
  refine g_callV (As := [.int p0, .int p1]) (rest := []) hx hb hml hown hts hM gL_has_X2_has rfl hrm.1 hrm.2.1 hdX2_has ⟨Nat.le_trans (Nat.succ_le_succ hrm.2.2.1) (Nat.le_of_ble_eq_true rfl), Nat.le_trans (Nat.add_le_add_left hrm.2.2.2 _) (Nat.le_of_ble_eq_true rfl)⟩ XG_em hE.1.1 hP hK hD hS hA 0 rfl rfl rfl hl.1 rfl (Nat.le_of_ble_eq_true rfl) dL_has_3 ⟨Nat.zero_le _, Nat.zero_le _⟩ (fun H locs hP hD hS => ?_)
  refine W.eq (g2 := F0 m 6 ls [.int v]) rfl ?_
  refine lv_if_eq (tgt := 13) hx hb dL_has_6 (by decide) (fun c_1 => ?_) (fun c_1 => ?_)
  · refine lv_iconst (v := 0) hx hb dL_has_13 (by decide +kernel) ?_
    exact g_retB (u1 := u') hx hb hret rfl hlk hQ (Nat.le_refl _) (Nat.le_refl _) hP hD hS hS.1 dL_has_14 (by rw [show zI v = 0 from if_pos c_1]) rfl
  · refine lv_iconst (v := 1) hx hb dL_has_9 (by decide +kernel) ?_
    refine lv_goto (tgt := 14) hx hb dL_has_10 (by decide) ?_
    exact g_retB (u1 := u') hx hb hret rfl hlk hQ (Nat.le_refl _) (Nat.le_refl _) hP hD hS hS.1 dL_has_14 (by rw [show zI v = 1 from if_neg c_1]) rfl
set_option maxHeartbeats 4000000 in
set_option maxRecDepth 100000 in
theorem wr_has_IOO (l : Launch) (D : va_G) (cI cZ : ClassId) (q : Nat → Nat) {u : SX} {rmc : Room} (p0 p1 : Int32) (hrm : rmc.cells = 1 ∧ rmc.slots = 6 ∧ rmc.frames ≤ 8 ∧ rmc.locals ≤ 200) (hM : gX l yX2_has wsX2_has rmc D (tyXZ cI cZ) (XW cI cZ q) XE XT [.ref (q 0), .int p0, .int p1] u "java/lang/IndexOutOfBoundsException") : gB l yL_has wsL_has rmL1 D (tyXZ cI cZ) (XW cI cZ q) LE XT [.ref (q 0), .int p0, .int p1] u (some (.int (-2000000001))) u 1 6 1 := by
  refine g_startBW (cc := cL_has) (maxL := 4) (ret := some .int) (hh := [(0, 14, 15, 13)]) (by decide) rfl (Nat.le_of_ble_eq_true rfl) ?_
  intro p e s m below meth c A ls Q hx hb hml hret hts hown hlk hE hP hK hD hA hl hQ hS hXT htab
  have hown : s.vm.findClass RL = some m.cls := hown
  have hl : lv_has ls 4 [(0, .ref (q 0)), (1, .int p0), (2, .int p1)] := hl
  refine lv_aload_n hx hb dL_has_0 rfl (lv_at hl 0 rfl) ?_
  refine lv_iload_n hx hb dL_has_1 rfl (lv_at hl 1 rfl) ?_
  refine lv_iload_n hx hb dL_has_2 rfl (lv_at hl 2 rfl) ?_
  refine g_xVW (As := [.int p0, .int p1]) (rest := []) hx hb hml hown hts hM gL_has_X2_has rfl hrm.1 hrm.2.1 hdX2_has ⟨Nat.le_trans (Nat.succ_le_succ hrm.2.2.1) (Nat.le_of_ble_eq_true rfl), Nat.le_trans (Nat.add_le_add_left hrm.2.2.2 _) (Nat.le_of_ble_eq_true rfl)⟩ XE_em hE.1 XT_tm hXT hP hK hD hS hA 0 rfl rfl rfl hl.1 rfl (Nat.le_of_ble_eq_true rfl) dL_has_3 ⟨Nat.le_of_ble_eq_true rfl, Nat.le_of_ble_eq_true rfl⟩ (fun ce q9 H locs hP hD hS1 hz hce hcv hcl => ?_)
  refine vx_catch (own := RL) (name := "java/lang/IndexOutOfBoundsException") hown [] (⟨0, 14, 15, 13⟩ : ExceptionTableEntry) [] htab (fun z hz => by cases hz) (by decide) (by decide) (hts _ (List.mem_of_getElem? (i := 1) (by decide +kernel))) (va_Nw.use rfl (hE.1.1.1 _ (List.mem_of_getElem? (i := 9) rfl))) hce hcv hcl ?_
  refine lv_astore_n (lv' := [(3, .ref q9), (0, .ref (q 0)), (1, .int p0), (2, .int p1)]) hx hb dL_has_15 rfl hl (by decide) rfl (fun ls hl => ?_)
  refine lv_ldc (v := (-2000000001)) hx hb hown (hts _ (List.mem_of_getElem? (i := 2) (by decide +kernel))) dL_has_16 ?_
  exact g_retB (u1 := u) hx hb hret rfl hlk hQ (Nat.le_refl _) (Nat.le_refl _) hP hD hS1 (Nat.le_trans (Nat.succ_le_succ hS.1) hz) dL_has_18 rfl rfl
theorem hdL_hasFile : yL_hasFile.cls ≠ "java/lang/invoke/MethodHandle" ∧ yL_hasFile.cls ≠ "java/lang/invoke/VarHandle" ∧ (parseMethodDescriptor yL_hasFile.desc).map (fun d => d.parameters.length) = some 3 := by decide +kernel
set_option maxHeartbeats 4000000 in
set_option maxRecDepth 100000 in
theorem wr_hasFile (l : Launch) (D : va_G) (cI cZ : ClassId) (q : Nat → Nat) {u u' : SX} {rmc : Room} (p0 p1 : Int32) {v : Int32} (hrm : rmc.cells = 0 ∧ rmc.slots = 0 ∧ rmc.frames ≤ 8 ∧ rmc.locals ≤ 200) (hM : gM l yX2_hasFile wsX2_hasFile rmc D (tyXZ cI cZ) (XW cI cZ q) XG [.ref (q 0), .int p0, .int p1] u (some (.int v)) u') : gB l yL_hasFile wsL_hasFile rmL0 D (tyXZ cI cZ) (XW cI cZ q) LE XT [.ref (q 0), .int p0, .int p1] u (some (.int (zI v))) u' 0 0 0 := by
  refine g_startBW (cc := cL_hasFile) (maxL := 4) (ret := some .int) (hh := [(0, 14, 15, 13), (0, 14, 19, 16)]) (by decide) rfl (Nat.le_of_ble_eq_true rfl) ?_
  intro p e s m below meth c A ls Q hx hb hml hret hts hown hlk hE hP hK hD hA hl hQ hS hXT htab
  have hown : s.vm.findClass RL = some m.cls := hown
  have hl : lv_has ls 4 [(0, .ref (q 0)), (1, .int p0), (2, .int p1)] := hl
  refine lv_aload_n hx hb dL_hasFile_0 rfl (lv_at hl 0 rfl) ?_
  refine lv_iload_n hx hb dL_hasFile_1 rfl (lv_at hl 1 rfl) ?_
  refine lv_iload_n hx hb dL_hasFile_2 rfl (lv_at hl 2 rfl) ?_
  refine g_callV (As := [.int p0, .int p1]) (rest := []) hx hb hml hown hts hM gL_hasFile_X2_hasFile rfl hrm.1 hrm.2.1 hdX2_hasFile ⟨Nat.le_trans (Nat.succ_le_succ hrm.2.2.1) (Nat.le_of_ble_eq_true rfl), Nat.le_trans (Nat.add_le_add_left hrm.2.2.2 _) (Nat.le_of_ble_eq_true rfl)⟩ XG_em hE.1.1 hP hK hD hS hA 0 rfl rfl rfl hl.1 rfl (Nat.le_of_ble_eq_true rfl) dL_hasFile_3 ⟨Nat.zero_le _, Nat.zero_le _⟩ (fun H locs hP hD hS => ?_)
  refine W.eq (g2 := F0 m 6 ls [.int v]) rfl ?_
  refine lv_if_eq (tgt := 13) hx hb dL_hasFile_6 (by decide) (fun c_1 => ?_) (fun c_1 => ?_)
  · refine lv_iconst (v := 0) hx hb dL_hasFile_13 (by decide +kernel) ?_
    exact g_retB (u1 := u') hx hb hret rfl hlk hQ (Nat.le_refl _) (Nat.le_refl _) hP hD hS hS.1 dL_hasFile_14 (by rw [show zI v = 0 from if_pos c_1]) rfl
  · refine lv_iconst (v := 1) hx hb dL_hasFile_9 (by decide +kernel) ?_
    refine lv_goto (tgt := 14) hx hb dL_hasFile_10 (by decide) ?_
    exact g_retB (u1 := u') hx hb hret rfl hlk hQ (Nat.le_refl _) (Nat.le_refl _) hP hD hS hS.1 dL_hasFile_14 (by rw [show zI v = 1 from if_neg c_1]) rfl
set_option maxHeartbeats 4000000 in
set_option maxRecDepth 100000 in
theorem wr_hasFile_IOO (l : Launch) (D : va_G) (cI cZ : ClassId) (q : Nat → Nat) {u : SX} {rmc : Room} (p0 p1 : Int32) (hrm : rmc.cells = 1 ∧ rmc.slots = 6 ∧ rmc.frames ≤ 8 ∧ rmc.locals ≤ 200) (hM : gX l yX2_hasFile wsX2_hasFile rmc D (tyXZ cI cZ) (XW cI cZ q) XE XT [.ref (q 0), .int p0, .int p1] u "java/lang/IndexOutOfBoundsException") : gB l yL_hasFile wsL_hasFile rmL1 D (tyXZ cI cZ) (XW cI cZ q) LE XT [.ref (q 0), .int p0, .int p1] u (some (.int (-2000000001))) u 1 6 1 := by
  refine g_startBW (cc := cL_hasFile) (maxL := 4) (ret := some .int) (hh := [(0, 14, 15, 13), (0, 14, 19, 16)]) (by decide) rfl (Nat.le_of_ble_eq_true rfl) ?_
  intro p e s m below meth c A ls Q hx hb hml hret hts hown hlk hE hP hK hD hA hl hQ hS hXT htab
  have hown : s.vm.findClass RL = some m.cls := hown
  have hl : lv_has ls 4 [(0, .ref (q 0)), (1, .int p0), (2, .int p1)] := hl
  refine lv_aload_n hx hb dL_hasFile_0 rfl (lv_at hl 0 rfl) ?_
  refine lv_iload_n hx hb dL_hasFile_1 rfl (lv_at hl 1 rfl) ?_
  refine lv_iload_n hx hb dL_hasFile_2 rfl (lv_at hl 2 rfl) ?_
  refine g_xVW (As := [.int p0, .int p1]) (rest := []) hx hb hml hown hts hM gL_hasFile_X2_hasFile rfl hrm.1 hrm.2.1 hdX2_hasFile ⟨Nat.le_trans (Nat.succ_le_succ hrm.2.2.1) (Nat.le_of_ble_eq_true rfl), Nat.le_trans (Nat.add_le_add_left hrm.2.2.2 _) (Nat.le_of_ble_eq_true rfl)⟩ XE_em hE.1 XT_tm hXT hP hK hD hS hA 0 rfl rfl rfl hl.1 rfl (Nat.le_of_ble_eq_true rfl) dL_hasFile_3 ⟨Nat.le_of_ble_eq_true rfl, Nat.le_of_ble_eq_true rfl⟩ (fun ce q9 H locs hP hD hS1 hz hce hcv hcl => ?_)
  refine vx_catch (own := RL) (name := "java/lang/IndexOutOfBoundsException") hown [] (⟨0, 14, 15, 13⟩ : ExceptionTableEntry) [(⟨0, 14, 19, 16⟩ : ExceptionTableEntry)] htab (fun z hz => by cases hz) (by decide) (by decide) (hts _ (List.mem_of_getElem? (i := 1) (by decide +kernel))) (va_Nw.use rfl (hE.1.1.1 _ (List.mem_of_getElem? (i := 9) rfl))) hce hcv hcl ?_
  refine lv_astore_n (lv' := [(3, .ref q9), (0, .ref (q 0)), (1, .int p0), (2, .int p1)]) hx hb dL_hasFile_15 rfl hl (by decide) rfl (fun ls hl => ?_)
  refine lv_ldc (v := (-2000000001)) hx hb hown (hts _ (List.mem_of_getElem? (i := 3) (by decide +kernel))) dL_hasFile_16 ?_
  exact g_retB (u1 := u) hx hb hret rfl hlk hQ (Nat.le_refl _) (Nat.le_refl _) hP hD hS1 (Nat.le_trans (Nat.succ_le_succ hS.1) hz) dL_hasFile_18 rfl rfl
set_option maxHeartbeats 4000000 in
set_option maxRecDepth 100000 in
theorem wr_hasFile_IAE (l : Launch) (D : va_G) (cI cZ : ClassId) (q : Nat → Nat) {u : SX} {rmc : Room} (p0 p1 : Int32) (hrm : rmc.cells = 1 ∧ rmc.slots = 6 ∧ rmc.frames ≤ 8 ∧ rmc.locals ≤ 200) (hM : gX l yX2_hasFile wsX2_hasFile rmc D (tyXZ cI cZ) (XW cI cZ q) XE XT [.ref (q 0), .int p0, .int p1] u "java/lang/IllegalArgumentException") : gB l yL_hasFile wsL_hasFile rmL1 D (tyXZ cI cZ) (XW cI cZ q) LE XT [.ref (q 0), .int p0, .int p1] u (some (.int (-2000000002))) u 1 6 1 := by
  refine g_startBW (cc := cL_hasFile) (maxL := 4) (ret := some .int) (hh := [(0, 14, 15, 13), (0, 14, 19, 16)]) (by decide) rfl (Nat.le_of_ble_eq_true rfl) ?_
  intro p e s m below meth c A ls Q hx hb hml hret hts hown hlk hE hP hK hD hA hl hQ hS hXT htab
  have hown : s.vm.findClass RL = some m.cls := hown
  have hl : lv_has ls 4 [(0, .ref (q 0)), (1, .int p0), (2, .int p1)] := hl
  refine lv_aload_n hx hb dL_hasFile_0 rfl (lv_at hl 0 rfl) ?_
  refine lv_iload_n hx hb dL_hasFile_1 rfl (lv_at hl 1 rfl) ?_
  refine lv_iload_n hx hb dL_hasFile_2 rfl (lv_at hl 2 rfl) ?_
  refine g_xVW (As := [.int p0, .int p1]) (rest := []) hx hb hml hown hts hM gL_hasFile_X2_hasFile rfl hrm.1 hrm.2.1 hdX2_hasFile ⟨Nat.le_trans (Nat.succ_le_succ hrm.2.2.1) (Nat.le_of_ble_eq_true rfl), Nat.le_trans (Nat.add_le_add_left hrm.2.2.2 _) (Nat.le_of_ble_eq_true rfl)⟩ XE_em hE.1 XT_tm hXT hP hK hD hS hA 0 rfl rfl rfl hl.1 rfl (Nat.le_of_ble_eq_true rfl) dL_hasFile_3 ⟨Nat.le_of_ble_eq_true rfl, Nat.le_of_ble_eq_true rfl⟩ (fun ce q9 H locs hP hD hS1 hz hce hcv hcl => ?_)
  refine vx_catch (own := RL) (name := "java/lang/IllegalArgumentException") hown [(⟨0, 14, 15, 13⟩ : ExceptionTableEntry)] (⟨0, 14, 19, 16⟩ : ExceptionTableEntry) [] htab (List.forall_mem_cons.mpr ⟨Or.inr ⟨by decide, "java/lang/IndexOutOfBoundsException", hts _ (List.mem_of_getElem? (i := 1) (by decide +kernel)), hE.2.1⟩, fun z hz => by cases hz⟩) (by decide) (by decide) (hts _ (List.mem_of_getElem? (i := 2) (by decide +kernel))) (va_Nw.use rfl (hE.1.1.1 _ (List.mem_of_getElem? (i := 10) rfl))) hce hcv hcl ?_
  refine lv_astore_n (lv' := [(3, .ref q9), (0, .ref (q 0)), (1, .int p0), (2, .int p1)]) hx hb dL_hasFile_19 rfl hl (by decide) rfl (fun ls hl => ?_)
  refine lv_ldc (v := (-2000000002)) hx hb hown (hts _ (List.mem_of_getElem? (i := 4) (by decide +kernel))) dL_hasFile_20 ?_
  exact g_retB (u1 := u) hx hb hret rfl hlk hQ (Nat.le_refl _) (Nat.le_refl _) hP hD hS1 (Nat.le_trans (Nat.succ_le_succ hS.1) hz) dL_hasFile_22 rfl rfl
theorem hdL_shallow : yL_shallow.cls ≠ "java/lang/invoke/MethodHandle" ∧ yL_shallow.cls ≠ "java/lang/invoke/VarHandle" ∧ (parseMethodDescriptor yL_shallow.desc).map (fun d => d.parameters.length) = some 2 := by decide +kernel
set_option maxHeartbeats 4000000 in
set_option maxRecDepth 100000 in
theorem wr_shallow (l : Launch) (D : va_G) (cI cZ : ClassId) (q : Nat → Nat) {u u' : SX} {rmc : Room} (p0 : Int32) {v : Int32} (hrm : rmc.cells = 0 ∧ rmc.slots = 0 ∧ rmc.frames ≤ 8 ∧ rmc.locals ≤ 200) (hM : gM l yX2_isShallow wsX2_isShallow rmc D (tyXZ cI cZ) (XW cI cZ q) XG [.ref (q 0), .int p0] u (some (.int v)) u') : gB l yL_shallow wsL_shallow rmL0 D (tyXZ cI cZ) (XW cI cZ q) LE XT [.ref (q 0), .int p0] u (some (.int (zI v))) u' 0 0 0 := by
  refine g_startBW (cc := cL_shallow) (maxL := 3) (ret := some .int) (hh := [(0, 13, 14, 13)]) (by decide) rfl (Nat.le_of_ble_eq_true rfl) ?_
  intro p e s m below meth c A ls Q hx hb hml hret hts hown hlk hE hP hK hD hA hl hQ hS hXT htab
  have hown : s.vm.findClass RL = some m.cls := hown
  have hl : lv_has ls 3 [(0, .ref (q 0)), (1, .int p0)] := hl
  refine lv_aload_n hx hb dL_shallow_0 rfl (lv_at hl 0 rfl) ?_
  refine lv_iload_n hx hb dL_shallow_1 rfl (lv_at hl 1 rfl) ?_
  refine g_callV (As := [.int p0]) (rest := []) hx hb hml hown hts hM gL_shallow_X2_isShallow rfl hrm.1 hrm.2.1 hdX2_isShallow ⟨Nat.le_trans (Nat.succ_le_succ hrm.2.2.1) (Nat.le_of_ble_eq_true rfl), Nat.le_trans (Nat.add_le_add_left hrm.2.2.2 _) (Nat.le_of_ble_eq_true rfl)⟩ XG_em hE.1.1 hP hK hD hS hA 0 rfl rfl rfl hl.1 rfl (Nat.le_of_ble_eq_true rfl) dL_shallow_2 ⟨Nat.zero_le _, Nat.zero_le _⟩ (fun H locs hP hD hS => ?_)
  refine W.eq (g2 := F0 m 5 ls [.int v]) rfl ?_
  refine lv_if_eq (tgt := 12) hx hb dL_shallow_5 (by decide) (fun c_1 => ?_) (fun c_1 => ?_)
  · refine lv_iconst (v := 0) hx hb dL_shallow_12 (by decide +kernel) ?_
    exact g_retB (u1 := u') hx hb hret rfl hlk hQ (Nat.le_refl _) (Nat.le_refl _) hP hD hS hS.1 dL_shallow_13 (by rw [show zI v = 0 from if_pos c_1]) rfl
  · refine lv_iconst (v := 1) hx hb dL_shallow_8 (by decide +kernel) ?_
    refine lv_goto (tgt := 13) hx hb dL_shallow_9 (by decide) ?_
    exact g_retB (u1 := u') hx hb hret rfl hlk hQ (Nat.le_refl _) (Nat.le_refl _) hP hD hS hS.1 dL_shallow_13 (by rw [show zI v = 1 from if_neg c_1]) rfl
set_option maxHeartbeats 4000000 in
set_option maxRecDepth 100000 in
theorem wr_shallow_IOO (l : Launch) (D : va_G) (cI cZ : ClassId) (q : Nat → Nat) {u : SX} {rmc : Room} (p0 : Int32) (hrm : rmc.cells = 1 ∧ rmc.slots = 6 ∧ rmc.frames ≤ 8 ∧ rmc.locals ≤ 200) (hM : gX l yX2_isShallow wsX2_isShallow rmc D (tyXZ cI cZ) (XW cI cZ q) XE XT [.ref (q 0), .int p0] u "java/lang/IndexOutOfBoundsException") : gB l yL_shallow wsL_shallow rmL1 D (tyXZ cI cZ) (XW cI cZ q) LE XT [.ref (q 0), .int p0] u (some (.int (-2000000001))) u 1 6 1 := by
  refine g_startBW (cc := cL_shallow) (maxL := 3) (ret := some .int) (hh := [(0, 13, 14, 13)]) (by decide) rfl (Nat.le_of_ble_eq_true rfl) ?_
  intro p e s m below meth c A ls Q hx hb hml hret hts hown hlk hE hP hK hD hA hl hQ hS hXT htab
  have hown : s.vm.findClass RL = some m.cls := hown
  have hl : lv_has ls 3 [(0, .ref (q 0)), (1, .int p0)] := hl
  refine lv_aload_n hx hb dL_shallow_0 rfl (lv_at hl 0 rfl) ?_
  refine lv_iload_n hx hb dL_shallow_1 rfl (lv_at hl 1 rfl) ?_
  refine g_xVW (As := [.int p0]) (rest := []) hx hb hml hown hts hM gL_shallow_X2_isShallow rfl hrm.1 hrm.2.1 hdX2_isShallow ⟨Nat.le_trans (Nat.succ_le_succ hrm.2.2.1) (Nat.le_of_ble_eq_true rfl), Nat.le_trans (Nat.add_le_add_left hrm.2.2.2 _) (Nat.le_of_ble_eq_true rfl)⟩ XE_em hE.1 XT_tm hXT hP hK hD hS hA 0 rfl rfl rfl hl.1 rfl (Nat.le_of_ble_eq_true rfl) dL_shallow_2 ⟨Nat.le_of_ble_eq_true rfl, Nat.le_of_ble_eq_true rfl⟩ (fun ce q9 H locs hP hD hS1 hz hce hcv hcl => ?_)
  refine vx_catch (own := RL) (name := "java/lang/IndexOutOfBoundsException") hown [] (⟨0, 13, 14, 13⟩ : ExceptionTableEntry) [] htab (fun z hz => by cases hz) (by decide) (by decide) (hts _ (List.mem_of_getElem? (i := 1) (by decide +kernel))) (va_Nw.use rfl (hE.1.1.1 _ (List.mem_of_getElem? (i := 9) rfl))) hce hcv hcl ?_
  refine lv_astore_n (lv' := [(2, .ref q9), (0, .ref (q 0)), (1, .int p0)]) hx hb dL_shallow_14 rfl hl (by decide) rfl (fun ls hl => ?_)
  refine lv_ldc (v := (-2000000001)) hx hb hown (hts _ (List.mem_of_getElem? (i := 2) (by decide +kernel))) dL_shallow_15 ?_
  exact g_retB (u1 := u) hx hb hret rfl hlk hQ (Nat.le_refl _) (Nat.le_refl _) hP hD hS1 (Nat.le_trans (Nat.succ_le_succ hS.1) hz) dL_shallow_17 rfl rfl
theorem hdL_ancestor : yL_ancestor.cls ≠ "java/lang/invoke/MethodHandle" ∧ yL_ancestor.cls ≠ "java/lang/invoke/VarHandle" ∧ (parseMethodDescriptor yL_ancestor.desc).map (fun d => d.parameters.length) = some 4 := by decide +kernel
set_option maxHeartbeats 4000000 in
set_option maxRecDepth 100000 in
theorem wr_ancestor (l : Launch) (D : va_G) (cI cZ : ClassId) (q : Nat → Nat) {u u' : SX} {rmc : Room} (p0 p1 p2 : Int32) {v : Int32} (hrm : rmc.cells = 0 ∧ rmc.slots = 0 ∧ rmc.frames ≤ 8 ∧ rmc.locals ≤ 200) (hM : gM l yX2_isAncestor wsX2_isAncestor rmc D (tyXZ cI cZ) (XW cI cZ q) XG [.ref (q 0), .int p0, .int p1, .int p2] u (some (.int v)) u') : gB l yL_ancestor wsL_ancestor rmL0 D (tyXZ cI cZ) (XW cI cZ q) LE XT [.ref (q 0), .int p0, .int p1, .int p2] u (some (.int (zI v))) u' 0 0 0 := by
  refine g_startBW (cc := cL_ancestor) (maxL := 5) (ret := some .int) (hh := [(0, 15, 16, 13)]) (by decide) rfl (Nat.le_of_ble_eq_true rfl) ?_
  intro p e s m below meth c A ls Q hx hb hml hret hts hown hlk hE hP hK hD hA hl hQ hS hXT htab
  have hown : s.vm.findClass RL = some m.cls := hown
  have hl : lv_has ls 5 [(0, .ref (q 0)), (1, .int p0), (2, .int p1), (3, .int p2)] := hl
  refine lv_aload_n hx hb dL_ancestor_0 rfl (lv_at hl 0 rfl) ?_
  refine lv_iload_n hx hb dL_ancestor_1 rfl (lv_at hl 1 rfl) ?_
  refine lv_iload_n hx hb dL_ancestor_2 rfl (lv_at hl 2 rfl) ?_
  refine lv_iload_n hx hb dL_ancestor_3 rfl (lv_at hl 3 rfl) ?_
  refine g_callV (As := [.int p0, .int p1, .int p2]) (rest := []) hx hb hml hown hts hM gL_ancestor_X2_isAncestor rfl hrm.1 hrm.2.1 hdX2_isAncestor ⟨Nat.le_trans (Nat.succ_le_succ hrm.2.2.1) (Nat.le_of_ble_eq_true rfl), Nat.le_trans (Nat.add_le_add_left hrm.2.2.2 _) (Nat.le_of_ble_eq_true rfl)⟩ XG_em hE.1.1 hP hK hD hS hA 0 rfl rfl rfl hl.1 rfl (Nat.le_of_ble_eq_true rfl) dL_ancestor_4 ⟨Nat.zero_le _, Nat.zero_le _⟩ (fun H locs hP hD hS => ?_)
  refine W.eq (g2 := F0 m 7 ls [.int v]) rfl ?_
  refine lv_if_eq (tgt := 14) hx hb dL_ancestor_7 (by decide) (fun c_1 => ?_) (fun c_1 => ?_)
  · refine lv_iconst (v := 0) hx hb dL_ancestor_14 (by decide +kernel) ?_
    exact g_retB (u1 := u') hx hb hret rfl hlk hQ (Nat.le_refl _) (Nat.le_refl _) hP hD hS hS.1 dL_ancestor_15 (by rw [show zI v = 0 from if_pos c_1]) rfl
  · refine lv_iconst (v := 1) hx hb dL_ancestor_10 (by decide +kernel) ?_
    refine lv_goto (tgt := 15) hx hb dL_ancestor_11 (by decide) ?_
    exact g_retB (u1 := u') hx hb hret rfl hlk hQ (Nat.le_refl _) (Nat.le_refl _) hP hD hS hS.1 dL_ancestor_15 (by rw [show zI v = 1 from if_neg c_1]) rfl
set_option maxHeartbeats 4000000 in
set_option maxRecDepth 100000 in
theorem wr_ancestor_IOO (l : Launch) (D : va_G) (cI cZ : ClassId) (q : Nat → Nat) {u : SX} {rmc : Room} (p0 p1 p2 : Int32) (hrm : rmc.cells = 1 ∧ rmc.slots = 6 ∧ rmc.frames ≤ 8 ∧ rmc.locals ≤ 200) (hM : gX l yX2_isAncestor wsX2_isAncestor rmc D (tyXZ cI cZ) (XW cI cZ q) XE XT [.ref (q 0), .int p0, .int p1, .int p2] u "java/lang/IndexOutOfBoundsException") : gB l yL_ancestor wsL_ancestor rmL1 D (tyXZ cI cZ) (XW cI cZ q) LE XT [.ref (q 0), .int p0, .int p1, .int p2] u (some (.int (-2000000001))) u 1 6 1 := by
  refine g_startBW (cc := cL_ancestor) (maxL := 5) (ret := some .int) (hh := [(0, 15, 16, 13)]) (by decide) rfl (Nat.le_of_ble_eq_true rfl) ?_
  intro p e s m below meth c A ls Q hx hb hml hret hts hown hlk hE hP hK hD hA hl hQ hS hXT htab
  have hown : s.vm.findClass RL = some m.cls := hown
  have hl : lv_has ls 5 [(0, .ref (q 0)), (1, .int p0), (2, .int p1), (3, .int p2)] := hl
  refine lv_aload_n hx hb dL_ancestor_0 rfl (lv_at hl 0 rfl) ?_
  refine lv_iload_n hx hb dL_ancestor_1 rfl (lv_at hl 1 rfl) ?_
  refine lv_iload_n hx hb dL_ancestor_2 rfl (lv_at hl 2 rfl) ?_
  refine lv_iload_n hx hb dL_ancestor_3 rfl (lv_at hl 3 rfl) ?_
  refine g_xVW (As := [.int p0, .int p1, .int p2]) (rest := []) hx hb hml hown hts hM gL_ancestor_X2_isAncestor rfl hrm.1 hrm.2.1 hdX2_isAncestor ⟨Nat.le_trans (Nat.succ_le_succ hrm.2.2.1) (Nat.le_of_ble_eq_true rfl), Nat.le_trans (Nat.add_le_add_left hrm.2.2.2 _) (Nat.le_of_ble_eq_true rfl)⟩ XE_em hE.1 XT_tm hXT hP hK hD hS hA 0 rfl rfl rfl hl.1 rfl (Nat.le_of_ble_eq_true rfl) dL_ancestor_4 ⟨Nat.le_of_ble_eq_true rfl, Nat.le_of_ble_eq_true rfl⟩ (fun ce q9 H locs hP hD hS1 hz hce hcv hcl => ?_)
  refine vx_catch (own := RL) (name := "java/lang/IndexOutOfBoundsException") hown [] (⟨0, 15, 16, 13⟩ : ExceptionTableEntry) [] htab (fun z hz => by cases hz) (by decide) (by decide) (hts _ (List.mem_of_getElem? (i := 1) (by decide +kernel))) (va_Nw.use rfl (hE.1.1.1 _ (List.mem_of_getElem? (i := 9) rfl))) hce hcv hcl ?_
  refine lv_astore (lv' := [(4, .ref q9), (0, .ref (q 0)), (1, .int p0), (2, .int p1), (3, .int p2)]) hx hb dL_ancestor_16 hl (by decide) rfl (fun ls hl => ?_)
  refine lv_ldc (v := (-2000000001)) hx hb hown (hts _ (List.mem_of_getElem? (i := 2) (by decide +kernel))) dL_ancestor_18 ?_
  exact g_retB (u1 := u) hx hb hret rfl hlk hQ (Nat.le_refl _) (Nat.le_refl _) hP hD hS1 (Nat.le_trans (Nat.succ_le_succ hS.1) hz) dL_ancestor_20 rfl rfl
