theorem lkX3_near_50 : Cond.fieldLink RX3 50 "FetchHouseModel" "steps" "[I" ∈ wsX3_near := List.mem_of_getElem? (i := 1) (by decide +kernel)
theorem inX3_near_RX3 : ∀ w ∈ u_ws RX3 TX3 18, w ∈ wsX3_near := fun w h => List.mem_cons_of_mem _ (List.mem_append_right _ h)
abbrev rmX3_near : Room := { frames := 0, cells := 0, slots := 0, locals := 0 }
set_option maxHeartbeats 4000000 in
set_option maxRecDepth 100000 in
theorem ctX3_near (l : Launch) (D : va_G) (cI cZ : ClassId) (q : Nat → Nat) (u : SM) (p0 p1 : Int32) (h : p0 = -1 ∨ ∃ j, j < 60 ∧ p0 = nI j) : gM l yX3_near wsX3_near rmX3_near D [(cI, .int), (cZ, .boolean)] (MW cI cZ q) (fun _ => True) [.ref (q 0), .int p0, .int p1] u none (mS u 13 (mNear (u 13) p0 p1)) := by
  refine g_start (cc := cX3_near) (maxL := 3) (ret := none) (by decide) rfl (Nat.le_of_ble_eq_true rfl) ?_
  intro p e s m below meth c A ls Q hx hb hml hret hts hown hlk hE hP hK hD hA hl hQ hS
  have hown : s.vm.findClass RX3 = some m.cls := hown
  have hl : lv_has ls 3 [(0, .ref (q 0)), (1, .int p0), (2, .int p1)] := hl
  refine lv_iload_n hx hb dX3_near_0 rfl (lv_at hl 1 rfl) ?_
  refine lv_iconst (v := (-1)) hx hb dX3_near_1 (by decide +kernel) ?_
  refine lv_icmp_eq (tgt := 22) hx hb dX3_near_2 (by decide) (fun c_2 => ?_) (fun c_2 => ?_)
  · refine g_vret (u1 := u) hx hb hret hlk hQ hP hD hS dX3_near_22 ?_ ?_
    · exact rfl
    · exact (by rw [show mNear (u 13) p0 p1 = (u 13) from by unfold mNear; rw [if_pos c_2]] <;> exact (MW_ext (by refine ⟨?_, ?_, ?_, ?_, ?_, ?_, ?_, ?_, ?_, ?_, ?_, ?_, ?_, ?_, ?_, ?_, ?_, ?_⟩ <;> simp only [mS_at, ↓reduceIte, Nat.reduceEqDiff] <;> rfl)))
  · obtain ⟨j, hj, hj2⟩ := h.resolve_left c_2
    refine lv_iload_n hx hb dX3_near_5 rfl (lv_at hl 2 rfl) ?_
    refine lv_aload_n hx hb dX3_near_6 rfl (lv_at hl 0 rfl) ?_
    refine va_get (ci := 3) (v := .ref (q 14)) (C := RX3) (T := TX3) (N := 18) hx hb hts inX3_near_RX3 hown hK hP 0 rfl rfl 17 (by decide) (hts _ lkX3_near_50) (fun _ h9 => h9) rfl dX3_near_7 ?_
    refine lv_iload_n hx hb dX3_near_10 rfl (lv_at hl 1 rfl) ?_
    refine g_iald (n := 60) (f := (u 13)) hx hb hK hP 14 0 rfl rfl j (by omega) (by omega) hj2 dX3_near_11 ?_
    refine lv_icmp_ge (tgt := 22) hx hb dX3_near_12 (by decide) (fun c_12 => ?_) (fun c_12 => ?_)
    · refine g_vret (u1 := u) hx hb hret hlk hQ hP hD hS dX3_near_22 ?_ ?_
      · exact rfl
      · exact (by rw [show mNear (u 13) p0 p1 = (u 13) from by unfold mNear; rw [if_neg c_2, hj2, nI_clamp (by omega), if_pos c_12]] <;> exact (MW_ext (by refine ⟨?_, ?_, ?_, ?_, ?_, ?_, ?_, ?_, ?_, ?_, ?_, ?_, ?_, ?_, ?_, ?_, ?_, ?_⟩ <;> simp only [mS_at, ↓reduceIte, Nat.reduceEqDiff] <;> rfl)))
    · refine lv_aload_n hx hb dX3_near_15 rfl (lv_at hl 0 rfl) ?_
      refine va_get (ci := 3) (v := .ref (q 14)) (C := RX3) (T := TX3) (N := 18) hx hb hts inX3_near_RX3 hown hK hP 0 rfl rfl 17 (by decide) (hts _ lkX3_near_50) (fun _ h9 => h9) rfl dX3_near_16 ?_
      refine lv_iload_n hx hb dX3_near_19 rfl (lv_at hl 1 rfl) ?_
      refine lv_iload_n hx hb dX3_near_20 rfl (lv_at hl 2 rfl) ?_
      refine g_iast (n := 60) (f := (u 13)) (u' := (mS u 13 (upd (u 13) j p1))) hx hb hK hP hD hS 14 0 rfl rfl j (by omega) (by omega) hj2 rfl dX3_near_21 (fun H locs hP hD hS => ?_)
      refine g_vret (u1 := (mS u 13 (upd (u 13) j p1))) hx hb hret hlk hQ hP hD hS dX3_near_22 ?_ ?_
      · exact rfl
      · exact (by rw [show mNear (u 13) p0 p1 = (upd (u 13) j p1) from by unfold mNear; rw [if_neg c_2, hj2, nI_clamp (by omega), if_neg c_12]] <;> exact (MW_ext (by refine ⟨?_, ?_, ?_, ?_, ?_, ?_, ?_, ?_, ?_, ?_, ?_, ?_, ?_, ?_, ?_, ?_, ?_, ?_⟩ <;> simp only [mS_at, ↓reduceIte, Nat.reduceEqDiff] <;> rfl)))
