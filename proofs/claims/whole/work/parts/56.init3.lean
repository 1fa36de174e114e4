def uM0 : SM := fun k => match k with | 5 => rF8 | _ => zF
abbrev rmX3_init : Room := { frames := 1, cells := 14, slots := 941, locals := 12 }
set_option maxHeartbeats 4000000 in
set_option maxRecDepth 100000 in
theorem ctX3_init (l : Launch) (D : va_G) (h : Nat) : gIn l yX3_init wsX3_init rmX3_init D (W0X3 h) (fun _ => True) h (fun c => MW c.2.1 c.2.2 (fun k => match k with | 0 => h | k + 1 => c.1 k) uM0) 14 941 := by
  intro sz
  refine Met.ofW (cc := cX3_init) (maxL := 2) (ret := none) (by decide) rfl ?_
  intro p e s m args below meth c s₁ B hml hv
  obtain ⟨rfl, hsz, hE, hP, hK, hD0⟩ := hv
  have hx := B.exec
  have hb := B.bytes
  have hr2 := B.returns
  have hts := atoms_spec (ws := wsX3_init) B.pre
  have hown : s.vm.findClass RX3 = some m.cls := findClass_of_methodNamed B.named
  have hlocks := B.notSynchronized
  have hin : meth.name = "<init>" := (name_of_methodNamed B.named B.method).1
  subst hsz
  have hD := hD0.self (sz := s.heap.size)
  generalize hAe : va_A (W0X3 h) s.heap.size = A at hD ⊢
  have hA : ∀ q : Nat, s.heap.size ≤ q → A q := fun q h => by rw [← hAe]; exact Or.inr h
  have hS : va_S A s.heap s.heap [] := va_S.rf
  have hl := lv_entry ([.ref h]) (n := 2) (Nat.le_of_ble_eq_true rfl)
  rw [lg_entry_eq]
  generalize (lg_sl ([.ref h]) ++ List.replicate (2 - (lg_sl ([.ref h])).length) Slot.unset).toArray = ls at hl ⊢
  have hl : lv_has ls 2 [(0, .ref h)] := hl
  have hP : va_P D vwCl [(h, .inr (3, [.int 0, .int 0, .null, .null, .null, .null, .null, .null, .null, .int 0, .null, .null, .null, .int 0, .null, .null, .null, .null]))] s.heap := hP
  have hD : va_D A [(h, .inr (3, [.int 0, .int 0, .null, .null, .null, .null, .null, .null, .null, .int 0, .null, .null, .null, .int 0, .null, .null, .null, .null]))] := hD
  refine lv_aload_n hx hb dX3_init_0 rfl (lv_at hl 0 rfl) ?_
  refine W.objInit hx hb hown (hts (.methodLink RX3 1 objectInit) (List.mem_of_getElem? (i := 1) (by decide +kernel))) (hts (.instanceMethod objectInit) (List.mem_of_getElem? (i := 2) (by decide +kernel))) (hts _ (List.mem_of_getElem? (i := 3) (by decide +kernel))) rfl (hl.1.trans hml.symm) rfl dX3_init_1 (Nat.le_of_ble_eq_true rfl) (Nat.le_of_ble_eq_true rfl) ?_
  refine W.eq (g2 := F0 m 4 ls []) rfl ?_
  refine lv_aload_n hx hb dX3_init_4 rfl (lv_at hl 0 rfl) ?_
  refine lv_bipush (v := 60) hx hb dX3_init_5 (by decide +kernel) ?_
  refine va_newa (atype := .int) (a0 := (60, .inl zF)) hx hb (hts (.arrayClass .int) (List.mem_of_getElem? (i := 4) (by decide +kernel))) rfl hK hP hD hS hA (fun _ => rfl) (by decide) (N' := 60) (by decide +kernel) (Nat.le_of_ble_eq_true rfl) (Nat.le_of_ble_eq_true rfl) (Nat.le_of_ble_eq_true rfl) dX3_init_7 (fun a0 k0 H hK hP hD hS => ?_)
  have hP : va_P D vwCl [(h, .inr (3, [.int 0, .int 0, .null, .null, .null, .null, .null, .null, .null, .int 0, .null, .null, .null, .int 0, .null, .null, .null, .null])), (a0, .inl (k0, 60, .inl zF))] H := hP
  have hD : va_D A [(h, .inr (3, [.int 0, .int 0, .null, .null, .null, .null, .null, .null, .null, .int 0, .null, .null, .null, .int 0, .null, .null, .null, .null])), (a0, .inl (k0, 60, .inl zF))] := hD
  have hK : va_K D vwCl [(k0, .int)] s := hK
  refine W.widen (k := 1) (n := 60) (by omega) (by omega) ?_
  refine va_putF (ci := 3) (v := .ref a0) (ty := .array .int) (C := RX3) (T := TX3) (N := 18) hx hb hts (fun w h => List.mem_cons_of_mem _ (List.mem_append_right _ h)) tyX3 tyX3_ok nmX3 hown hK hP hD hS 0 rfl rfl 2 (by decide) (hts _ (List.mem_of_getElem? (i := 5) (by decide +kernel))) (fun _ h9 => h9) rfl hin rfl (by decide +kernel) rfl rfl (Nat.le_of_ble_eq_true rfl) dX3_init_9 (fun H locs hP hD hS => ?_)
  have hP : va_P D vwCl [(h, .inr (3, [.int 0, .int 0, .ref a0, .null, .null, .null, .null, .null, .null, .int 0, .null, .null, .null, .int 0, .null, .null, .null, .null])), (a0, .inl (k0, 60, .inl zF))] H := hP
  have hD : va_D A [(h, .inr (3, [.int 0, .int 0, .ref a0, .null, .null, .null, .null, .null, .null, .int 0, .null, .null, .null, .int 0, .null, .null, .null, .null])), (a0, .inl (k0, 60, .inl zF))] := hD
  have hK : va_K D vwCl [(k0, .int)] s := hK
  refine lv_aload_n hx hb dX3_init_12 rfl (lv_at hl 0 rfl) ?_
  refine lv_bipush (v := 60) hx hb dX3_init_13 (by decide +kernel) ?_
  refine va_newa (atype := .int) (a0 := (60, .inl zF)) hx hb (hts (.arrayClass .int) (List.mem_of_getElem? (i := 4) (by decide +kernel))) rfl hK hP hD hS hA (fun _ => rfl) (by decide) (N' := 60) (by decide +kernel) (Nat.le_of_ble_eq_true rfl) (Nat.le_of_ble_eq_true rfl) (Nat.le_of_ble_eq_true rfl) dX3_init_15 (fun a1 k1 H hK hP hD hS => ?_)
  rw [show k1 = k0 from g_raI hK 0 1 rfl rfl] at hP hD
  have hK := hK.sub (tys' := [(k0, .int)]) [0] rfl
  have hP : va_P D vwCl [(h, .inr (3, [.int 0, .int 0, .ref a0, .null, .null, .null, .null, .null, .null, .int 0, .null, .null, .null, .int 0, .null, .null, .null, .null])), (a0, .inl (k0, 60, .inl zF)), (a1, .inl (k0, 60, .inl zF))] H := hP
  have hD : va_D A [(h, .inr (3, [.int 0, .int 0, .ref a0, .null, .null, .null, .null, .null, .null, .int 0, .null, .null, .null, .int 0, .null, .null, .null, .null])), (a0, .inl (k0, 60, .inl zF)), (a1, .inl (k0, 60, .inl zF))] := hD
  have hK : va_K D vwCl [(k0, .int)] s := hK
  refine W.widen (k := 2) (n := 120) (by omega) (by omega) ?_
  refine va_putF (ci := 3) (v := .ref a1) (ty := .array .int) (C := RX3) (T := TX3) (N := 18) hx hb hts (fun w h => List.mem_cons_of_mem _ (List.mem_append_right _ h)) tyX3 tyX3_ok nmX3 hown hK hP hD hS 0 rfl rfl 3 (by decide) (hts _ (List.mem_of_getElem? (i := 6) (by decide +kernel))) (fun _ h9 => h9) rfl hin rfl (by decide +kernel) rfl rfl (Nat.le_of_ble_eq_true rfl) dX3_init_17 (fun H locs hP hD hS => ?_)
  have hP : va_P D vwCl [(h, .inr (3, [.int 0, .int 0, .ref a0, .ref a1, .null, .null, .null, .null, .null, .int 0, .null, .null, .null, .int 0, .null, .null, .null, .null])), (a0, .inl (k0, 60, .inl zF)), (a1, .inl (k0, 60, .inl zF))] H := hP
  have hD : va_D A [(h, .inr (3, [.int 0, .int 0, .ref a0, .ref a1, .null, .null, .null, .null, .null, .int 0, .null, .null, .null, .int 0, .null, .null, .null, .null])), (a0, .inl (k0, 60, .inl zF)), (a1, .inl (k0, 60, .inl zF))] := hD
  have hK : va_K D vwCl [(k0, .int)] s := hK
  refine lv_aload_n hx hb dX3_init_20 rfl (lv_at hl 0 rfl) ?_
  refine lv_sipush (v := 240) hx hb dX3_init_21 (by decide +kernel) ?_
  refine va_newa (atype := .int) (a0 := (240, .inl zF)) hx hb (hts (.arrayClass .int) (List.mem_of_getElem? (i := 4) (by decide +kernel))) rfl hK hP hD hS hA (fun _ => rfl) (by decide) (N' := 240) (by decide +kernel) (Nat.le_of_ble_eq_true rfl) (Nat.le_of_ble_eq_true rfl) (Nat.le_of_ble_eq_true rfl) dX3_init_24 (fun a2 k2 H hK hP hD hS => ?_)
  rw [show k2 = k0 from g_raI hK 0 1 rfl rfl] at hP hD
  have hK := hK.sub (tys' := [(k0, .int)]) [0] rfl
  have hP : va_P D vwCl [(h, .inr (3, [.int 0, .int 0, .ref a0, .ref a1, .null, .null, .null, .null, .null, .int 0, .null, .null, .null, .int 0, .null, .null, .null, .null])), (a0, .inl (k0, 60, .inl zF)), (a1, .inl (k0, 60, .inl zF)), (a2, .inl (k0, 240, .inl zF))] H := hP
  have hD : va_D A [(h, .inr (3, [.int 0, .int 0, .ref a0, .ref a1, .null, .null, .null, .null, .null, .int 0, .null, .null, .null, .int 0, .null, .null, .null, .null])), (a0, .inl (k0, 60, .inl zF)), (a1, .inl (k0, 60, .inl zF)), (a2, .inl (k0, 240, .inl zF))] := hD
  have hK : va_K D vwCl [(k0, .int)] s := hK
  refine W.widen (k := 3) (n := 360) (by omega) (by omega) ?_
  refine va_putF (ci := 3) (v := .ref a2) (ty := .array .int) (C := RX3) (T := TX3) (N := 18) hx hb hts (fun w h => List.mem_cons_of_mem _ (List.mem_append_right _ h)) tyX3 tyX3_ok nmX3 hown hK hP hD hS 0 rfl rfl 4 (by decide) (hts _ (List.mem_of_getElem? (i := 7) (by decide +kernel))) (fun _ h9 => h9) rfl hin rfl (by decide +kernel) rfl rfl (Nat.le_of_ble_eq_true rfl) dX3_init_26 (fun H locs hP hD hS => ?_)
  have hP : va_P D vwCl [(h, .inr (3, [.int 0, .int 0, .ref a0, .ref a1, .ref a2, .null, .null, .null, .null, .int 0, .null, .null, .null, .int 0, .null, .null, .null, .null])), (a0, .inl (k0, 60, .inl zF)), (a1, .inl (k0, 60, .inl zF)), (a2, .inl (k0, 240, .inl zF))] H := hP
  have hD : va_D A [(h, .inr (3, [.int 0, .int 0, .ref a0, .ref a1, .ref a2, .null, .null, .null, .null, .int 0, .null, .null, .null, .int 0, .null, .null, .null, .null])), (a0, .inl (k0, 60, .inl zF)), (a1, .inl (k0, 60, .inl zF)), (a2, .inl (k0, 240, .inl zF))] := hD
  have hK : va_K D vwCl [(k0, .int)] s := hK
  refine lv_aload_n hx hb dX3_init_29 rfl (lv_at hl 0 rfl) ?_
  refine lv_bipush (v := 120) hx hb dX3_init_30 (by decide +kernel) ?_
  refine va_newa (atype := .boolean) (a0 := (120, .inl zF)) hx hb (hts (.arrayClass .boolean) (List.mem_of_getElem? (i := 8) (by decide +kernel))) rfl hK hP hD hS hA (fun _ => rfl) (by decide) (N' := 120) (by decide +kernel) (Nat.le_of_ble_eq_true rfl) (Nat.le_of_ble_eq_true rfl) (Nat.le_of_ble_eq_true rfl) dX3_init_32 (fun a3 k3 H hK hP hD hS => ?_)
  have hP : va_P D vwCl [(h, .inr (3, [.int 0, .int 0, .ref a0, .ref a1, .ref a2, .null, .null, .null, .null, .int 0, .null, .null, .null, .int 0, .null, .null, .null, .null])), (a0, .inl (k0, 60, .inl zF)), (a1, .inl (k0, 60, .inl zF)), (a2, .inl (k0, 240, .inl zF)), (a3, .inl (k3, 120, .inl zF))] H := hP
  have hD : va_D A [(h, .inr (3, [.int 0, .int 0, .ref a0, .ref a1, .ref a2, .null, .null, .null, .null, .int 0, .null, .null, .null, .int 0, .null, .null, .null, .null])), (a0, .inl (k0, 60, .inl zF)), (a1, .inl (k0, 60, .inl zF)), (a2, .inl (k0, 240, .inl zF)), (a3, .inl (k3, 120, .inl zF))] := hD
  have hK : va_K D vwCl [(k0, .int), (k3, .boolean)] s := hK
  refine W.widen (k := 4) (n := 480) (by omega) (by omega) ?_
  refine va_putF (ci := 3) (v := .ref a3) (ty := .array .boolean) (C := RX3) (T := TX3) (N := 18) hx hb hts (fun w h => List.mem_cons_of_mem _ (List.mem_append_right _ h)) tyX3 tyX3_ok nmX3 hown hK hP hD hS 0 rfl rfl 5 (by decide) (hts _ (List.mem_of_getElem? (i := 9) (by decide +kernel))) (fun _ h9 => h9) rfl hin rfl (by decide +kernel) rfl rfl (Nat.le_of_ble_eq_true rfl) dX3_init_34 (fun H locs hP hD hS => ?_)
  have hP : va_P D vwCl [(h, .inr (3, [.int 0, .int 0, .ref a0, .ref a1, .ref a2, .ref a3, .null, .null, .null, .int 0, .null, .null, .null, .int 0, .null, .null, .null, .null])), (a0, .inl (k0, 60, .inl zF)), (a1, .inl (k0, 60, .inl zF)), (a2, .inl (k0, 240, .inl zF)), (a3, .inl (k3, 120, .inl zF))] H := hP
  have hD : va_D A [(h, .inr (3, [.int 0, .int 0, .ref a0, .ref a1, .ref a2, .ref a3, .null, .null, .null, .int 0, .null, .null, .null, .int 0, .null, .null, .null, .null])), (a0, .inl (k0, 60, .inl zF)), (a1, .inl (k0, 60, .inl zF)), (a2, .inl (k0, 240, .inl zF)), (a3, .inl (k3, 120, .inl zF))] := hD
  have hK : va_K D vwCl [(k0, .int), (k3, .boolean)] s := hK
  refine lv_aload_n hx hb dX3_init_37 rfl (lv_at hl 0 rfl) ?_
  refine lv_sipush (v := 200) hx hb dX3_init_38 (by decide +kernel) ?_
  refine va_newa (atype := .boolean) (a0 := (200, .inl zF)) hx hb (hts (.arrayClass .boolean) (List.mem_of_getElem? (i := 8) (by decide +kernel))) rfl hK hP hD hS hA (fun _ => rfl) (by decide) (N' := 200) (by decide +kernel) (Nat.le_of_ble_eq_true rfl) (Nat.le_of_ble_eq_true rfl) (Nat.le_of_ble_eq_true rfl) dX3_init_41 (fun a4 k4 H hK hP hD hS => ?_)
  rw [show k4 = k3 from g_raZ hK 1 2 rfl rfl] at hP hD
  have hK := hK.sub (tys' := [(k0, .int), (k3, .boolean)]) [0, 1] rfl
  have hP : va_P D vwCl [(h, .inr (3, [.int 0, .int 0, .ref a0, .ref a1, .ref a2, .ref a3, .null, .null, .null, .int 0, .null, .null, .null, .int 0, .null, .null, .null, .null])), (a0, .inl (k0, 60, .inl zF)), (a1, .inl (k0, 60, .inl zF)), (a2, .inl (k0, 240, .inl zF)), (a3, .inl (k3, 120, .inl zF)), (a4, .inl (k3, 200, .inl zF))] H := hP
  have hD : va_D A [(h, .inr (3, [.int 0, .int 0, .ref a0, .ref a1, .ref a2, .ref a3, .null, .null, .null, .int 0, .null, .null, .null, .int 0, .null, .null, .null, .null])), (a0, .inl (k0, 60, .inl zF)), (a1, .inl (k0, 60, .inl zF)), (a2, .inl (k0, 240, .inl zF)), (a3, .inl (k3, 120, .inl zF)), (a4, .inl (k3, 200, .inl zF))] := hD
  have hK : va_K D vwCl [(k0, .int), (k3, .boolean)] s := hK
  refine W.widen (k := 5) (n := 680) (by omega) (by omega) ?_
  refine va_putF (ci := 3) (v := .ref a4) (ty := .array .boolean) (C := RX3) (T := TX3) (N := 18) hx hb hts (fun w h => List.mem_cons_of_mem _ (List.mem_append_right _ h)) tyX3 tyX3_ok nmX3 hown hK hP hD hS 0 rfl rfl 6 (by decide) (hts _ (List.mem_of_getElem? (i := 10) (by decide +kernel))) (fun _ h9 => h9) rfl hin rfl (by decide +kernel) rfl rfl (Nat.le_of_ble_eq_true rfl) dX3_init_43 (fun H locs hP hD hS => ?_)
  have hP : va_P D vwCl [(h, .inr (3, [.int 0, .int 0, .ref a0, .ref a1, .ref a2, .ref a3, .ref a4, .null, .null, .int 0, .null, .null, .null, .int 0, .null, .null, .null, .null])), (a0, .inl (k0, 60, .inl zF)), (a1, .inl (k0, 60, .inl zF)), (a2, .inl (k0, 240, .inl zF)), (a3, .inl (k3, 120, .inl zF)), (a4, .inl (k3, 200, .inl zF))] H := hP
  have hD : va_D A [(h, .inr (3, [.int 0, .int 0, .ref a0, .ref a1, .ref a2, .ref a3, .ref a4, .null, .null, .int 0, .null, .null, .null, .int 0, .null, .null, .null, .null])), (a0, .inl (k0, 60, .inl zF)), (a1, .inl (k0, 60, .inl zF)), (a2, .inl (k0, 240, .inl zF)), (a3, .inl (k3, 120, .inl zF)), (a4, .inl (k3, 200, .inl zF))] := hD
  have hK : va_K D vwCl [(k0, .int), (k3, .boolean)] s := hK
  refine lv_aload_n hx hb dX3_init_46 rfl (lv_at hl 0 rfl) ?_
  refine lv_bipush (v := 8) hx hb dX3_init_47 (by decide +kernel) ?_
  refine va_newa (atype := .int) (a0 := (8, .inl zF)) hx hb (hts (.arrayClass .int) (List.mem_of_getElem? (i := 4) (by decide +kernel))) rfl hK hP hD hS hA (fun _ => rfl) (by decide) (N' := 8) (by decide +kernel) (Nat.le_of_ble_eq_true rfl) (Nat.le_of_ble_eq_true rfl) (Nat.le_of_ble_eq_true rfl) dX3_init_49 (fun a5 k5 H hK hP hD hS => ?_)
  rw [show k5 = k0 from g_raI hK 0 2 rfl rfl] at hP hD
  have hK := hK.sub (tys' := [(k0, .int), (k3, .boolean)]) [0, 1] rfl
  have hP : va_P D vwCl [(h, .inr (3, [.int 0, .int 0, .ref a0, .ref a1, .ref a2, .ref a3, .ref a4, .null, .null, .int 0, .null, .null, .null, .int 0, .null, .null, .null, .null])), (a0, .inl (k0, 60, .inl zF)), (a1, .inl (k0, 60, .inl zF)), (a2, .inl (k0, 240, .inl zF)), (a3, .inl (k3, 120, .inl zF)), (a4, .inl (k3, 200, .inl zF)), (a5, .inl (k0, 8, .inl zF))] H := hP
  have hD : va_D A [(h, .inr (3, [.int 0, .int 0, .ref a0, .ref a1, .ref a2, .ref a3, .ref a4, .null, .null, .int 0, .null, .null, .null, .int 0, .null, .null, .null, .null])), (a0, .inl (k0, 60, .inl zF)), (a1, .inl (k0, 60, .inl zF)), (a2, .inl (k0, 240, .inl zF)), (a3, .inl (k3, 120, .inl zF)), (a4, .inl (k3, 200, .inl zF)), (a5, .inl (k0, 8, .inl zF))] := hD
  have hK : va_K D vwCl [(k0, .int), (k3, .boolean)] s := hK
  refine W.widen (k := 6) (n := 688) (by omega) (by omega) ?_
  refine va_putF (ci := 3) (v := .ref a5) (ty := .array .int) (C := RX3) (T := TX3) (N := 18) hx hb hts (fun w h => List.mem_cons_of_mem _ (List.mem_append_right _ h)) tyX3 tyX3_ok nmX3 hown hK hP hD hS 0 rfl rfl 7 (by decide) (hts _ (List.mem_of_getElem? (i := 11) (by decide +kernel))) (fun _ h9 => h9) rfl hin rfl (by decide +kernel) rfl rfl (Nat.le_of_ble_eq_true rfl) dX3_init_51 (fun H locs hP hD hS => ?_)
  have hP : va_P D vwCl [(h, .inr (3, [.int 0, .int 0, .ref a0, .ref a1, .ref a2, .ref a3, .ref a4, .ref a5, .null, .int 0, .null, .null, .null, .int 0, .null, .null, .null, .null])), (a0, .inl (k0, 60, .inl zF)), (a1, .inl (k0, 60, .inl zF)), (a2, .inl (k0, 240, .inl zF)), (a3, .inl (k3, 120, .inl zF)), (a4, .inl (k3, 200, .inl zF)), (a5, .inl (k0, 8, .inl zF))] H := hP
  have hD : va_D A [(h, .inr (3, [.int 0, .int 0, .ref a0, .ref a1, .ref a2, .ref a3, .ref a4, .ref a5, .null, .int 0, .null, .null, .null, .int 0, .null, .null, .null, .null])), (a0, .inl (k0, 60, .inl zF)), (a1, .inl (k0, 60, .inl zF)), (a2, .inl (k0, 240, .inl zF)), (a3, .inl (k3, 120, .inl zF)), (a4, .inl (k3, 200, .inl zF)), (a5, .inl (k0, 8, .inl zF))] := hD
  have hK : va_K D vwCl [(k0, .int), (k3, .boolean)] s := hK
  refine lv_aload_n hx hb dX3_init_54 rfl (lv_at hl 0 rfl) ?_
  refine lv_iconst (v := 4) hx hb dX3_init_55 (by decide +kernel) ?_
  refine va_newa (atype := .boolean) (a0 := (4, .inl zF)) hx hb (hts (.arrayClass .boolean) (List.mem_of_getElem? (i := 8) (by decide +kernel))) rfl hK hP hD hS hA (fun _ => rfl) (by decide) (N' := 4) (by decide +kernel) (Nat.le_of_ble_eq_true rfl) (Nat.le_of_ble_eq_true rfl) (Nat.le_of_ble_eq_true rfl) dX3_init_56 (fun a6 k6 H hK hP hD hS => ?_)
  rw [show k6 = k3 from g_raZ hK 1 2 rfl rfl] at hP hD
  have hK := hK.sub (tys' := [(k0, .int), (k3, .boolean)]) [0, 1] rfl
  have hP : va_P D vwCl [(h, .inr (3, [.int 0, .int 0, .ref a0, .ref a1, .ref a2, .ref a3, .ref a4, .ref a5, .null, .int 0, .null, .null, .null, .int 0, .null, .null, .null, .null])), (a0, .inl (k0, 60, .inl zF)), (a1, .inl (k0, 60, .inl zF)), (a2, .inl (k0, 240, .inl zF)), (a3, .inl (k3, 120, .inl zF)), (a4, .inl (k3, 200, .inl zF)), (a5, .inl (k0, 8, .inl zF)), (a6, .inl (k3, 4, .inl zF))] H := hP
  have hD : va_D A [(h, .inr (3, [.int 0, .int 0, .ref a0, .ref a1, .ref a2, .ref a3, .ref a4, .ref a5, .null, .int 0, .null, .null, .null, .int 0, .null, .null, .null, .null])), (a0, .inl (k0, 60, .inl zF)), (a1, .inl (k0, 60, .inl zF)), (a2, .inl (k0, 240, .inl zF)), (a3, .inl (k3, 120, .inl zF)), (a4, .inl (k3, 200, .inl zF)), (a5, .inl (k0, 8, .inl zF)), (a6, .inl (k3, 4, .inl zF))] := hD
  have hK : va_K D vwCl [(k0, .int), (k3, .boolean)] s := hK
  refine W.widen (k := 7) (n := 692) (by omega) (by omega) ?_
  refine va_putF (ci := 3) (v := .ref a6) (ty := .array .boolean) (C := RX3) (T := TX3) (N := 18) hx hb hts (fun w h => List.mem_cons_of_mem _ (List.mem_append_right _ h)) tyX3 tyX3_ok nmX3 hown hK hP hD hS 0 rfl rfl 8 (by decide) (hts _ (List.mem_of_getElem? (i := 12) (by decide +kernel))) (fun _ h9 => h9) rfl hin rfl (by decide +kernel) rfl rfl (Nat.le_of_ble_eq_true rfl) dX3_init_58 (fun H locs hP hD hS => ?_)
  have hP : va_P D vwCl [(h, .inr (3, [.int 0, .int 0, .ref a0, .ref a1, .ref a2, .ref a3, .ref a4, .ref a5, .ref a6, .int 0, .null, .null, .null, .int 0, .null, .null, .null, .null])), (a0, .inl (k0, 60, .inl zF)), (a1, .inl (k0, 60, .inl zF)), (a2, .inl (k0, 240, .inl zF)), (a3, .inl (k3, 120, .inl zF)), (a4, .inl (k3, 200, .inl zF)), (a5, .inl (k0, 8, .inl zF)), (a6, .inl (k3, 4, .inl zF))] H := hP
  have hD : va_D A [(h, .inr (3, [.int 0, .int 0, .ref a0, .ref a1, .ref a2, .ref a3, .ref a4, .ref a5, .ref a6, .int 0, .null, .null, .null, .int 0, .null, .null, .null, .null])), (a0, .inl (k0, 60, .inl zF)), (a1, .inl (k0, 60, .inl zF)), (a2, .inl (k0, 240, .inl zF)), (a3, .inl (k3, 120, .inl zF)), (a4, .inl (k3, 200, .inl zF)), (a5, .inl (k0, 8, .inl zF)), (a6, .inl (k3, 4, .inl zF))] := hD
  have hK : va_K D vwCl [(k0, .int), (k3, .boolean)] s := hK
  refine lv_aload_n hx hb dX3_init_61 rfl (lv_at hl 0 rfl) ?_
  refine lv_iconst (v := 3) hx hb dX3_init_62 (by decide +kernel) ?_
  refine va_newa (atype := .int) (a0 := (3, .inl zF)) hx hb (hts (.arrayClass .int) (List.mem_of_getElem? (i := 4) (by decide +kernel))) rfl hK hP hD hS hA (fun _ => rfl) (by decide) (N' := 3) (by decide +kernel) (Nat.le_of_ble_eq_true rfl) (Nat.le_of_ble_eq_true rfl) (Nat.le_of_ble_eq_true rfl) dX3_init_63 (fun a7 k7 H hK hP hD hS => ?_)
  rw [show k7 = k0 from g_raI hK 0 2 rfl rfl] at hP hD
  have hK := hK.sub (tys' := [(k0, .int), (k3, .boolean)]) [0, 1] rfl
  have hP : va_P D vwCl [(h, .inr (3, [.int 0, .int 0, .ref a0, .ref a1, .ref a2, .ref a3, .ref a4, .ref a5, .ref a6, .int 0, .null, .null, .null, .int 0, .null, .null, .null, .null])), (a0, .inl (k0, 60, .inl zF)), (a1, .inl (k0, 60, .inl zF)), (a2, .inl (k0, 240, .inl zF)), (a3, .inl (k3, 120, .inl zF)), (a4, .inl (k3, 200, .inl zF)), (a5, .inl (k0, 8, .inl zF)), (a6, .inl (k3, 4, .inl zF)), (a7, .inl (k0, 3, .inl zF))] H := hP
  have hD : va_D A [(h, .inr (3, [.int 0, .int 0, .ref a0, .ref a1, .ref a2, .ref a3, .ref a4, .ref a5, .ref a6, .int 0, .null, .null, .null, .int 0, .null, .null, .null, .null])), (a0, .inl (k0, 60, .inl zF)), (a1, .inl (k0, 60, .inl zF)), (a2, .inl (k0, 240, .inl zF)), (a3, .inl (k3, 120, .inl zF)), (a4, .inl (k3, 200, .inl zF)), (a5, .inl (k0, 8, .inl zF)), (a6, .inl (k3, 4, .inl zF)), (a7, .inl (k0, 3, .inl zF))] := hD
  have hK : va_K D vwCl [(k0, .int), (k3, .boolean)] s := hK
  refine W.widen (k := 8) (n := 695) (by omega) (by omega) ?_
  refine va_putF (ci := 3) (v := .ref a7) (ty := .array .int) (C := RX3) (T := TX3) (N := 18) hx hb hts (fun w h => List.mem_cons_of_mem _ (List.mem_append_right _ h)) tyX3 tyX3_ok nmX3 hown hK hP hD hS 0 rfl rfl 10 (by decide) (hts _ (List.mem_of_getElem? (i := 13) (by decide +kernel))) (fun _ h9 => h9) rfl hin rfl (by decide +kernel) rfl rfl (Nat.le_of_ble_eq_true rfl) dX3_init_65 (fun H locs hP hD hS => ?_)
  have hP : va_P D vwCl [(h, .inr (3, [.int 0, .int 0, .ref a0, .ref a1, .ref a2, .ref a3, .ref a4, .ref a5, .ref a6, .int 0, .ref a7, .null, .null, .int 0, .null, .null, .null, .null])), (a0, .inl (k0, 60, .inl zF)), (a1, .inl (k0, 60, .inl zF)), (a2, .inl (k0, 240, .inl zF)), (a3, .inl (k3, 120, .inl zF)), (a4, .inl (k3, 200, .inl zF)), (a5, .inl (k0, 8, .inl zF)), (a6, .inl (k3, 4, .inl zF)), (a7, .inl (k0, 3, .inl zF))] H := hP
  have hD : va_D A [(h, .inr (3, [.int 0, .int 0, .ref a0, .ref a1, .ref a2, .ref a3, .ref a4, .ref a5, .ref a6, .int 0, .ref a7, .null, .null, .int 0, .null, .null, .null, .null])), (a0, .inl (k0, 60, .inl zF)), (a1, .inl (k0, 60, .inl zF)), (a2, .inl (k0, 240, .inl zF)), (a3, .inl (k3, 120, .inl zF)), (a4, .inl (k3, 200, .inl zF)), (a5, .inl (k0, 8, .inl zF)), (a6, .inl (k3, 4, .inl zF)), (a7, .inl (k0, 3, .inl zF))] := hD
  have hK : va_K D vwCl [(k0, .int), (k3, .boolean)] s := hK
  refine lv_aload_n hx hb dX3_init_68 rfl (lv_at hl 0 rfl) ?_
  refine lv_iconst (v := 3) hx hb dX3_init_69 (by decide +kernel) ?_
  refine va_newa (atype := .int) (a0 := (3, .inl zF)) hx hb (hts (.arrayClass .int) (List.mem_of_getElem? (i := 4) (by decide +kernel))) rfl hK hP hD hS hA (fun _ => rfl) (by decide) (N' := 3) (by decide +kernel) (Nat.le_of_ble_eq_true rfl) (Nat.le_of_ble_eq_true rfl) (Nat.le_of_ble_eq_true rfl) dX3_init_70 (fun a8 k8 H hK hP hD hS => ?_)
  rw [show k8 = k0 from g_raI hK 0 2 rfl rfl] at hP hD
  have hK := hK.sub (tys' := [(k0, .int), (k3, .boolean)]) [0, 1] rfl
  have hP : va_P D vwCl [(h, .inr (3, [.int 0, .int 0, .ref a0, .ref a1, .ref a2, .ref a3, .ref a4, .ref a5, .ref a6, .int 0, .ref a7, .null, .null, .int 0, .null, .null, .null, .null])), (a0, .inl (k0, 60, .inl zF)), (a1, .inl (k0, 60, .inl zF)), (a2, .inl (k0, 240, .inl zF)), (a3, .inl (k3, 120, .inl zF)), (a4, .inl (k3, 200, .inl zF)), (a5, .inl (k0, 8, .inl zF)), (a6, .inl (k3, 4, .inl zF)), (a7, .inl (k0, 3, .inl zF)), (a8, .inl (k0, 3, .inl zF))] H := hP
  have hD : va_D A [(h, .inr (3, [.int 0, .int 0, .ref a0, .ref a1, .ref a2, .ref a3, .ref a4, .ref a5, .ref a6, .int 0, .ref a7, .null, .null, .int 0, .null, .null, .null, .null])), (a0, .inl (k0, 60, .inl zF)), (a1, .inl (k0, 60, .inl zF)), (a2, .inl (k0, 240, .inl zF)), (a3, .inl (k3, 120, .inl zF)), (a4, .inl (k3, 200, .inl zF)), (a5, .inl (k0, 8, .inl zF)), (a6, .inl (k3, 4, .inl zF)), (a7, .inl (k0, 3, .inl zF)), (a8, .inl (k0, 3, .inl zF))] := hD
  have hK : va_K D vwCl [(k0, .int), (k3, .boolean)] s := hK
  refine W.widen (k := 9) (n := 698) (by omega) (by omega) ?_
  refine va_putF (ci := 3) (v := .ref a8) (ty := .array .int) (C := RX3) (T := TX3) (N := 18) hx hb hts (fun w h => List.mem_cons_of_mem _ (List.mem_append_right _ h)) tyX3 tyX3_ok nmX3 hown hK hP hD hS 0 rfl rfl 11 (by decide) (hts _ (List.mem_of_getElem? (i := 14) (by decide +kernel))) (fun _ h9 => h9) rfl hin rfl (by decide +kernel) rfl rfl (Nat.le_of_ble_eq_true rfl) dX3_init_72 (fun H locs hP hD hS => ?_)
  have hP : va_P D vwCl [(h, .inr (3, [.int 0, .int 0, .ref a0, .ref a1, .ref a2, .ref a3, .ref a4, .ref a5, .ref a6, .int 0, .ref a7, .ref a8, .null, .int 0, .null, .null, .null, .null])), (a0, .inl (k0, 60, .inl zF)), (a1, .inl (k0, 60, .inl zF)), (a2, .inl (k0, 240, .inl zF)), (a3, .inl (k3, 120, .inl zF)), (a4, .inl (k3, 200, .inl zF)), (a5, .inl (k0, 8, .inl zF)), (a6, .inl (k3, 4, .inl zF)), (a7, .inl (k0, 3, .inl zF)), (a8, .inl (k0, 3, .inl zF))] H := hP
  have hD : va_D A [(h, .inr (3, [.int 0, .int 0, .ref a0, .ref a1, .ref a2, .ref a3, .ref a4, .ref a5, .ref a6, .int 0, .ref a7, .ref a8, .null, .int 0, .null, .null, .null, .null])), (a0, .inl (k0, 60, .inl zF)), (a1, .inl (k0, 60, .inl zF)), (a2, .inl (k0, 240, .inl zF)), (a3, .inl (k3, 120, .inl zF)), (a4, .inl (k3, 200, .inl zF)), (a5, .inl (k0, 8, .inl zF)), (a6, .inl (k3, 4, .inl zF)), (a7, .inl (k0, 3, .inl zF)), (a8, .inl (k0, 3, .inl zF))] := hD
  have hK : va_K D vwCl [(k0, .int), (k3, .boolean)] s := hK
  refine lv_aload_n hx hb dX3_init_75 rfl (lv_at hl 0 rfl) ?_
  refine lv_iconst (v := 3) hx hb dX3_init_76 (by decide +kernel) ?_
  refine va_newa (atype := .int) (a0 := (3, .inl zF)) hx hb (hts (.arrayClass .int) (List.mem_of_getElem? (i := 4) (by decide +kernel))) rfl hK hP hD hS hA (fun _ => rfl) (by decide) (N' := 3) (by decide +kernel) (Nat.le_of_ble_eq_true rfl) (Nat.le_of_ble_eq_true rfl) (Nat.le_of_ble_eq_true rfl) dX3_init_77 (fun a9 k9 H hK hP hD hS => ?_)
  rw [show k9 = k0 from g_raI hK 0 2 rfl rfl] at hP hD
  have hK := hK.sub (tys' := [(k0, .int), (k3, .boolean)]) [0, 1] rfl
  have hP : va_P D vwCl [(h, .inr (3, [.int 0, .int 0, .ref a0, .ref a1, .ref a2, .ref a3, .ref a4, .ref a5, .ref a6, .int 0, .ref a7, .ref a8, .null, .int 0, .null, .null, .null, .null])), (a0, .inl (k0, 60, .inl zF)), (a1, .inl (k0, 60, .inl zF)), (a2, .inl (k0, 240, .inl zF)), (a3, .inl (k3, 120, .inl zF)), (a4, .inl (k3, 200, .inl zF)), (a5, .inl (k0, 8, .inl zF)), (a6, .inl (k3, 4, .inl zF)), (a7, .inl (k0, 3, .inl zF)), (a8, .inl (k0, 3, .inl zF)), (a9, .inl (k0, 3, .inl zF))] H := hP
  have hD : va_D A [(h, .inr (3, [.int 0, .int 0, .ref a0, .ref a1, .ref a2, .ref a3, .ref a4, .ref a5, .ref a6, .int 0, .ref a7, .ref a8, .null, .int 0, .null, .null, .null, .null])), (a0, .inl (k0, 60, .inl zF)), (a1, .inl (k0, 60, .inl zF)), (a2, .inl (k0, 240, .inl zF)), (a3, .inl (k3, 120, .inl zF)), (a4, .inl (k3, 200, .inl zF)), (a5, .inl (k0, 8, .inl zF)), (a6, .inl (k3, 4, .inl zF)), (a7, .inl (k0, 3, .inl zF)), (a8, .inl (k0, 3, .inl zF)), (a9, .inl (k0, 3, .inl zF))] := hD
  have hK : va_K D vwCl [(k0, .int), (k3, .boolean)] s := hK
  refine W.widen (k := 10) (n := 701) (by omega) (by omega) ?_
  refine va_putF (ci := 3) (v := .ref a9) (ty := .array .int) (C := RX3) (T := TX3) (N := 18) hx hb hts (fun w h => List.mem_cons_of_mem _ (List.mem_append_right _ h)) tyX3 tyX3_ok nmX3 hown hK hP hD hS 0 rfl rfl 12 (by decide) (hts _ (List.mem_of_getElem? (i := 15) (by decide +kernel))) (fun _ h9 => h9) rfl hin rfl (by decide +kernel) rfl rfl (Nat.le_of_ble_eq_true rfl) dX3_init_79 (fun H locs hP hD hS => ?_)
  have hP : va_P D vwCl [(h, .inr (3, [.int 0, .int 0, .ref a0, .ref a1, .ref a2, .ref a3, .ref a4, .ref a5, .ref a6, .int 0, .ref a7, .ref a8, .ref a9, .int 0, .null, .null, .null, .null])), (a0, .inl (k0, 60, .inl zF)), (a1, .inl (k0, 60, .inl zF)), (a2, .inl (k0, 240, .inl zF)), (a3, .inl (k3, 120, .inl zF)), (a4, .inl (k3, 200, .inl zF)), (a5, .inl (k0, 8, .inl zF)), (a6, .inl (k3, 4, .inl zF)), (a7, .inl (k0, 3, .inl zF)), (a8, .inl (k0, 3, .inl zF)), (a9, .inl (k0, 3, .inl zF))] H := hP
  have hD : va_D A [(h, .inr (3, [.int 0, .int 0, .ref a0, .ref a1, .ref a2, .ref a3, .ref a4, .ref a5, .ref a6, .int 0, .ref a7, .ref a8, .ref a9, .int 0, .null, .null, .null, .null])), (a0, .inl (k0, 60, .inl zF)), (a1, .inl (k0, 60, .inl zF)), (a2, .inl (k0, 240, .inl zF)), (a3, .inl (k3, 120, .inl zF)), (a4, .inl (k3, 200, .inl zF)), (a5, .inl (k0, 8, .inl zF)), (a6, .inl (k3, 4, .inl zF)), (a7, .inl (k0, 3, .inl zF)), (a8, .inl (k0, 3, .inl zF)), (a9, .inl (k0, 3, .inl zF))] := hD
  have hK : va_K D vwCl [(k0, .int), (k3, .boolean)] s := hK
  refine lv_aload_n hx hb dX3_init_82 rfl (lv_at hl 0 rfl) ?_
  refine lv_bipush (v := 60) hx hb dX3_init_83 (by decide +kernel) ?_
  refine va_newa (atype := .boolean) (a0 := (60, .inl zF)) hx hb (hts (.arrayClass .boolean) (List.mem_of_getElem? (i := 8) (by decide +kernel))) rfl hK hP hD hS hA (fun _ => rfl) (by decide) (N' := 60) (by decide +kernel) (Nat.le_of_ble_eq_true rfl) (Nat.le_of_ble_eq_true rfl) (Nat.le_of_ble_eq_true rfl) dX3_init_85 (fun a10 k10 H hK hP hD hS => ?_)
  rw [show k10 = k3 from g_raZ hK 1 2 rfl rfl] at hP hD
  have hK := hK.sub (tys' := [(k0, .int), (k3, .boolean)]) [0, 1] rfl
  have hP : va_P D vwCl [(h, .inr (3, [.int 0, .int 0, .ref a0, .ref a1, .ref a2, .ref a3, .ref a4, .ref a5, .ref a6, .int 0, .ref a7, .ref a8, .ref a9, .int 0, .null, .null, .null, .null])), (a0, .inl (k0, 60, .inl zF)), (a1, .inl (k0, 60, .inl zF)), (a2, .inl (k0, 240, .inl zF)), (a3, .inl (k3, 120, .inl zF)), (a4, .inl (k3, 200, .inl zF)), (a5, .inl (k0, 8, .inl zF)), (a6, .inl (k3, 4, .inl zF)), (a7, .inl (k0, 3, .inl zF)), (a8, .inl (k0, 3, .inl zF)), (a9, .inl (k0, 3, .inl zF)), (a10, .inl (k3, 60, .inl zF))] H := hP
  have hD : va_D A [(h, .inr (3, [.int 0, .int 0, .ref a0, .ref a1, .ref a2, .ref a3, .ref a4, .ref a5, .ref a6, .int 0, .ref a7, .ref a8, .ref a9, .int 0, .null, .null, .null, .null])), (a0, .inl (k0, 60, .inl zF)), (a1, .inl (k0, 60, .inl zF)), (a2, .inl (k0, 240, .inl zF)), (a3, .inl (k3, 120, .inl zF)), (a4, .inl (k3, 200, .inl zF)), (a5, .inl (k0, 8, .inl zF)), (a6, .inl (k3, 4, .inl zF)), (a7, .inl (k0, 3, .inl zF)), (a8, .inl (k0, 3, .inl zF)), (a9, .inl (k0, 3, .inl zF)), (a10, .inl (k3, 60, .inl zF))] := hD
  have hK : va_K D vwCl [(k0, .int), (k3, .boolean)] s := hK
  refine W.widen (k := 11) (n := 761) (by omega) (by omega) ?_
  refine va_putF (ci := 3) (v := .ref a10) (ty := .array .boolean) (C := RX3) (T := TX3) (N := 18) hx hb hts (fun w h => List.mem_cons_of_mem _ (List.mem_append_right _ h)) tyX3 tyX3_ok nmX3 hown hK hP hD hS 0 rfl rfl 14 (by decide) (hts _ (List.mem_of_getElem? (i := 16) (by decide +kernel))) (fun _ h9 => h9) rfl hin rfl (by decide +kernel) rfl rfl (Nat.le_of_ble_eq_true rfl) dX3_init_87 (fun H locs hP hD hS => ?_)
  have hP : va_P D vwCl [(h, .inr (3, [.int 0, .int 0, .ref a0, .ref a1, .ref a2, .ref a3, .ref a4, .ref a5, .ref a6, .int 0, .ref a7, .ref a8, .ref a9, .int 0, .ref a10, .null, .null, .null])), (a0, .inl (k0, 60, .inl zF)), (a1, .inl (k0, 60, .inl zF)), (a2, .inl (k0, 240, .inl zF)), (a3, .inl (k3, 120, .inl zF)), (a4, .inl (k3, 200, .inl zF)), (a5, .inl (k0, 8, .inl zF)), (a6, .inl (k3, 4, .inl zF)), (a7, .inl (k0, 3, .inl zF)), (a8, .inl (k0, 3, .inl zF)), (a9, .inl (k0, 3, .inl zF)), (a10, .inl (k3, 60, .inl zF))] H := hP
  have hD : va_D A [(h, .inr (3, [.int 0, .int 0, .ref a0, .ref a1, .ref a2, .ref a3, .ref a4, .ref a5, .ref a6, .int 0, .ref a7, .ref a8, .ref a9, .int 0, .ref a10, .null, .null, .null])), (a0, .inl (k0, 60, .inl zF)), (a1, .inl (k0, 60, .inl zF)), (a2, .inl (k0, 240, .inl zF)), (a3, .inl (k3, 120, .inl zF)), (a4, .inl (k3, 200, .inl zF)), (a5, .inl (k0, 8, .inl zF)), (a6, .inl (k3, 4, .inl zF)), (a7, .inl (k0, 3, .inl zF)), (a8, .inl (k0, 3, .inl zF)), (a9, .inl (k0, 3, .inl zF)), (a10, .inl (k3, 60, .inl zF))] := hD
  have hK : va_K D vwCl [(k0, .int), (k3, .boolean)] s := hK
  refine lv_aload_n hx hb dX3_init_90 rfl (lv_at hl 0 rfl) ?_
  refine lv_bipush (v := 60) hx hb dX3_init_91 (by decide +kernel) ?_
  refine va_newa (atype := .boolean) (a0 := (60, .inl zF)) hx hb (hts (.arrayClass .boolean) (List.mem_of_getElem? (i := 8) (by decide +kernel))) rfl hK hP hD hS hA (fun _ => rfl) (by decide) (N' := 60) (by decide +kernel) (Nat.le_of_ble_eq_true rfl) (Nat.le_of_ble_eq_true rfl) (Nat.le_of_ble_eq_true rfl) dX3_init_93 (fun a11 k11 H hK hP hD hS => ?_)
  rw [show k11 = k3 from g_raZ hK 1 2 rfl rfl] at hP hD
  have hK := hK.sub (tys' := [(k0, .int), (k3, .boolean)]) [0, 1] rfl
  have hP : va_P D vwCl [(h, .inr (3, [.int 0, .int 0, .ref a0, .ref a1, .ref a2, .ref a3, .ref a4, .ref a5, .ref a6, .int 0, .ref a7, .ref a8, .ref a9, .int 0, .ref a10, .null, .null, .null])), (a0, .inl (k0, 60, .inl zF)), (a1, .inl (k0, 60, .inl zF)), (a2, .inl (k0, 240, .inl zF)), (a3, .inl (k3, 120, .inl zF)), (a4, .inl (k3, 200, .inl zF)), (a5, .inl (k0, 8, .inl zF)), (a6, .inl (k3, 4, .inl zF)), (a7, .inl (k0, 3, .inl zF)), (a8, .inl (k0, 3, .inl zF)), (a9, .inl (k0, 3, .inl zF)), (a10, .inl (k3, 60, .inl zF)), (a11, .inl (k3, 60, .inl zF))] H := hP
  have hD : va_D A [(h, .inr (3, [.int 0, .int 0, .ref a0, .ref a1, .ref a2, .ref a3, .ref a4, .ref a5, .ref a6, .int 0, .ref a7, .ref a8, .ref a9, .int 0, .ref a10, .null, .null, .null])), (a0, .inl (k0, 60, .inl zF)), (a1, .inl (k0, 60, .inl zF)), (a2, .inl (k0, 240, .inl zF)), (a3, .inl (k3, 120, .inl zF)), (a4, .inl (k3, 200, .inl zF)), (a5, .inl (k0, 8, .inl zF)), (a6, .inl (k3, 4, .inl zF)), (a7, .inl (k0, 3, .inl zF)), (a8, .inl (k0, 3, .inl zF)), (a9, .inl (k0, 3, .inl zF)), (a10, .inl (k3, 60, .inl zF)), (a11, .inl (k3, 60, .inl zF))] := hD
  have hK : va_K D vwCl [(k0, .int), (k3, .boolean)] s := hK
  refine W.widen (k := 12) (n := 821) (by omega) (by omega) ?_
  refine va_putF (ci := 3) (v := .ref a11) (ty := .array .boolean) (C := RX3) (T := TX3) (N := 18) hx hb hts (fun w h => List.mem_cons_of_mem _ (List.mem_append_right _ h)) tyX3 tyX3_ok nmX3 hown hK hP hD hS 0 rfl rfl 15 (by decide) (hts _ (List.mem_of_getElem? (i := 17) (by decide +kernel))) (fun _ h9 => h9) rfl hin rfl (by decide +kernel) rfl rfl (Nat.le_of_ble_eq_true rfl) dX3_init_95 (fun H locs hP hD hS => ?_)
  have hP : va_P D vwCl [(h, .inr (3, [.int 0, .int 0, .ref a0, .ref a1, .ref a2, .ref a3, .ref a4, .ref a5, .ref a6, .int 0, .ref a7, .ref a8, .ref a9, .int 0, .ref a10, .ref a11, .null, .null])), (a0, .inl (k0, 60, .inl zF)), (a1, .inl (k0, 60, .inl zF)), (a2, .inl (k0, 240, .inl zF)), (a3, .inl (k3, 120, .inl zF)), (a4, .inl (k3, 200, .inl zF)), (a5, .inl (k0, 8, .inl zF)), (a6, .inl (k3, 4, .inl zF)), (a7, .inl (k0, 3, .inl zF)), (a8, .inl (k0, 3, .inl zF)), (a9, .inl (k0, 3, .inl zF)), (a10, .inl (k3, 60, .inl zF)), (a11, .inl (k3, 60, .inl zF))] H := hP
  have hD : va_D A [(h, .inr (3, [.int 0, .int 0, .ref a0, .ref a1, .ref a2, .ref a3, .ref a4, .ref a5, .ref a6, .int 0, .ref a7, .ref a8, .ref a9, .int 0, .ref a10, .ref a11, .null, .null])), (a0, .inl (k0, 60, .inl zF)), (a1, .inl (k0, 60, .inl zF)), (a2, .inl (k0, 240, .inl zF)), (a3, .inl (k3, 120, .inl zF)), (a4, .inl (k3, 200, .inl zF)), (a5, .inl (k0, 8, .inl zF)), (a6, .inl (k3, 4, .inl zF)), (a7, .inl (k0, 3, .inl zF)), (a8, .inl (k0, 3, .inl zF)), (a9, .inl (k0, 3, .inl zF)), (a10, .inl (k3, 60, .inl zF)), (a11, .inl (k3, 60, .inl zF))] := hD
  have hK : va_K D vwCl [(k0, .int), (k3, .boolean)] s := hK
  refine lv_aload_n hx hb dX3_init_98 rfl (lv_at hl 0 rfl) ?_
  refine lv_bipush (v := 60) hx hb dX3_init_99 (by decide +kernel) ?_
  refine va_newa (atype := .boolean) (a0 := (60, .inl zF)) hx hb (hts (.arrayClass .boolean) (List.mem_of_getElem? (i := 8) (by decide +kernel))) rfl hK hP hD hS hA (fun _ => rfl) (by decide) (N' := 60) (by decide +kernel) (Nat.le_of_ble_eq_true rfl) (Nat.le_of_ble_eq_true rfl) (Nat.le_of_ble_eq_true rfl) dX3_init_101 (fun a12 k12 H hK hP hD hS => ?_)
  rw [show k12 = k3 from g_raZ hK 1 2 rfl rfl] at hP hD
  have hK := hK.sub (tys' := [(k0, .int), (k3, .boolean)]) [0, 1] rfl
  have hP : va_P D vwCl [(h, .inr (3, [.int 0, .int 0, .ref a0, .ref a1, .ref a2, .ref a3, .ref a4, .ref a5, .ref a6, .int 0, .ref a7, .ref a8, .ref a9, .int 0, .ref a10, .ref a11, .null, .null])), (a0, .inl (k0, 60, .inl zF)), (a1, .inl (k0, 60, .inl zF)), (a2, .inl (k0, 240, .inl zF)), (a3, .inl (k3, 120, .inl zF)), (a4, .inl (k3, 200, .inl zF)), (a5, .inl (k0, 8, .inl zF)), (a6, .inl (k3, 4, .inl zF)), (a7, .inl (k0, 3, .inl zF)), (a8, .inl (k0, 3, .inl zF)), (a9, .inl (k0, 3, .inl zF)), (a10, .inl (k3, 60, .inl zF)), (a11, .inl (k3, 60, .inl zF)), (a12, .inl (k3, 60, .inl zF))] H := hP
  have hD : va_D A [(h, .inr (3, [.int 0, .int 0, .ref a0, .ref a1, .ref a2, .ref a3, .ref a4, .ref a5, .ref a6, .int 0, .ref a7, .ref a8, .ref a9, .int 0, .ref a10, .ref a11, .null, .null])), (a0, .inl (k0, 60, .inl zF)), (a1, .inl (k0, 60, .inl zF)), (a2, .inl (k0, 240, .inl zF)), (a3, .inl (k3, 120, .inl zF)), (a4, .inl (k3, 200, .inl zF)), (a5, .inl (k0, 8, .inl zF)), (a6, .inl (k3, 4, .inl zF)), (a7, .inl (k0, 3, .inl zF)), (a8, .inl (k0, 3, .inl zF)), (a9, .inl (k0, 3, .inl zF)), (a10, .inl (k3, 60, .inl zF)), (a11, .inl (k3, 60, .inl zF)), (a12, .inl (k3, 60, .inl zF))] := hD
  have hK : va_K D vwCl [(k0, .int), (k3, .boolean)] s := hK
  refine W.widen (k := 13) (n := 881) (by omega) (by omega) ?_
  refine va_putF (ci := 3) (v := .ref a12) (ty := .array .boolean) (C := RX3) (T := TX3) (N := 18) hx hb hts (fun w h => List.mem_cons_of_mem _ (List.mem_append_right _ h)) tyX3 tyX3_ok nmX3 hown hK hP hD hS 0 rfl rfl 16 (by decide) (hts _ (List.mem_of_getElem? (i := 18) (by decide +kernel))) (fun _ h9 => h9) rfl hin rfl (by decide +kernel) rfl rfl (Nat.le_of_ble_eq_true rfl) dX3_init_103 (fun H locs hP hD hS => ?_)
  have hP : va_P D vwCl [(h, .inr (3, [.int 0, .int 0, .ref a0, .ref a1, .ref a2, .ref a3, .ref a4, .ref a5, .ref a6, .int 0, .ref a7, .ref a8, .ref a9, .int 0, .ref a10, .ref a11, .ref a12, .null])), (a0, .inl (k0, 60, .inl zF)), (a1, .inl (k0, 60, .inl zF)), (a2, .inl (k0, 240, .inl zF)), (a3, .inl (k3, 120, .inl zF)), (a4, .inl (k3, 200, .inl zF)), (a5, .inl (k0, 8, .inl zF)), (a6, .inl (k3, 4, .inl zF)), (a7, .inl (k0, 3, .inl zF)), (a8, .inl (k0, 3, .inl zF)), (a9, .inl (k0, 3, .inl zF)), (a10, .inl (k3, 60, .inl zF)), (a11, .inl (k3, 60, .inl zF)), (a12, .inl (k3, 60, .inl zF))] H := hP
  have hD : va_D A [(h, .inr (3, [.int 0, .int 0, .ref a0, .ref a1, .ref a2, .ref a3, .ref a4, .ref a5, .ref a6, .int 0, .ref a7, .ref a8, .ref a9, .int 0, .ref a10, .ref a11, .ref a12, .null])), (a0, .inl (k0, 60, .inl zF)), (a1, .inl (k0, 60, .inl zF)), (a2, .inl (k0, 240, .inl zF)), (a3, .inl (k3, 120, .inl zF)), (a4, .inl (k3, 200, .inl zF)), (a5, .inl (k0, 8, .inl zF)), (a6, .inl (k3, 4, .inl zF)), (a7, .inl (k0, 3, .inl zF)), (a8, .inl (k0, 3, .inl zF)), (a9, .inl (k0, 3, .inl zF)), (a10, .inl (k3, 60, .inl zF)), (a11, .inl (k3, 60, .inl zF)), (a12, .inl (k3, 60, .inl zF))] := hD
  have hK : va_K D vwCl [(k0, .int), (k3, .boolean)] s := hK
  refine lv_aload_n hx hb dX3_init_106 rfl (lv_at hl 0 rfl) ?_
  refine lv_bipush (v := 60) hx hb dX3_init_107 (by decide +kernel) ?_
  refine va_newa (atype := .int) (a0 := (60, .inl zF)) hx hb (hts (.arrayClass .int) (List.mem_of_getElem? (i := 4) (by decide +kernel))) rfl hK hP hD hS hA (fun _ => rfl) (by decide) (N' := 60) (by decide +kernel) (Nat.le_of_ble_eq_true rfl) (Nat.le_of_ble_eq_true rfl) (Nat.le_of_ble_eq_true rfl) dX3_init_109 (fun a13 k13 H hK hP hD hS => ?_)
  rw [show k13 = k0 from g_raI hK 0 2 rfl rfl] at hP hD
  have hK := hK.sub (tys' := [(k0, .int), (k3, .boolean)]) [0, 1] rfl
  have hP : va_P D vwCl [(h, .inr (3, [.int 0, .int 0, .ref a0, .ref a1, .ref a2, .ref a3, .ref a4, .ref a5, .ref a6, .int 0, .ref a7, .ref a8, .ref a9, .int 0, .ref a10, .ref a11, .ref a12, .null])), (a0, .inl (k0, 60, .inl zF)), (a1, .inl (k0, 60, .inl zF)), (a2, .inl (k0, 240, .inl zF)), (a3, .inl (k3, 120, .inl zF)), (a4, .inl (k3, 200, .inl zF)), (a5, .inl (k0, 8, .inl zF)), (a6, .inl (k3, 4, .inl zF)), (a7, .inl (k0, 3, .inl zF)), (a8, .inl (k0, 3, .inl zF)), (a9, .inl (k0, 3, .inl zF)), (a10, .inl (k3, 60, .inl zF)), (a11, .inl (k3, 60, .inl zF)), (a12, .inl (k3, 60, .inl zF)), (a13, .inl (k0, 60, .inl zF))] H := hP
  have hD : va_D A [(h, .inr (3, [.int 0, .int 0, .ref a0, .ref a1, .ref a2, .ref a3, .ref a4, .ref a5, .ref a6, .int 0, .ref a7, .ref a8, .ref a9, .int 0, .ref a10, .ref a11, .ref a12, .null])), (a0, .inl (k0, 60, .inl zF)), (a1, .inl (k0, 60, .inl zF)), (a2, .inl (k0, 240, .inl zF)), (a3, .inl (k3, 120, .inl zF)), (a4, .inl (k3, 200, .inl zF)), (a5, .inl (k0, 8, .inl zF)), (a6, .inl (k3, 4, .inl zF)), (a7, .inl (k0, 3, .inl zF)), (a8, .inl (k0, 3, .inl zF)), (a9, .inl (k0, 3, .inl zF)), (a10, .inl (k3, 60, .inl zF)), (a11, .inl (k3, 60, .inl zF)), (a12, .inl (k3, 60, .inl zF)), (a13, .inl (k0, 60, .inl zF))] := hD
  have hK : va_K D vwCl [(k0, .int), (k3, .boolean)] s := hK
  refine W.widen (k := 14) (n := 941) (by omega) (by omega) ?_
  refine va_putF (ci := 3) (v := .ref a13) (ty := .array .int) (C := RX3) (T := TX3) (N := 18) hx hb hts (fun w h => List.mem_cons_of_mem _ (List.mem_append_right _ h)) tyX3 tyX3_ok nmX3 hown hK hP hD hS 0 rfl rfl 17 (by decide) (hts _ (List.mem_of_getElem? (i := 19) (by decide +kernel))) (fun _ h9 => h9) rfl hin rfl (by decide +kernel) rfl rfl (Nat.le_of_ble_eq_true rfl) dX3_init_111 (fun H locs hP hD hS => ?_)
  have hP : va_P D vwCl [(h, .inr (3, [.int 0, .int 0, .ref a0, .ref a1, .ref a2, .ref a3, .ref a4, .ref a5, .ref a6, .int 0, .ref a7, .ref a8, .ref a9, .int 0, .ref a10, .ref a11, .ref a12, .ref a13])), (a0, .inl (k0, 60, .inl zF)), (a1, .inl (k0, 60, .inl zF)), (a2, .inl (k0, 240, .inl zF)), (a3, .inl (k3, 120, .inl zF)), (a4, .inl (k3, 200, .inl zF)), (a5, .inl (k0, 8, .inl zF)), (a6, .inl (k3, 4, .inl zF)), (a7, .inl (k0, 3, .inl zF)), (a8, .inl (k0, 3, .inl zF)), (a9, .inl (k0, 3, .inl zF)), (a10, .inl (k3, 60, .inl zF)), (a11, .inl (k3, 60, .inl zF)), (a12, .inl (k3, 60, .inl zF)), (a13, .inl (k0, 60, .inl zF))] H := hP
  have hD : va_D A [(h, .inr (3, [.int 0, .int 0, .ref a0, .ref a1, .ref a2, .ref a3, .ref a4, .ref a5, .ref a6, .int 0, .ref a7, .ref a8, .ref a9, .int 0, .ref a10, .ref a11, .ref a12, .ref a13])), (a0, .inl (k0, 60, .inl zF)), (a1, .inl (k0, 60, .inl zF)), (a2, .inl (k0, 240, .inl zF)), (a3, .inl (k3, 120, .inl zF)), (a4, .inl (k3, 200, .inl zF)), (a5, .inl (k0, 8, .inl zF)), (a6, .inl (k3, 4, .inl zF)), (a7, .inl (k0, 3, .inl zF)), (a8, .inl (k0, 3, .inl zF)), (a9, .inl (k0, 3, .inl zF)), (a10, .inl (k3, 60, .inl zF)), (a11, .inl (k3, 60, .inl zF)), (a12, .inl (k3, 60, .inl zF)), (a13, .inl (k0, 60, .inl zF))] := hD
  have hK : va_K D vwCl [(k0, .int), (k3, .boolean)] s := hK
  refine lv_iconst (v := (nI 0)) hx hb dX3_init_114 (by decide +kernel) ?_
  refine lv_istore_n (lv' := [(1, .int (nI 0)), (0, .ref h)]) hx hb dX3_init_115 rfl hl (by decide) rfl (fun ls hl => ?_)
  have loop : ∀ (d k : Nat) (ff : Nat → Int32) (H : Heap) (locs : List Loc) (ls : Array Slot) (hP : va_P D vwCl [(h, .inr (3, [.int 0, .int 0, .ref a0, .ref a1, .ref a2, .ref a3, .ref a4, .ref a5, .ref a6, .int 0, .ref a7, .ref a8, .ref a9, .int 0, .ref a10, .ref a11, .ref a12, .ref a13])), (a0, .inl (k0, 60, .inl zF)), (a1, .inl (k0, 60, .inl zF)), (a2, .inl (k0, 240, .inl zF)), (a3, .inl (k3, 120, .inl zF)), (a4, .inl (k3, 200, .inl zF)), (a5, .inl (k0, 8, .inl ff)), (a6, .inl (k3, 4, .inl zF)), (a7, .inl (k0, 3, .inl zF)), (a8, .inl (k0, 3, .inl zF)), (a9, .inl (k0, 3, .inl zF)), (a10, .inl (k3, 60, .inl zF)), (a11, .inl (k3, 60, .inl zF)), (a12, .inl (k3, 60, .inl zF)), (a13, .inl (k0, 60, .inl zF))] H) (hD : va_D A [(h, .inr (3, [.int 0, .int 0, .ref a0, .ref a1, .ref a2, .ref a3, .ref a4, .ref a5, .ref a6, .int 0, .ref a7, .ref a8, .ref a9, .int 0, .ref a10, .ref a11, .ref a12, .ref a13])), (a0, .inl (k0, 60, .inl zF)), (a1, .inl (k0, 60, .inl zF)), (a2, .inl (k0, 240, .inl zF)), (a3, .inl (k3, 120, .inl zF)), (a4, .inl (k3, 200, .inl zF)), (a5, .inl (k0, 8, .inl ff)), (a6, .inl (k3, 4, .inl zF)), (a7, .inl (k0, 3, .inl zF)), (a8, .inl (k0, 3, .inl zF)), (a9, .inl (k0, 3, .inl zF)), (a10, .inl (k3, 60, .inl zF)), (a11, .inl (k3, 60, .inl zF)), (a12, .inl (k3, 60, .inl zF)), (a13, .inl (k0, 60, .inl zF))]) (hS : va_S A s.heap H locs) (hl : lv_has ls 2 [(1, .int (nI k)), (0, .ref h)]) (hk : k + d = 8) (hr : itU (fun k f => upd f k (-1)) d k ff = rF8), W p l e (headSpec wsX3_init rmX3_init).room s m [.ref h].toArray below meth c H locs 14 941 (MQ below (va_Qv (fun _ : (Nat → Nat) × ClassId × ClassId => True) (fun u t => va_P D vwCl (MW u.2.1 u.2.2 (fun k => match k with | 0 => h | k + 1 => u.1 k) uM0) t.heap ∧ va_K D vwCl [(u.2.1, .int), (u.2.2, .boolean)] t ∧ va_D A (MW u.2.1 u.2.2 (fun k => match k with | 0 => h | k + 1 => u.1 k) uM0)) A) [.ref h].toArray s 14 941 A) (F0 m 116 ls []) := by
    intro d
    induction d with
    | zero =>
      intro k ff H locs ls hP hD hS hl hk hr
      refine lv_iload_n hx hb dX3_init_116 rfl (lv_at hl 0 rfl) ?_
      refine lv_bipush (v := 8) hx hb dX3_init_117 (by decide +kernel) ?_
      refine lv_icmp_ge (tgt := 135) hx hb dX3_init_119 (by decide) (fun c_1 => ?_) (fun c_1 => ?_)
      · have hr : ff = rF8 := hr
        subst hr
        have hP9 := hP.sub (ws' := MW k0 k3 (fun k => match k with | 0 => h | k + 1 => (fun k => match k with | 0 => a0 | 1 => a1 | 2 => a2 | 3 => a3 | 4 => a4 | 5 => a5 | 6 => a6 | 7 => a7 | 8 => a8 | 9 => a9 | 10 => a10 | 11 => a11 | 12 => a12 | _ => a13) k) uM0) [0, 1, 2, 3, 4, 5, 6, 7, 8, 9, 10, 11, 12, 13, 14] rfl
        have hD9 := hD.sub (ws' := MW k0 k3 (fun k => match k with | 0 => h | k + 1 => (fun k => match k with | 0 => a0 | 1 => a1 | 2 => a2 | 3 => a3 | 4 => a4 | 5 => a5 | 6 => a6 | 7 => a7 | 8 => a8 | 9 => a9 | 10 => a10 | 11 => a11 | 12 => a12 | _ => a13) k) uM0) [0, 1, 2, 3, 4, 5, 6, 7, 8, 9, 10, 11, 12, 13, 14] (by decide) rfl
        exact W.vret hx hb hr2 (fun t ht hW => ⟨⟨((fun k => match k with | 0 => a0 | 1 => a1 | 2 => a2 | 3 => a3 | 4 => a4 | 5 => a5 | 6 => a6 | 7 => a7 | 8 => a8 | 9 => a9 | 10 => a10 | 11 => a11 | 12 => a12 | _ => a13), k0, k3), rfl, trivial, by rw [ht]; exact hP9, va_K.moved hW.alike hK, hD9⟩, hS.F ht⟩) hS.2.2 dX3_init_135
      · exact absurd ((g_leI (a := 8) (b := k) rfl rfl (by omega) (by omega)).mpr (by omega)) c_1
    | succ d ih =>
      intro k ff H locs ls hP hD hS hl hk hr
      refine lv_iload_n hx hb dX3_init_116 rfl (lv_at hl 0 rfl) ?_
      refine lv_bipush (v := 8) hx hb dX3_init_117 (by decide +kernel) ?_
      refine lv_icmp_ge (tgt := 135) hx hb dX3_init_119 (by decide) (fun c_1 => ?_) (fun c_1 => ?_)
      · exact absurd ((g_leI (a := 8) (b := k) rfl rfl (by omega) (by omega)).mp c_1) (by omega)
      · refine lv_aload_n hx hb dX3_init_122 rfl (lv_at hl 1 rfl) ?_
        refine va_get (ci := 3) (v := .ref a5) (C := RX3) (T := TX3) (N := 18) hx hb hts (fun w h => List.mem_cons_of_mem _ (List.mem_append_right _ h)) hown hK hP 0 rfl rfl 7 (by decide) (hts _ (List.mem_of_getElem? (i := 11) (by decide +kernel))) (fun _ h9 => h9) rfl dX3_init_123 ?_
        refine lv_iload_n hx hb dX3_init_126 rfl (lv_at hl 0 rfl) ?_
        refine lv_iconst (v := (-1)) hx hb dX3_init_127 (by decide +kernel) ?_
        refine va_iast hx hb hK hP hD hS 6 0 rfl rfl (vp_in_nI (show k < 8 by omega) (by omega)) dX3_init_128 (fun H locs hP hD hS => ?_)
        rw [nI_clamp (by omega)] at hP hD
        have hP : va_P D vwCl [(h, .inr (3, [.int 0, .int 0, .ref a0, .ref a1, .ref a2, .ref a3, .ref a4, .ref a5, .ref a6, .int 0, .ref a7, .ref a8, .ref a9, .int 0, .ref a10, .ref a11, .ref a12, .ref a13])), (a0, .inl (k0, 60, .inl zF)), (a1, .inl (k0, 60, .inl zF)), (a2, .inl (k0, 240, .inl zF)), (a3, .inl (k3, 120, .inl zF)), (a4, .inl (k3, 200, .inl zF)), (a5, .inl (k0, 8, .inl (upd ff k (-1)))), (a6, .inl (k3, 4, .inl zF)), (a7, .inl (k0, 3, .inl zF)), (a8, .inl (k0, 3, .inl zF)), (a9, .inl (k0, 3, .inl zF)), (a10, .inl (k3, 60, .inl zF)), (a11, .inl (k3, 60, .inl zF)), (a12, .inl (k3, 60, .inl zF)), (a13, .inl (k0, 60, .inl zF))] H := hP
        have hD : va_D A [(h, .inr (3, [.int 0, .int 0, .ref a0, .ref a1, .ref a2, .ref a3, .ref a4, .ref a5, .ref a6, .int 0, .ref a7, .ref a8, .ref a9, .int 0, .ref a10, .ref a11, .ref a12, .ref a13])), (a0, .inl (k0, 60, .inl zF)), (a1, .inl (k0, 60, .inl zF)), (a2, .inl (k0, 240, .inl zF)), (a3, .inl (k3, 120, .inl zF)), (a4, .inl (k3, 200, .inl zF)), (a5, .inl (k0, 8, .inl (upd ff k (-1)))), (a6, .inl (k3, 4, .inl zF)), (a7, .inl (k0, 3, .inl zF)), (a8, .inl (k0, 3, .inl zF)), (a9, .inl (k0, 3, .inl zF)), (a10, .inl (k3, 60, .inl zF)), (a11, .inl (k3, 60, .inl zF)), (a12, .inl (k3, 60, .inl zF)), (a13, .inl (k0, 60, .inl zF))] := hD
        refine lv_iinc (v := (nI (k + 1))) (lv' := [(1, .int (nI (k + 1))), (0, .ref h)]) hx hb dX3_init_129 hl (k := 0) rfl (nI_1 _) (by decide) rfl (fun ls hl => ?_)
        refine lv_goto (tgt := 116) hx hb dX3_init_132 (by decide) ?_
        exact ih (k + 1) (upd ff k (-1)) _ _ _ hP hD hS hl (by omega) (by rw [← hr]; rfl)
  exact loop 8 0 zF _ _ _ hP hD hS hl (by omega) rfl
