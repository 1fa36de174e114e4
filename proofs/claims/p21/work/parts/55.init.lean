/-! CONSTRUCTORS -/
def gIn (l : Launch) (y : MethodName) (ws : List Cond) (rm : Room) (D : va_G) (w0 : va_W) (E : State → Prop) (h : Nat) (wd : (Nat → Nat) × ClassId × ClassId → va_W) (mc ms : Nat) : Prop :=
  ∀ sz : Nat, Met l y ws rm (va_Pc [.ref h] (fun U => U.heap.size = sz ∧ E U ∧ va_P D vwCl w0 U.heap ∧ va_K D vwCl [] U ∧ va_D (fun _ => True) w0))
    (va_Qv (fun _ : (Nat → Nat) × ClassId × ClassId => True) (fun u t => va_P D vwCl (wd u) t.heap ∧ va_K D vwCl [(u.2.1, .int), (u.2.2, .boolean)] t ∧ va_D (va_A w0 sz) (wd u)) (va_A w0 sz)) mc ms (va_A w0 sz)
theorem gIn_blind {D : va_G} {w0 : va_W} {E : State → Prop} {h sz : Nat} (hE : gEM E) : FrameBlind (va_Pc [.ref h] (fun U => U.heap.size = sz ∧ E U ∧ va_P D vwCl w0 U.heap ∧ va_K D vwCl [] U ∧ va_D (fun _ => True) w0)) := by
  intro a U g mk q
  obtain ⟨h1, h2, h3, h4, h5, h6⟩ := q
  exact ⟨h1, h2, hE U _ (State.WarmedH.refl U) h3, h4, va_K.moved (u := U) (U := U.calling g mk a) (Vm.Alike.refl U.vm) h5, h6⟩
theorem g_raI {D : va_G} {tys : List (ClassId × FieldType)} {s : State} {c1 c2 : ClassId} (hK : va_K D vwCl tys s) (i j : Nat) (h1 : tys[i]? = some (c1, .int)) (h2 : tys[j]? = some (c2, .int)) : c2 = c1 := Option.some.inj ((hK.2 j _ h2).2.symm.trans (hK.2 i _ h1).2)
theorem g_raZ {D : va_G} {tys : List (ClassId × FieldType)} {s : State} {c1 c2 : ClassId} (hK : va_K D vwCl tys s) (i j : Nat) (h1 : tys[i]? = some (c1, .boolean)) (h2 : tys[j]? = some (c2, .boolean)) : c2 = c1 := Option.some.inj ((hK.2 j _ h2).2.symm.trans (hK.2 i _ h1).2)
abbrev zF : Nat → Int32 := fun _ => 0
/-- 4 refs, all for none -/
def rF : Nat → Int32 := itU (fun k f => upd f k (-1)) 4 0 zF
def rF8 : Nat → Int32 := itU (fun k f => upd f k (-1)) 8 0 zF
def W0X0 (h : Nat) : va_W := [(h, .inr (0, [.null, .null, .null, .null, .null, .int 0]))]
def W0X1 (h : Nat) : va_W := [(h, .inr (1, [.long 0, .null, .null]))]
def W0X2 (h : Nat) : va_W := [(h, .inr (2, [.null, .null, .null, .null, .null, .null, .null, .int 0, .int 0]))]
def W1X0 (h : Nat) (c : (Nat → Nat) × ClassId × ClassId) : va_W := [(h, .inr (0, [.ref (c.1 0), .ref (c.1 1), .ref (c.1 2), .ref (c.1 3), .ref (c.1 4), .int 0])), ((c.1 0), .inl (c.2.1, 60, .inl zF)), ((c.1 1), .inl (c.2.1, 60, .inl zF)), ((c.1 2), .inl (c.2.1, 240, .inl zF)), ((c.1 3), .inl (c.2.1, 60, .inl zF)), ((c.1 4), .inl (c.2.2, 100, .inl zF))]
def W1X1 (h : Nat) (c : (Nat → Nat) × ClassId × ClassId) : va_W := [(h, .inr (1, [.long 0, .ref (c.1 0), .ref (c.1 1)])), ((c.1 0), .inl (c.2.2, 100, .inl zF)), ((c.1 1), .inl (c.2.1, 4, .inl rF))]
def WFX1 (h : Nat) (c : (Nat → Nat) × ClassId × ClassId) (f : Nat → Int32) : va_W := [(h, .inr (1, [.long 0, .ref (c.1 0), .ref (c.1 1)])), ((c.1 0), .inl (c.2.2, 100, .inl zF)), ((c.1 1), .inl (c.2.1, 4, .inl f))]
set_option maxHeartbeats 4000000 in
set_option maxRecDepth 100000 in
theorem ctFillS (l : Launch) (D : va_G) (cI cZ : ClassId) (h : Nat) (q : Nat → Nat) (u : Nat → Int32) (p1 : Int32) : gM l yJ7_fill_53178 wsJ7_fill_53178 rmX0_fill D [(cI, .int), (cZ, .boolean)] (WFX1 h (q, cI, cZ)) (fun _ => True) [.ref (q 1), .int p1] u none (itU (fun k f => upd f k p1) 4 0 u) := by
  refine g_start (cc := cJ7_fill_53178) (maxL := 4) (ret := none) (by decide) rfl (Nat.le_of_ble_eq_true rfl) ?_
  intro p e s m below meth c A ls Q hx hb hml hret hts hown hlk hE hP hK hD hA hl hQ hS
  have hown : s.vm.findClass RJ7 = some m.cls := hown
  have hl : lv_has ls 4 [(0, .ref (q 1)), (1, .int p1)] := hl
  refine lv_iconst (v := (nI 0)) hx hb dJ7_fill_53178_0 (by decide +kernel) ?_
  refine lv_istore_n (lv' := [(2, .int (nI 0)), (0, .ref (q 1)), (1, .int p1)]) hx hb dJ7_fill_53178_1 rfl hl (by decide) rfl (fun ls hl => ?_)
  refine lv_aload_n hx hb dJ7_fill_53178_2 rfl (lv_at hl 1 rfl) ?_
  refine va_alen (v := 4) (ty := .int) hx hb hK hP 2 rfl (t0 := 0) rfl rfl dJ7_fill_53178_3 ?_
  refine lv_istore_n (lv' := [(3, .int 4), (2, .int (nI 0)), (0, .ref (q 1)), (1, .int p1)]) hx hb dJ7_fill_53178_4 rfl hl (by decide) rfl (fun ls hl => ?_)
  have loop : ∀ (d k : Nat) (ff : Nat → Int32) (H : Heap) (locs : List Loc) (ls : Array Slot) (hP : va_P D vwCl (WFX1 h (q, cI, cZ) ff) H) (hD : va_D A (WFX1 h (q, cI, cZ) ff)) (hS : va_S A s.heap H locs) (hl : lv_has ls 4 [(0, .ref (q 1)), (1, .int p1), (2, .int (nI k)), (3, .int 4)]) (hk : k + d = 4) (hr : itU (fun k f => upd f k p1) d k ff = itU (fun k f => upd f k p1) 4 0 u), W p l e rmX0_fill s m ([.ref (q 1), .int p1] : List Value).toArray below meth c H locs 0 0 Q (F0 m 5 ls []) := by
    intro d
    induction d with
    | zero =>
      intro k ff H locs ls hP hD hS hl hk hr
      refine lv_iload_n hx hb dJ7_fill_53178_5 rfl (lv_at hl 2 rfl) ?_
      refine lv_iload_n hx hb dJ7_fill_53178_6 rfl (lv_at hl 3 rfl) ?_
      refine lv_icmp_ge (tgt := 20) hx hb dJ7_fill_53178_7 (by decide) (fun c_7 => ?_) (fun c_7 => ?_)
      · have n_7 : 4 ≤ k := (g_leI (a := 4) (b := k) rfl rfl (by omega) (by omega)).mp c_7
        refine g_vret (u1 := ff) hx hb hret hlk hQ hP hD hS dJ7_fill_53178_20 ?_ ?_
        · exact rfl
        · exact (by rw [← hr] <;> rfl)
      · have n_7 : ¬ 4 ≤ k := fun h => c_7 ((g_leI (a := 4) (b := k) rfl rfl (by omega) (by omega)).mpr h)
        exfalso; omega
    | succ d ih =>
      intro k ff H locs ls hP hD hS hl hk hr
      refine lv_iload_n hx hb dJ7_fill_53178_5 rfl (lv_at hl 2 rfl) ?_
      refine lv_iload_n hx hb dJ7_fill_53178_6 rfl (lv_at hl 3 rfl) ?_
      refine lv_icmp_ge (tgt := 20) hx hb dJ7_fill_53178_7 (by decide) (fun c_7 => ?_) (fun c_7 => ?_)
      · have n_7 : 4 ≤ k := (g_leI (a := 4) (b := k) rfl rfl (by omega) (by omega)).mp c_7
        exfalso; omega
      · have n_7 : ¬ 4 ≤ k := fun h => c_7 ((g_leI (a := 4) (b := k) rfl rfl (by omega) (by omega)).mpr h)
        refine lv_aload_n hx hb dJ7_fill_53178_10 rfl (lv_at hl 0 rfl) ?_
        refine lv_iload_n hx hb dJ7_fill_53178_11 rfl (lv_at hl 2 rfl) ?_
        refine lv_iload_n hx hb dJ7_fill_53178_12 rfl (lv_at hl 1 rfl) ?_
        refine g_iast (n := 4) (f := ff) (u' := (upd ff k p1)) hx hb hK hP hD hS 2 0 rfl rfl k (by omega) (by omega) rfl rfl dJ7_fill_53178_13 (fun H locs hP hD hS => ?_)
        refine lv_iinc (v := (nI (k + 1))) (lv' := [(2, .int (nI (k + 1))), (0, .ref (q 1)), (1, .int p1), (3, .int 4)]) hx hb dJ7_fill_53178_14 hl (k := 2) rfl (nI_1 _) (by decide) rfl (fun ls hl => ?_)
        refine lv_goto (tgt := 5) hx hb dJ7_fill_53178_17 (by decide) ?_
        exact ih (k + 1) (upd ff k p1) _ _ _ hP hD hS (lv_sub hl [1, 2, 0, 3] rfl) (by omega) (by rw [← hr] <;> rfl)
  exact loop 4 0 u _ _ _ hP hD hS (lv_sub hl [2, 3, 1, 0] rfl) (by omega) rfl
abbrev rmX0_init : Room := { frames := 1, cells := 5, slots := 520, locals := 12 }
set_option maxHeartbeats 4000000 in
set_option maxRecDepth 100000 in
theorem ctX0_init (l : Launch) (D : va_G) (h : Nat) : gIn l yX0_init wsX0_init rmX0_init D (W0X0 h) (fun _ => True) h (W1X0 h) 5 520 := by
  intro sz
  refine Met.ofW (cc := cX0_init) (maxL := 1) (ret := none) (by decide) rfl ?_
  intro p e s m args below meth c s₁ B hml hv
  obtain ⟨rfl, hsz, hE, hP, hK, hD0⟩ := hv
  have hx := B.exec
  have hb := B.bytes
  have hr := B.returns
  have hts := atoms_spec (ws := wsX0_init) B.pre
  have hown : s.vm.findClass RX0 = some m.cls := findClass_of_methodNamed B.named
  have hlocks := B.notSynchronized
  have hin : meth.name = "<init>" := (name_of_methodNamed B.named B.method).1
  subst hsz
  have hD := hD0.self (sz := s.heap.size)
  generalize hAe : va_A (W0X0 h) s.heap.size = A at hD ⊢
  have hA : ∀ q : Nat, s.heap.size ≤ q → A q := fun q h => by rw [← hAe]; exact Or.inr h
  have hS : va_S A s.heap s.heap [] := va_S.rf
  have hl := lv_entry ([.ref h]) (n := 1) (Nat.le_of_ble_eq_true rfl)
  rw [lg_entry_eq]
  generalize (lg_sl ([.ref h]) ++ List.replicate (1 - (lg_sl ([.ref h])).length) Slot.unset).toArray = ls at hl ⊢
  have hl : lv_has ls 1 [(0, .ref h)] := hl
  have hP : va_P D vwCl [(h, .inr (0, [.null, .null, .null, .null, .null, .int 0]))] s.heap := hP
  have hD : va_D A [(h, .inr (0, [.null, .null, .null, .null, .null, .int 0]))] := hD
  refine lv_aload_n hx hb dX0_init_0 rfl (lv_at hl 0 rfl) ?_
  refine W.objInit hx hb hown (hts (.methodLink RX0 3 objectInit) (List.mem_of_getElem? (i := 1) (by decide +kernel))) (hts (.instanceMethod objectInit) (List.mem_of_getElem? (i := 2) (by decide +kernel))) (hts _ (List.mem_of_getElem? (i := 3) (by decide +kernel))) rfl (hl.1.trans hml.symm) rfl dX0_init_1 (Nat.le_of_ble_eq_true rfl) (Nat.le_of_ble_eq_true rfl) ?_
  refine W.eq (g2 := F0 m 4 ls []) rfl ?_
  refine lv_aload_n hx hb dX0_init_4 rfl (lv_at hl 0 rfl) ?_
  refine lv_bipush (v := 60) hx hb dX0_init_5 (by decide +kernel) ?_
  refine va_newa (atype := .int) (a0 := (60, .inl zF)) hx hb (hts (.arrayClass .int) (List.mem_of_getElem? (i := 4) (by decide +kernel))) rfl hK hP hD hS hA (fun _ => rfl) (by decide) (N' := 60) (by decide +kernel) (Nat.le_of_ble_eq_true rfl) (Nat.le_of_ble_eq_true rfl) (Nat.le_of_ble_eq_true rfl) dX0_init_7 (fun a0 k0 H hK hP hD hS => ?_)
  have hP : va_P D vwCl [(h, .inr (0, [.null, .null, .null, .null, .null, .int 0])), (a0, .inl (k0, 60, .inl zF))] H := hP
  have hD : va_D A [(h, .inr (0, [.null, .null, .null, .null, .null, .int 0])), (a0, .inl (k0, 60, .inl zF))] := hD
  have hK : va_K D vwCl [(k0, .int)] s := hK
  refine W.widen (k := 1) (n := 60) (by omega) (by omega) ?_
  refine va_putF (ci := 0) (v := .ref a0) (ty := .array .int) (C := RX0) (T := TX0) (N := 6) hx hb hts (fun w h => List.mem_cons_of_mem _ (List.mem_append_right _ h)) tyX0 tyX0_ok nmX0 hown hK hP hD hS 0 rfl rfl 0 (by decide) (hts _ (List.mem_of_getElem? (i := 5) (by decide +kernel))) (fun _ h9 => h9) rfl hin rfl (by decide +kernel) rfl rfl (Nat.le_of_ble_eq_true rfl) dX0_init_9 (fun H locs hP hD hS => ?_)
  have hP : va_P D vwCl [(h, .inr (0, [.ref a0, .null, .null, .null, .null, .int 0])), (a0, .inl (k0, 60, .inl zF))] H := hP
  have hD : va_D A [(h, .inr (0, [.ref a0, .null, .null, .null, .null, .int 0])), (a0, .inl (k0, 60, .inl zF))] := hD
  have hK : va_K D vwCl [(k0, .int)] s := hK
  refine lv_aload_n hx hb dX0_init_12 rfl (lv_at hl 0 rfl) ?_
  refine lv_bipush (v := 60) hx hb dX0_init_13 (by decide +kernel) ?_
  refine va_newa (atype := .int) (a0 := (60, .inl zF)) hx hb (hts (.arrayClass .int) (List.mem_of_getElem? (i := 4) (by decide +kernel))) rfl hK hP hD hS hA (fun _ => rfl) (by decide) (N' := 60) (by decide +kernel) (Nat.le_of_ble_eq_true rfl) (Nat.le_of_ble_eq_true rfl) (Nat.le_of_ble_eq_true rfl) dX0_init_15 (fun a1 k1 H hK hP hD hS => ?_)
  rw [show k1 = k0 from g_raI hK 0 1 rfl rfl] at hP hD
  have hK := hK.sub (tys' := [(k0, .int)]) [0] rfl
  have hP : va_P D vwCl [(h, .inr (0, [.ref a0, .null, .null, .null, .null, .int 0])), (a0, .inl (k0, 60, .inl zF)), (a1, .inl (k0, 60, .inl zF))] H := hP
  have hD : va_D A [(h, .inr (0, [.ref a0, .null, .null, .null, .null, .int 0])), (a0, .inl (k0, 60, .inl zF)), (a1, .inl (k0, 60, .inl zF))] := hD
  have hK : va_K D vwCl [(k0, .int)] s := hK
  refine W.widen (k := 2) (n := 120) (by omega) (by omega) ?_
  refine va_putF (ci := 0) (v := .ref a1) (ty := .array .int) (C := RX0) (T := TX0) (N := 6) hx hb hts (fun w h => List.mem_cons_of_mem _ (List.mem_append_right _ h)) tyX0 tyX0_ok nmX0 hown hK hP hD hS 0 rfl rfl 1 (by decide) (hts _ (List.mem_of_getElem? (i := 6) (by decide +kernel))) (fun _ h9 => h9) rfl hin rfl (by decide +kernel) rfl rfl (Nat.le_of_ble_eq_true rfl) dX0_init_17 (fun H locs hP hD hS => ?_)
  have hP : va_P D vwCl [(h, .inr (0, [.ref a0, .ref a1, .null, .null, .null, .int 0])), (a0, .inl (k0, 60, .inl zF)), (a1, .inl (k0, 60, .inl zF))] H := hP
  have hD : va_D A [(h, .inr (0, [.ref a0, .ref a1, .null, .null, .null, .int 0])), (a0, .inl (k0, 60, .inl zF)), (a1, .inl (k0, 60, .inl zF))] := hD
  have hK : va_K D vwCl [(k0, .int)] s := hK
  refine lv_aload_n hx hb dX0_init_20 rfl (lv_at hl 0 rfl) ?_
  refine lv_sipush (v := 240) hx hb dX0_init_21 (by decide +kernel) ?_
  refine va_newa (atype := .int) (a0 := (240, .inl zF)) hx hb (hts (.arrayClass .int) (List.mem_of_getElem? (i := 4) (by decide +kernel))) rfl hK hP hD hS hA (fun _ => rfl) (by decide) (N' := 240) (by decide +kernel) (Nat.le_of_ble_eq_true rfl) (Nat.le_of_ble_eq_true rfl) (Nat.le_of_ble_eq_true rfl) dX0_init_24 (fun a2 k2 H hK hP hD hS => ?_)
  rw [show k2 = k0 from g_raI hK 0 1 rfl rfl] at hP hD
  have hK := hK.sub (tys' := [(k0, .int)]) [0] rfl
  have hP : va_P D vwCl [(h, .inr (0, [.ref a0, .ref a1, .null, .null, .null, .int 0])), (a0, .inl (k0, 60, .inl zF)), (a1, .inl (k0, 60, .inl zF)), (a2, .inl (k0, 240, .inl zF))] H := hP
  have hD : va_D A [(h, .inr (0, [.ref a0, .ref a1, .null, .null, .null, .int 0])), (a0, .inl (k0, 60, .inl zF)), (a1, .inl (k0, 60, .inl zF)), (a2, .inl (k0, 240, .inl zF))] := hD
  have hK : va_K D vwCl [(k0, .int)] s := hK
  refine W.widen (k := 3) (n := 360) (by omega) (by omega) ?_
  refine va_putF (ci := 0) (v := .ref a2) (ty := .array .int) (C := RX0) (T := TX0) (N := 6) hx hb hts (fun w h => List.mem_cons_of_mem _ (List.mem_append_right _ h)) tyX0 tyX0_ok nmX0 hown hK hP hD hS 0 rfl rfl 2 (by decide) (hts _ (List.mem_of_getElem? (i := 7) (by decide +kernel))) (fun _ h9 => h9) rfl hin rfl (by decide +kernel) rfl rfl (Nat.le_of_ble_eq_true rfl) dX0_init_26 (fun H locs hP hD hS => ?_)
  have hP : va_P D vwCl [(h, .inr (0, [.ref a0, .ref a1, .ref a2, .null, .null, .int 0])), (a0, .inl (k0, 60, .inl zF)), (a1, .inl (k0, 60, .inl zF)), (a2, .inl (k0, 240, .inl zF))] H := hP
  have hD : va_D A [(h, .inr (0, [.ref a0, .ref a1, .ref a2, .null, .null, .int 0])), (a0, .inl (k0, 60, .inl zF)), (a1, .inl (k0, 60, .inl zF)), (a2, .inl (k0, 240, .inl zF))] := hD
  have hK : va_K D vwCl [(k0, .int)] s := hK
  refine lv_aload_n hx hb dX0_init_29 rfl (lv_at hl 0 rfl) ?_
  refine lv_bipush (v := 60) hx hb dX0_init_30 (by decide +kernel) ?_
  refine va_newa (atype := .int) (a0 := (60, .inl zF)) hx hb (hts (.arrayClass .int) (List.mem_of_getElem? (i := 4) (by decide +kernel))) rfl hK hP hD hS hA (fun _ => rfl) (by decide) (N' := 60) (by decide +kernel) (Nat.le_of_ble_eq_true rfl) (Nat.le_of_ble_eq_true rfl) (Nat.le_of_ble_eq_true rfl) dX0_init_32 (fun a3 k3 H hK hP hD hS => ?_)
  rw [show k3 = k0 from g_raI hK 0 1 rfl rfl] at hP hD
  have hK := hK.sub (tys' := [(k0, .int)]) [0] rfl
  have hP : va_P D vwCl [(h, .inr (0, [.ref a0, .ref a1, .ref a2, .null, .null, .int 0])), (a0, .inl (k0, 60, .inl zF)), (a1, .inl (k0, 60, .inl zF)), (a2, .inl (k0, 240, .inl zF)), (a3, .inl (k0, 60, .inl zF))] H := hP
  have hD : va_D A [(h, .inr (0, [.ref a0, .ref a1, .ref a2, .null, .null, .int 0])), (a0, .inl (k0, 60, .inl zF)), (a1, .inl (k0, 60, .inl zF)), (a2, .inl (k0, 240, .inl zF)), (a3, .inl (k0, 60, .inl zF))] := hD
  have hK : va_K D vwCl [(k0, .int)] s := hK
  refine W.widen (k := 4) (n := 420) (by omega) (by omega) ?_
  refine va_putF (ci := 0) (v := .ref a3) (ty := .array .int) (C := RX0) (T := TX0) (N := 6) hx hb hts (fun w h => List.mem_cons_of_mem _ (List.mem_append_right _ h)) tyX0 tyX0_ok nmX0 hown hK hP hD hS 0 rfl rfl 3 (by decide) (hts _ (List.mem_of_getElem? (i := 8) (by decide +kernel))) (fun _ h9 => h9) rfl hin rfl (by decide +kernel) rfl rfl (Nat.le_of_ble_eq_true rfl) dX0_init_34 (fun H locs hP hD hS => ?_)
  have hP : va_P D vwCl [(h, .inr (0, [.ref a0, .ref a1, .ref a2, .ref a3, .null, .int 0])), (a0, .inl (k0, 60, .inl zF)), (a1, .inl (k0, 60, .inl zF)), (a2, .inl (k0, 240, .inl zF)), (a3, .inl (k0, 60, .inl zF))] H := hP
  have hD : va_D A [(h, .inr (0, [.ref a0, .ref a1, .ref a2, .ref a3, .null, .int 0])), (a0, .inl (k0, 60, .inl zF)), (a1, .inl (k0, 60, .inl zF)), (a2, .inl (k0, 240, .inl zF)), (a3, .inl (k0, 60, .inl zF))] := hD
  have hK : va_K D vwCl [(k0, .int)] s := hK
  refine lv_aload_n hx hb dX0_init_37 rfl (lv_at hl 0 rfl) ?_
  refine lv_bipush (v := 100) hx hb dX0_init_38 (by decide +kernel) ?_
  refine va_newa (atype := .boolean) (a0 := (100, .inl zF)) hx hb (hts (.arrayClass .boolean) (List.mem_of_getElem? (i := 9) (by decide +kernel))) rfl hK hP hD hS hA (fun _ => rfl) (by decide) (N' := 100) (by decide +kernel) (Nat.le_of_ble_eq_true rfl) (Nat.le_of_ble_eq_true rfl) (Nat.le_of_ble_eq_true rfl) dX0_init_40 (fun a4 k4 H hK hP hD hS => ?_)
  have hP : va_P D vwCl [(h, .inr (0, [.ref a0, .ref a1, .ref a2, .ref a3, .null, .int 0])), (a0, .inl (k0, 60, .inl zF)), (a1, .inl (k0, 60, .inl zF)), (a2, .inl (k0, 240, .inl zF)), (a3, .inl (k0, 60, .inl zF)), (a4, .inl (k4, 100, .inl zF))] H := hP
  have hD : va_D A [(h, .inr (0, [.ref a0, .ref a1, .ref a2, .ref a3, .null, .int 0])), (a0, .inl (k0, 60, .inl zF)), (a1, .inl (k0, 60, .inl zF)), (a2, .inl (k0, 240, .inl zF)), (a3, .inl (k0, 60, .inl zF)), (a4, .inl (k4, 100, .inl zF))] := hD
  have hK : va_K D vwCl [(k0, .int), (k4, .boolean)] s := hK
  refine W.widen (k := 5) (n := 520) (by omega) (by omega) ?_
  refine va_putF (ci := 0) (v := .ref a4) (ty := .array .boolean) (C := RX0) (T := TX0) (N := 6) hx hb hts (fun w h => List.mem_cons_of_mem _ (List.mem_append_right _ h)) tyX0 tyX0_ok nmX0 hown hK hP hD hS 0 rfl rfl 4 (by decide) (hts _ (List.mem_of_getElem? (i := 10) (by decide +kernel))) (fun _ h9 => h9) rfl hin rfl (by decide +kernel) rfl rfl (Nat.le_of_ble_eq_true rfl) dX0_init_42 (fun H locs hP hD hS => ?_)
  have hP : va_P D vwCl [(h, .inr (0, [.ref a0, .ref a1, .ref a2, .ref a3, .ref a4, .int 0])), (a0, .inl (k0, 60, .inl zF)), (a1, .inl (k0, 60, .inl zF)), (a2, .inl (k0, 240, .inl zF)), (a3, .inl (k0, 60, .inl zF)), (a4, .inl (k4, 100, .inl zF))] H := hP
  have hD : va_D A [(h, .inr (0, [.ref a0, .ref a1, .ref a2, .ref a3, .ref a4, .int 0])), (a0, .inl (k0, 60, .inl zF)), (a1, .inl (k0, 60, .inl zF)), (a2, .inl (k0, 240, .inl zF)), (a3, .inl (k0, 60, .inl zF)), (a4, .inl (k4, 100, .inl zF))] := hD
  have hK : va_K D vwCl [(k0, .int), (k4, .boolean)] s := hK
  have hP9 := hP.sub (ws' := W1X0 h ((fun k => match k with | 0 => a0 | 1 => a1 | 2 => a2 | 3 => a3 | _ => a4), k0, k4)) [0, 1, 2, 3, 4, 5] rfl
  have hD9 := hD.sub (ws' := W1X0 h ((fun k => match k with | 0 => a0 | 1 => a1 | 2 => a2 | 3 => a3 | _ => a4), k0, k4)) [0, 1, 2, 3, 4, 5] (by decide) rfl
  have hK9 := hK.sub (tys' := [(k0, .int), (k4, .boolean)]) [0, 1] rfl
  exact W.vret hx hb hr (fun t ht hW => ⟨⟨((fun k => match k with | 0 => a0 | 1 => a1 | 2 => a2 | 3 => a3 | _ => a4), k0, k4), rfl, trivial, by rw [ht]; exact hP9, va_K.moved hW.alike hK9, hD9⟩, hS.F ht⟩) hS.2.2 dX0_init_45
abbrev rmX1_init : Room := { frames := 1, cells := 2, slots := 104, locals := 23 }
set_option maxHeartbeats 4000000 in
set_option maxRecDepth 100000 in
theorem ctX1_init (l : Launch) (D : va_G) (h : Nat) : gIn l yX1_init wsX1_init rmX1_init D (W0X1 h) (fun _ => True) h (W1X1 h) 2 104 := by
  intro sz
  refine Met.ofW (cc := cX1_init) (maxL := 1) (ret := none) (by decide) rfl ?_
  intro p e s m args below meth c s₁ B hml hv
  obtain ⟨rfl, hsz, hE, hP, hK, hD0⟩ := hv
  have hx := B.exec
  have hb := B.bytes
  have hr := B.returns
  have hts := atoms_spec (ws := wsX1_init) B.pre
  have hown : s.vm.findClass RX1 = some m.cls := findClass_of_methodNamed B.named
  have hlocks := B.notSynchronized
  have hin : meth.name = "<init>" := (name_of_methodNamed B.named B.method).1
  subst hsz
  have hD := hD0.self (sz := s.heap.size)
  generalize hAe : va_A (W0X1 h) s.heap.size = A at hD ⊢
  have hA : ∀ q : Nat, s.heap.size ≤ q → A q := fun q h => by rw [← hAe]; exact Or.inr h
  have hS : va_S A s.heap s.heap [] := va_S.rf
  have hl := lv_entry ([.ref h]) (n := 1) (Nat.le_of_ble_eq_true rfl)
  rw [lg_entry_eq]
  generalize (lg_sl ([.ref h]) ++ List.replicate (1 - (lg_sl ([.ref h])).length) Slot.unset).toArray = ls at hl ⊢
  have hl : lv_has ls 1 [(0, .ref h)] := hl
  have hP : va_P D vwCl [(h, .inr (1, [.long 0, .null, .null]))] s.heap := hP
  have hD : va_D A [(h, .inr (1, [.long 0, .null, .null]))] := hD
  refine lv_aload_n hx hb dX1_init_0 rfl (lv_at hl 0 rfl) ?_
  refine W.objInit hx hb hown (hts (.methodLink RX1 3 objectInit) (List.mem_of_getElem? (i := 1) (by decide +kernel))) (hts (.instanceMethod objectInit) (List.mem_of_getElem? (i := 2) (by decide +kernel))) (hts _ (List.mem_of_getElem? (i := 3) (by decide +kernel))) rfl (hl.1.trans hml.symm) rfl dX1_init_1 (Nat.le_of_ble_eq_true rfl) (Nat.le_of_ble_eq_true rfl) ?_
  refine W.eq (g2 := F0 m 4 ls []) rfl ?_
  refine lv_aload_n hx hb dX1_init_4 rfl (lv_at hl 0 rfl) ?_
  refine lv_bipush (v := 100) hx hb dX1_init_5 (by decide +kernel) ?_
  refine va_newa (atype := .boolean) (a0 := (100, .inl zF)) hx hb (hts (.arrayClass .boolean) (List.mem_of_getElem? (i := 4) (by decide +kernel))) rfl hK hP hD hS hA (fun _ => rfl) (by decide) (N' := 100) (by decide +kernel) (Nat.le_of_ble_eq_true rfl) (Nat.le_of_ble_eq_true rfl) (Nat.le_of_ble_eq_true rfl) dX1_init_7 (fun a0 k0 H hK hP hD hS => ?_)
  have hP : va_P D vwCl [(h, .inr (1, [.long 0, .null, .null])), (a0, .inl (k0, 100, .inl zF))] H := hP
  have hD : va_D A [(h, .inr (1, [.long 0, .null, .null])), (a0, .inl (k0, 100, .inl zF))] := hD
  have hK : va_K D vwCl [(k0, .boolean)] s := hK
  refine W.widen (k := 1) (n := 100) (by omega) (by omega) ?_
  refine va_putF (ci := 1) (v := .ref a0) (ty := .array .boolean) (C := RX1) (T := TX1) (N := 3) hx hb hts (fun w h => List.mem_cons_of_mem _ (List.mem_append_right _ h)) tyX1 tyX1_ok nmX1 hown hK hP hD hS 0 rfl rfl 1 (by decide) (hts _ (List.mem_of_getElem? (i := 5) (by decide +kernel))) (fun _ h9 => h9) rfl hin rfl (by decide +kernel) rfl rfl (Nat.le_of_ble_eq_true rfl) dX1_init_9 (fun H locs hP hD hS => ?_)
  have hP : va_P D vwCl [(h, .inr (1, [.long 0, .ref a0, .null])), (a0, .inl (k0, 100, .inl zF))] H := hP
  have hD : va_D A [(h, .inr (1, [.long 0, .ref a0, .null])), (a0, .inl (k0, 100, .inl zF))] := hD
  have hK : va_K D vwCl [(k0, .boolean)] s := hK
  refine lv_aload_n hx hb dX1_init_12 rfl (lv_at hl 0 rfl) ?_
  refine lv_iconst (v := 4) hx hb dX1_init_13 (by decide +kernel) ?_
  refine va_newa (atype := .int) (a0 := (4, .inl zF)) hx hb (hts (.arrayClass .int) (List.mem_of_getElem? (i := 6) (by decide +kernel))) rfl hK hP hD hS hA (fun _ => rfl) (by decide) (N' := 4) (by decide +kernel) (Nat.le_of_ble_eq_true rfl) (Nat.le_of_ble_eq_true rfl) (Nat.le_of_ble_eq_true rfl) dX1_init_14 (fun a1 k1 H hK hP hD hS => ?_)
  have hP : va_P D vwCl [(h, .inr (1, [.long 0, .ref a0, .null])), (a0, .inl (k0, 100, .inl zF)), (a1, .inl (k1, 4, .inl zF))] H := hP
  have hD : va_D A [(h, .inr (1, [.long 0, .ref a0, .null])), (a0, .inl (k0, 100, .inl zF)), (a1, .inl (k1, 4, .inl zF))] := hD
  have hK : va_K D vwCl [(k0, .boolean), (k1, .int)] s := hK
  refine W.widen (k := 2) (n := 104) (by omega) (by omega) ?_
  refine va_putF (ci := 1) (v := .ref a1) (ty := .array .int) (C := RX1) (T := TX1) (N := 3) hx hb hts (fun w h => List.mem_cons_of_mem _ (List.mem_append_right _ h)) tyX1 tyX1_ok nmX1 hown hK hP hD hS 0 rfl rfl 2 (by decide) (hts _ (List.mem_of_getElem? (i := 7) (by decide +kernel))) (fun _ h9 => h9) rfl hin rfl (by decide +kernel) rfl rfl (Nat.le_of_ble_eq_true rfl) dX1_init_16 (fun H locs hP hD hS => ?_)
  have hP : va_P D vwCl [(h, .inr (1, [.long 0, .ref a0, .ref a1])), (a0, .inl (k0, 100, .inl zF)), (a1, .inl (k1, 4, .inl zF))] H := hP
  have hD : va_D A [(h, .inr (1, [.long 0, .ref a0, .ref a1])), (a0, .inl (k0, 100, .inl zF)), (a1, .inl (k1, 4, .inl zF))] := hD
  have hK : va_K D vwCl [(k0, .boolean), (k1, .int)] s := hK
  refine lv_aload_n hx hb dX1_init_19 rfl (lv_at hl 0 rfl) ?_
  refine va_get (ci := 1) (v := .ref a1) (C := RX1) (T := TX1) (N := 3) hx hb hts (fun w h => List.mem_cons_of_mem _ (List.mem_append_right _ h)) hown hK hP 0 rfl rfl 2 (by decide) (hts _ (List.mem_of_getElem? (i := 7) (by decide +kernel))) (fun _ h9 => h9) rfl dX1_init_20 ?_
  refine lv_iconst (v := (-1)) hx hb dX1_init_23 (by decide +kernel) ?_
  have hK := hK.sub (tys' := [(k1, .int), (k0, .boolean)]) [1, 0] rfl
  have hP : va_P D vwCl (WFX1 h ((fun k => if k = 0 then a0 else a1), k1, k0) zF) H := hP
  have hD : va_D A (WFX1 h ((fun k => if k = 0 then a0 else a1), k1, k0) zF) := hD
  refine g_callS (As := [.ref a1, .int (-1)]) (rest := []) hx hb hml hown hts (ctFillS l D k1 k0 h (fun k => if k = 0 then a0 else a1) zF (-1)) gX1_init_J7_fill_53178 rfl rfl rfl hdJ7_fill_53178 ⟨Nat.le_of_ble_eq_true rfl, Nat.le_of_ble_eq_true rfl⟩ gEM_true trivial hP hK hD hS hA rfl hl.1 rfl (Nat.le_of_ble_eq_true rfl) dX1_init_24 ⟨Nat.le_of_ble_eq_true rfl, Nat.le_of_ble_eq_true rfl⟩ (fun H locs hP hD hS => ?_)
  have hP : va_P D vwCl [(h, .inr (1, [.long 0, .ref a0, .ref a1])), (a0, .inl (k0, 100, .inl zF)), (a1, .inl (k1, 4, .inl rF))] H := hP
  have hD : va_D A [(h, .inr (1, [.long 0, .ref a0, .ref a1])), (a0, .inl (k0, 100, .inl zF)), (a1, .inl (k1, 4, .inl rF))] := hD
  have hK : va_K D vwCl [(k1, .int), (k0, .boolean)] s := hK
  refine W.eq (g2 := F0 m 27 ls []) rfl ?_
  have hP9 := hP.sub (ws' := W1X1 h ((fun k => match k with | 0 => a0 | _ => a1), k1, k0)) [0, 1, 2] rfl
  have hD9 := hD.sub (ws' := W1X1 h ((fun k => match k with | 0 => a0 | _ => a1), k1, k0)) [0, 1, 2] (by decide) rfl
  have hK9 := hK.sub (tys' := [(k1, .int), (k0, .boolean)]) [0, 1] rfl
  exact W.vret hx hb hr (fun t ht hW => ⟨⟨((fun k => match k with | 0 => a0 | _ => a1), k1, k0), rfl, trivial, by rw [ht]; exact hP9, va_K.moved hW.alike hK9, hD9⟩, hS.F ht⟩) hS.2.2 dX1_init_27
def uX0 : SX := (fun k => match k with | 6 => rF | 8 => rF | _ => zF, fun _ => 0)
abbrev rmX2_init : Room := { frames := 2, cells := 16, slots := 753, locals := 60 }
set_option maxHeartbeats 4000000 in
set_option maxRecDepth 100000 in
theorem ctX2_init (l : Launch) (D : va_G) (h : Nat) : gIn l yX2_init wsX2_init rmX2_init D (W0X2 h) XG h (fun c => XW c.2.1 c.2.2 (fun k => match k with | 0 => h | k + 1 => c.1 k) uX0) 16 753 := by
  intro sz
  refine Met.ofW (cc := cX2_init) (maxL := 1) (ret := none) (by decide) rfl ?_
  intro p e s m args below meth c s₁ B hml hv
  obtain ⟨rfl, hsz, hE, hP, hK, hD0⟩ := hv
  have hx := B.exec
  have hb := B.bytes
  have hr := B.returns
  have hts := atoms_spec (ws := wsX2_init) B.pre
  have hown : s.vm.findClass RX2 = some m.cls := findClass_of_methodNamed B.named
  have hlocks := B.notSynchronized
  have hin : meth.name = "<init>" := (name_of_methodNamed B.named B.method).1
  subst hsz
  have hD := hD0.self (sz := s.heap.size)
  generalize hAe : va_A (W0X2 h) s.heap.size = A at hD ⊢
  have hA : ∀ q : Nat, s.heap.size ≤ q → A q := fun q h => by rw [← hAe]; exact Or.inr h
  have hS : va_S A s.heap s.heap [] := va_S.rf
  have hl := lv_entry ([.ref h]) (n := 1) (Nat.le_of_ble_eq_true rfl)
  rw [lg_entry_eq]
  generalize (lg_sl ([.ref h]) ++ List.replicate (1 - (lg_sl ([.ref h])).length) Slot.unset).toArray = ls at hl ⊢
  have hl : lv_has ls 1 [(0, .ref h)] := hl
  have hP : va_P D vwCl [(h, .inr (2, [.null, .null, .null, .null, .null, .null, .null, .int 0, .int 0]))] s.heap := hP
  have hD : va_D A [(h, .inr (2, [.null, .null, .null, .null, .null, .null, .null, .int 0, .int 0]))] := hD
  refine lv_aload_n hx hb dX2_init_0 rfl (lv_at hl 0 rfl) ?_
  refine W.objInit hx hb hown (hts (.methodLink RX2 1 objectInit) (List.mem_of_getElem? (i := 1) (by decide +kernel))) (hts (.instanceMethod objectInit) (List.mem_of_getElem? (i := 2) (by decide +kernel))) (hts _ (List.mem_of_getElem? (i := 3) (by decide +kernel))) rfl (hl.1.trans hml.symm) rfl dX2_init_1 (Nat.le_of_ble_eq_true rfl) (Nat.le_of_ble_eq_true rfl) ?_
  refine W.eq (g2 := F0 m 4 ls []) rfl ?_
  refine lv_aload_n hx hb dX2_init_4 rfl (lv_at hl 0 rfl) ?_
  refine va_new (ci := 0) (fs := [.null, .null, .null, .null, .null, .int 0]) (C := RX0) (T := TX0) (N := 6) hx hb hts (fun w h => List.mem_cons_of_mem _ (List.mem_append_left _ (List.mem_append_left _ (List.mem_append_right _ h)))) tyX0 tyX0_ok hown (hts (.classLink RX2 7 RX0) (List.mem_of_getElem? (i := 4) (by decide +kernel))) (hts (.instantiable RX0 6) (List.mem_of_getElem? (i := 5) (by decide +kernel))) (hts (.initialized RX0) (List.mem_of_getElem? (i := 6) (by decide +kernel))) hK hP hD hS hA rfl (fun j hj => by rcases (show j = 0 ∨ j = 1 ∨ j = 2 ∨ j = 3 ∨ j = 4 ∨ j = 5 by omega) with rfl | rfl | rfl | rfl | rfl | rfl <;> rfl) (Nat.le_of_ble_eq_true rfl) (Nat.le_of_ble_eq_true rfl) dX2_init_5 (fun o0 H hP hD hS => ?_)
  have hP : va_P D vwCl [(h, .inr (2, [.null, .null, .null, .null, .null, .null, .null, .int 0, .int 0])), (o0, .inr (0, [.null, .null, .null, .null, .null, .int 0]))] H := hP
  have hD : va_D A [(h, .inr (2, [.null, .null, .null, .null, .null, .null, .null, .int 0, .int 0])), (o0, .inr (0, [.null, .null, .null, .null, .null, .int 0]))] := hD
  have hK : va_K D vwCl [] s := hK
  refine W.widen (k := 1) (n := 6) (by omega) (by omega) ?_
  refine lv_dup hx hb dX2_init_8 rfl ?_
  have hPc := hP.sub (ws' := W0X0 o0) [1] rfl
  have hDc := hD.sub (ws' := W0X0 o0) [1] (by decide) rfl
  have hKc := hK.sub (tys' := []) [] rfl
  have hFc := va_free (wc := W0X0 o0) hD hS hA [1] rfl
  refine va_callv (va_runIN (host := "FetchHouse") (As := []) (rest := [.ref o0, .ref h]) ⟨hx, hb, hml, hown, hts⟩ (ctX0_init l D o0 H.size) ⟨va_cnB 0 hts gX2_init_X0_init_n9 rfl rfl rfl (hE.1 _ (List.mem_of_getElem? (i := 1) rfl)) (hts (.initialized RX0) (List.mem_of_getElem? (i := 6) (by decide +kernel))) (by decide +kernel) ⟨Nat.le_of_ble_eq_true rfl, Nat.le_of_ble_eq_true rfl⟩, rfl, hts (.instanceMethod yX0_init) (List.mem_of_getElem? (i := 19) (by decide +kernel))⟩ ⟨gIn_blind gEM_true, fun U hU hW => ⟨rfl, by rw [hU], trivial, by rw [hU]; exact hPc, va_K.moved hW.alike hKc, hDc.weaken (fun _ _ _ _ => trivial)⟩⟩ rfl rfl hl.1 rfl (lv_room (Nat.le_of_ble_eq_true rfl)) dX2_init_9 ⟨Nat.le_of_ble_eq_true rfl, Nat.le_of_ble_eq_true rfl⟩) hS (fun q _ h => hFc q h) hFc (fun u1 t H1 locs ht hvm hw hB hz1 hk1 hS => ?_)
  obtain ⟨b1, i1, z1⟩ := u1
  obtain ⟨hP1, hK1, hD1⟩ := hB
  rw [ht] at hP1
  have hK1 := va_K.moved hvm.symm hK1
  obtain ⟨hP, hD⟩ := va_join (wr := [(h, .inr (2, [.null, .null, .null, .null, .null, .null, .null, .int 0, .int 0]))]) (w1 := W1X0 o0 (b1, i1, z1)) hP hD [1] [0] rfl rfl (by decide) (by decide) hk1 hFc hP1 hD1
  have hK := (hK.sub (tys' := []) [] rfl).app hK1
  generalize H1 = H at hP hS ⊢
  have hP : va_P D vwCl [(h, .inr (2, [.null, .null, .null, .null, .null, .null, .null, .int 0, .int 0])), (o0, .inr (0, [.ref (b1 0), .ref (b1 1), .ref (b1 2), .ref (b1 3), .ref (b1 4), .int 0])), ((b1 0), .inl (i1, 60, .inl zF)), ((b1 1), .inl (i1, 60, .inl zF)), ((b1 2), .inl (i1, 240, .inl zF)), ((b1 3), .inl (i1, 60, .inl zF)), ((b1 4), .inl (z1, 100, .inl zF))] H := hP
  have hD : va_D A [(h, .inr (2, [.null, .null, .null, .null, .null, .null, .null, .int 0, .int 0])), (o0, .inr (0, [.ref (b1 0), .ref (b1 1), .ref (b1 2), .ref (b1 3), .ref (b1 4), .int 0])), ((b1 0), .inl (i1, 60, .inl zF)), ((b1 1), .inl (i1, 60, .inl zF)), ((b1 2), .inl (i1, 240, .inl zF)), ((b1 3), .inl (i1, 60, .inl zF)), ((b1 4), .inl (z1, 100, .inl zF))] := hD
  have hK : va_K D vwCl [(i1, .int), (z1, .boolean)] s := hK
  refine W.widen (k := 6) (n := 526) (by omega) (by omega) ?_
  refine W.eq (g2 := F0 m 12 ls [.ref o0, .ref h]) rfl ?_
  refine va_putF (ci := 2) (v := .ref o0) (ty := .object "FetchHouse$History") (C := RX2) (T := TX2) (N := 9) hx hb hts (fun w h => List.mem_cons_of_mem _ (List.mem_append_left _ (List.mem_append_right _ h))) tyX2 tyX2_ok nmX2 hown hK hP hD hS 0 rfl rfl 0 (by decide) (hts _ (List.mem_of_getElem? (i := 7) (by decide +kernel))) (fun _ h9 => h9) rfl hin rfl (by decide +kernel) rfl rfl (Nat.le_of_ble_eq_true rfl) dX2_init_12 (fun H locs hP hD hS => ?_)
  have hP : va_P D vwCl [(h, .inr (2, [.ref o0, .null, .null, .null, .null, .null, .null, .int 0, .int 0])), (o0, .inr (0, [.ref (b1 0), .ref (b1 1), .ref (b1 2), .ref (b1 3), .ref (b1 4), .int 0])), ((b1 0), .inl (i1, 60, .inl zF)), ((b1 1), .inl (i1, 60, .inl zF)), ((b1 2), .inl (i1, 240, .inl zF)), ((b1 3), .inl (i1, 60, .inl zF)), ((b1 4), .inl (z1, 100, .inl zF))] H := hP
  have hD : va_D A [(h, .inr (2, [.ref o0, .null, .null, .null, .null, .null, .null, .int 0, .int 0])), (o0, .inr (0, [.ref (b1 0), .ref (b1 1), .ref (b1 2), .ref (b1 3), .ref (b1 4), .int 0])), ((b1 0), .inl (i1, 60, .inl zF)), ((b1 1), .inl (i1, 60, .inl zF)), ((b1 2), .inl (i1, 240, .inl zF)), ((b1 3), .inl (i1, 60, .inl zF)), ((b1 4), .inl (z1, 100, .inl zF))] := hD
  have hK : va_K D vwCl [(i1, .int), (z1, .boolean)] s := hK
  refine lv_aload_n hx hb dX2_init_15 rfl (lv_at hl 0 rfl) ?_
  refine va_new (ci := 1) (fs := [.long 0, .null, .null]) (C := RX1) (T := TX1) (N := 3) hx hb hts (fun w h => List.mem_cons_of_mem _ (List.mem_append_right _ h)) tyX1 tyX1_ok hown (hts (.classLink RX2 16 RX1) (List.mem_of_getElem? (i := 8) (by decide +kernel))) (hts (.instantiable RX1 3) (List.mem_of_getElem? (i := 9) (by decide +kernel))) (hts (.initialized RX1) (List.mem_of_getElem? (i := 10) (by decide +kernel))) hK hP hD hS hA rfl (fun j hj => by rcases (show j = 0 ∨ j = 1 ∨ j = 2 by omega) with rfl | rfl | rfl <;> rfl) (Nat.le_of_ble_eq_true rfl) (Nat.le_of_ble_eq_true rfl) dX2_init_16 (fun o2 H hP hD hS => ?_)
  have hP : va_P D vwCl [(h, .inr (2, [.ref o0, .null, .null, .null, .null, .null, .null, .int 0, .int 0])), (o0, .inr (0, [.ref (b1 0), .ref (b1 1), .ref (b1 2), .ref (b1 3), .ref (b1 4), .int 0])), ((b1 0), .inl (i1, 60, .inl zF)), ((b1 1), .inl (i1, 60, .inl zF)), ((b1 2), .inl (i1, 240, .inl zF)), ((b1 3), .inl (i1, 60, .inl zF)), ((b1 4), .inl (z1, 100, .inl zF)), (o2, .inr (1, [.long 0, .null, .null]))] H := hP
  have hD : va_D A [(h, .inr (2, [.ref o0, .null, .null, .null, .null, .null, .null, .int 0, .int 0])), (o0, .inr (0, [.ref (b1 0), .ref (b1 1), .ref (b1 2), .ref (b1 3), .ref (b1 4), .int 0])), ((b1 0), .inl (i1, 60, .inl zF)), ((b1 1), .inl (i1, 60, .inl zF)), ((b1 2), .inl (i1, 240, .inl zF)), ((b1 3), .inl (i1, 60, .inl zF)), ((b1 4), .inl (z1, 100, .inl zF)), (o2, .inr (1, [.long 0, .null, .null]))] := hD
  have hK : va_K D vwCl [(i1, .int), (z1, .boolean)] s := hK
  refine W.widen (k := 7) (n := 529) (by omega) (by omega) ?_
  refine lv_dup hx hb dX2_init_19 rfl ?_
  have hPc := hP.sub (ws' := W0X1 o2) [7] rfl
  have hDc := hD.sub (ws' := W0X1 o2) [7] (by decide) rfl
  have hKc := hK.sub (tys' := []) [] rfl
  have hFc := va_free (wc := W0X1 o2) hD hS hA [7] rfl
  refine va_callv (va_runI (As := []) (rest := [.ref o2, .ref h]) ⟨hx, hb, hml, hown, hts⟩ (ctX1_init l D o2 H.size) (cwI 0 hts gX2_init_X1_init rfl rfl rfl (hts (.initialized RX1) (List.mem_of_getElem? (i := 10) (by decide +kernel))) (hts (.methodLink RX2 18 yX1_init) (List.mem_of_getElem? (i := 27) (by decide +kernel))) (hts (.instanceMethod yX1_init) (List.mem_of_getElem? (i := 28) (by decide +kernel))) rfl (by decide +kernel) ⟨Nat.le_of_ble_eq_true rfl, Nat.le_of_ble_eq_true rfl⟩) ⟨gIn_blind gEM_true, fun U hU hW => ⟨rfl, by rw [hU], trivial, by rw [hU]; exact hPc, va_K.moved hW.alike hKc, hDc.weaken (fun _ _ _ _ => trivial)⟩⟩ rfl rfl hl.1 rfl (lv_room (Nat.le_of_ble_eq_true rfl)) dX2_init_20 ⟨Nat.le_of_ble_eq_true rfl, Nat.le_of_ble_eq_true rfl⟩) hS (fun q _ h => hFc q h) hFc (fun u3 t H1 locs ht hvm hw hB hz1 hk1 hS => ?_)
  obtain ⟨b3, i3, z3⟩ := u3
  obtain ⟨hP1, hK1, hD1⟩ := hB
  rw [ht] at hP1
  have hK1 := va_K.moved hvm.symm hK1
  obtain ⟨hP, hD⟩ := va_join (wr := [(h, .inr (2, [.ref o0, .null, .null, .null, .null, .null, .null, .int 0, .int 0])), (o0, .inr (0, [.ref (b1 0), .ref (b1 1), .ref (b1 2), .ref (b1 3), .ref (b1 4), .int 0])), ((b1 0), .inl (i1, 60, .inl zF)), ((b1 1), .inl (i1, 60, .inl zF)), ((b1 2), .inl (i1, 240, .inl zF)), ((b1 3), .inl (i1, 60, .inl zF)), ((b1 4), .inl (z1, 100, .inl zF))]) (w1 := W1X1 o2 (b3, i3, z3)) hP hD [7] [0, 1, 2, 3, 4, 5, 6] rfl rfl (by decide) (by decide) hk1 hFc hP1 hD1
  have hK := (hK.sub (tys' := [(i1, .int), (z1, .boolean)]) [0, 1] rfl).app hK1
  generalize H1 = H at hP hS ⊢
  have hP : va_P D vwCl [(h, .inr (2, [.ref o0, .null, .null, .null, .null, .null, .null, .int 0, .int 0])), (o0, .inr (0, [.ref (b1 0), .ref (b1 1), .ref (b1 2), .ref (b1 3), .ref (b1 4), .int 0])), ((b1 0), .inl (i1, 60, .inl zF)), ((b1 1), .inl (i1, 60, .inl zF)), ((b1 2), .inl (i1, 240, .inl zF)), ((b1 3), .inl (i1, 60, .inl zF)), ((b1 4), .inl (z1, 100, .inl zF)), (o2, .inr (1, [.long 0, .ref (b3 0), .ref (b3 1)])), ((b3 0), .inl (z3, 100, .inl zF)), ((b3 1), .inl (i3, 4, .inl rF))] H := hP
  have hD : va_D A [(h, .inr (2, [.ref o0, .null, .null, .null, .null, .null, .null, .int 0, .int 0])), (o0, .inr (0, [.ref (b1 0), .ref (b1 1), .ref (b1 2), .ref (b1 3), .ref (b1 4), .int 0])), ((b1 0), .inl (i1, 60, .inl zF)), ((b1 1), .inl (i1, 60, .inl zF)), ((b1 2), .inl (i1, 240, .inl zF)), ((b1 3), .inl (i1, 60, .inl zF)), ((b1 4), .inl (z1, 100, .inl zF)), (o2, .inr (1, [.long 0, .ref (b3 0), .ref (b3 1)])), ((b3 0), .inl (z3, 100, .inl zF)), ((b3 1), .inl (i3, 4, .inl rF))] := hD
  have hK : va_K D vwCl [(i1, .int), (z1, .boolean), (i3, .int), (z3, .boolean)] s := hK
  rw [show i3 = i1 from g_raI hK 0 2 rfl rfl, show z3 = z1 from g_raZ hK 1 3 rfl rfl] at hP hD
  have hK := hK.sub (tys' := [(i1, .int), (z1, .boolean)]) [0, 1] rfl
  have hP : va_P D vwCl [(h, .inr (2, [.ref o0, .null, .null, .null, .null, .null, .null, .int 0, .int 0])), (o0, .inr (0, [.ref (b1 0), .ref (b1 1), .ref (b1 2), .ref (b1 3), .ref (b1 4), .int 0])), ((b1 0), .inl (i1, 60, .inl zF)), ((b1 1), .inl (i1, 60, .inl zF)), ((b1 2), .inl (i1, 240, .inl zF)), ((b1 3), .inl (i1, 60, .inl zF)), ((b1 4), .inl (z1, 100, .inl zF)), (o2, .inr (1, [.long 0, .ref (b3 0), .ref (b3 1)])), ((b3 0), .inl (z1, 100, .inl zF)), ((b3 1), .inl (i1, 4, .inl rF))] H := hP
  have hD : va_D A [(h, .inr (2, [.ref o0, .null, .null, .null, .null, .null, .null, .int 0, .int 0])), (o0, .inr (0, [.ref (b1 0), .ref (b1 1), .ref (b1 2), .ref (b1 3), .ref (b1 4), .int 0])), ((b1 0), .inl (i1, 60, .inl zF)), ((b1 1), .inl (i1, 60, .inl zF)), ((b1 2), .inl (i1, 240, .inl zF)), ((b1 3), .inl (i1, 60, .inl zF)), ((b1 4), .inl (z1, 100, .inl zF)), (o2, .inr (1, [.long 0, .ref (b3 0), .ref (b3 1)])), ((b3 0), .inl (z1, 100, .inl zF)), ((b3 1), .inl (i1, 4, .inl rF))] := hD
  have hK : va_K D vwCl [(i1, .int), (z1, .boolean)] s := hK
  refine W.widen (k := 9) (n := 633) (by omega) (by omega) ?_
  refine W.eq (g2 := F0 m 23 ls [.ref o2, .ref h]) rfl ?_
  refine va_putF (ci := 2) (v := .ref o2) (ty := .object "FetchHouse$Store") (C := RX2) (T := TX2) (N := 9) hx hb hts (fun w h => List.mem_cons_of_mem _ (List.mem_append_left _ (List.mem_append_right _ h))) tyX2 tyX2_ok nmX2 hown hK hP hD hS 0 rfl rfl 1 (by decide) (hts _ (List.mem_of_getElem? (i := 11) (by decide +kernel))) (fun _ h9 => h9) rfl hin rfl (by decide +kernel) rfl rfl (Nat.le_of_ble_eq_true rfl) dX2_init_23 (fun H locs hP hD hS => ?_)
  have hP : va_P D vwCl [(h, .inr (2, [.ref o0, .ref o2, .null, .null, .null, .null, .null, .int 0, .int 0])), (o0, .inr (0, [.ref (b1 0), .ref (b1 1), .ref (b1 2), .ref (b1 3), .ref (b1 4), .int 0])), ((b1 0), .inl (i1, 60, .inl zF)), ((b1 1), .inl (i1, 60, .inl zF)), ((b1 2), .inl (i1, 240, .inl zF)), ((b1 3), .inl (i1, 60, .inl zF)), ((b1 4), .inl (z1, 100, .inl zF)), (o2, .inr (1, [.long 0, .ref (b3 0), .ref (b3 1)])), ((b3 0), .inl (z1, 100, .inl zF)), ((b3 1), .inl (i1, 4, .inl rF))] H := hP
  have hD : va_D A [(h, .inr (2, [.ref o0, .ref o2, .null, .null, .null, .null, .null, .int 0, .int 0])), (o0, .inr (0, [.ref (b1 0), .ref (b1 1), .ref (b1 2), .ref (b1 3), .ref (b1 4), .int 0])), ((b1 0), .inl (i1, 60, .inl zF)), ((b1 1), .inl (i1, 60, .inl zF)), ((b1 2), .inl (i1, 240, .inl zF)), ((b1 3), .inl (i1, 60, .inl zF)), ((b1 4), .inl (z1, 100, .inl zF)), (o2, .inr (1, [.long 0, .ref (b3 0), .ref (b3 1)])), ((b3 0), .inl (z1, 100, .inl zF)), ((b3 1), .inl (i1, 4, .inl rF))] := hD
  have hK : va_K D vwCl [(i1, .int), (z1, .boolean)] s := hK
  refine lv_aload_n hx hb dX2_init_26 rfl (lv_at hl 0 rfl) ?_
  refine va_new (ci := 1) (fs := [.long 0, .null, .null]) (C := RX1) (T := TX1) (N := 3) hx hb hts (fun w h => List.mem_cons_of_mem _ (List.mem_append_right _ h)) tyX1 tyX1_ok hown (hts (.classLink RX2 16 RX1) (List.mem_of_getElem? (i := 8) (by decide +kernel))) (hts (.instantiable RX1 3) (List.mem_of_getElem? (i := 9) (by decide +kernel))) (hts (.initialized RX1) (List.mem_of_getElem? (i := 10) (by decide +kernel))) hK hP hD hS hA rfl (fun j hj => by rcases (show j = 0 ∨ j = 1 ∨ j = 2 by omega) with rfl | rfl | rfl <;> rfl) (Nat.le_of_ble_eq_true rfl) (Nat.le_of_ble_eq_true rfl) dX2_init_27 (fun o4 H hP hD hS => ?_)
  have hP : va_P D vwCl [(h, .inr (2, [.ref o0, .ref o2, .null, .null, .null, .null, .null, .int 0, .int 0])), (o0, .inr (0, [.ref (b1 0), .ref (b1 1), .ref (b1 2), .ref (b1 3), .ref (b1 4), .int 0])), ((b1 0), .inl (i1, 60, .inl zF)), ((b1 1), .inl (i1, 60, .inl zF)), ((b1 2), .inl (i1, 240, .inl zF)), ((b1 3), .inl (i1, 60, .inl zF)), ((b1 4), .inl (z1, 100, .inl zF)), (o2, .inr (1, [.long 0, .ref (b3 0), .ref (b3 1)])), ((b3 0), .inl (z1, 100, .inl zF)), ((b3 1), .inl (i1, 4, .inl rF)), (o4, .inr (1, [.long 0, .null, .null]))] H := hP
  have hD : va_D A [(h, .inr (2, [.ref o0, .ref o2, .null, .null, .null, .null, .null, .int 0, .int 0])), (o0, .inr (0, [.ref (b1 0), .ref (b1 1), .ref (b1 2), .ref (b1 3), .ref (b1 4), .int 0])), ((b1 0), .inl (i1, 60, .inl zF)), ((b1 1), .inl (i1, 60, .inl zF)), ((b1 2), .inl (i1, 240, .inl zF)), ((b1 3), .inl (i1, 60, .inl zF)), ((b1 4), .inl (z1, 100, .inl zF)), (o2, .inr (1, [.long 0, .ref (b3 0), .ref (b3 1)])), ((b3 0), .inl (z1, 100, .inl zF)), ((b3 1), .inl (i1, 4, .inl rF)), (o4, .inr (1, [.long 0, .null, .null]))] := hD
  have hK : va_K D vwCl [(i1, .int), (z1, .boolean)] s := hK
  refine W.widen (k := 10) (n := 636) (by omega) (by omega) ?_
  refine lv_dup hx hb dX2_init_30 rfl ?_
  have hPc := hP.sub (ws' := W0X1 o4) [10] rfl
  have hDc := hD.sub (ws' := W0X1 o4) [10] (by decide) rfl
  have hKc := hK.sub (tys' := []) [] rfl
  have hFc := va_free (wc := W0X1 o4) hD hS hA [10] rfl
  refine va_callv (va_runI (As := []) (rest := [.ref o4, .ref h]) ⟨hx, hb, hml, hown, hts⟩ (ctX1_init l D o4 H.size) (cwI 0 hts gX2_init_X1_init rfl rfl rfl (hts (.initialized RX1) (List.mem_of_getElem? (i := 10) (by decide +kernel))) (hts (.methodLink RX2 18 yX1_init) (List.mem_of_getElem? (i := 27) (by decide +kernel))) (hts (.instanceMethod yX1_init) (List.mem_of_getElem? (i := 28) (by decide +kernel))) rfl (by decide +kernel) ⟨Nat.le_of_ble_eq_true rfl, Nat.le_of_ble_eq_true rfl⟩) ⟨gIn_blind gEM_true, fun U hU hW => ⟨rfl, by rw [hU], trivial, by rw [hU]; exact hPc, va_K.moved hW.alike hKc, hDc.weaken (fun _ _ _ _ => trivial)⟩⟩ rfl rfl hl.1 rfl (lv_room (Nat.le_of_ble_eq_true rfl)) dX2_init_31 ⟨Nat.le_of_ble_eq_true rfl, Nat.le_of_ble_eq_true rfl⟩) hS (fun q _ h => hFc q h) hFc (fun u5 t H1 locs ht hvm hw hB hz1 hk1 hS => ?_)
  obtain ⟨b5, i5, z5⟩ := u5
  obtain ⟨hP1, hK1, hD1⟩ := hB
  rw [ht] at hP1
  have hK1 := va_K.moved hvm.symm hK1
  obtain ⟨hP, hD⟩ := va_join (wr := [(h, .inr (2, [.ref o0, .ref o2, .null, .null, .null, .null, .null, .int 0, .int 0])), (o0, .inr (0, [.ref (b1 0), .ref (b1 1), .ref (b1 2), .ref (b1 3), .ref (b1 4), .int 0])), ((b1 0), .inl (i1, 60, .inl zF)), ((b1 1), .inl (i1, 60, .inl zF)), ((b1 2), .inl (i1, 240, .inl zF)), ((b1 3), .inl (i1, 60, .inl zF)), ((b1 4), .inl (z1, 100, .inl zF)), (o2, .inr (1, [.long 0, .ref (b3 0), .ref (b3 1)])), ((b3 0), .inl (z1, 100, .inl zF)), ((b3 1), .inl (i1, 4, .inl rF))]) (w1 := W1X1 o4 (b5, i5, z5)) hP hD [10] [0, 1, 2, 3, 4, 5, 6, 7, 8, 9] rfl rfl (by decide) (by decide) hk1 hFc hP1 hD1
  have hK := (hK.sub (tys' := [(i1, .int), (z1, .boolean)]) [0, 1] rfl).app hK1
  generalize H1 = H at hP hS ⊢
  have hP : va_P D vwCl [(h, .inr (2, [.ref o0, .ref o2, .null, .null, .null, .null, .null, .int 0, .int 0])), (o0, .inr (0, [.ref (b1 0), .ref (b1 1), .ref (b1 2), .ref (b1 3), .ref (b1 4), .int 0])), ((b1 0), .inl (i1, 60, .inl zF)), ((b1 1), .inl (i1, 60, .inl zF)), ((b1 2), .inl (i1, 240, .inl zF)), ((b1 3), .inl (i1, 60, .inl zF)), ((b1 4), .inl (z1, 100, .inl zF)), (o2, .inr (1, [.long 0, .ref (b3 0), .ref (b3 1)])), ((b3 0), .inl (z1, 100, .inl zF)), ((b3 1), .inl (i1, 4, .inl rF)), (o4, .inr (1, [.long 0, .ref (b5 0), .ref (b5 1)])), ((b5 0), .inl (z5, 100, .inl zF)), ((b5 1), .inl (i5, 4, .inl rF))] H := hP
  have hD : va_D A [(h, .inr (2, [.ref o0, .ref o2, .null, .null, .null, .null, .null, .int 0, .int 0])), (o0, .inr (0, [.ref (b1 0), .ref (b1 1), .ref (b1 2), .ref (b1 3), .ref (b1 4), .int 0])), ((b1 0), .inl (i1, 60, .inl zF)), ((b1 1), .inl (i1, 60, .inl zF)), ((b1 2), .inl (i1, 240, .inl zF)), ((b1 3), .inl (i1, 60, .inl zF)), ((b1 4), .inl (z1, 100, .inl zF)), (o2, .inr (1, [.long 0, .ref (b3 0), .ref (b3 1)])), ((b3 0), .inl (z1, 100, .inl zF)), ((b3 1), .inl (i1, 4, .inl rF)), (o4, .inr (1, [.long 0, .ref (b5 0), .ref (b5 1)])), ((b5 0), .inl (z5, 100, .inl zF)), ((b5 1), .inl (i5, 4, .inl rF))] := hD
  have hK : va_K D vwCl [(i1, .int), (z1, .boolean), (i5, .int), (z5, .boolean)] s := hK
  rw [show i5 = i1 from g_raI hK 0 2 rfl rfl, show z5 = z1 from g_raZ hK 1 3 rfl rfl] at hP hD
  have hK := hK.sub (tys' := [(i1, .int), (z1, .boolean)]) [0, 1] rfl
  have hP : va_P D vwCl [(h, .inr (2, [.ref o0, .ref o2, .null, .null, .null, .null, .null, .int 0, .int 0])), (o0, .inr (0, [.ref (b1 0), .ref (b1 1), .ref (b1 2), .ref (b1 3), .ref (b1 4), .int 0])), ((b1 0), .inl (i1, 60, .inl zF)), ((b1 1), .inl (i1, 60, .inl zF)), ((b1 2), .inl (i1, 240, .inl zF)), ((b1 3), .inl (i1, 60, .inl zF)), ((b1 4), .inl (z1, 100, .inl zF)), (o2, .inr (1, [.long 0, .ref (b3 0), .ref (b3 1)])), ((b3 0), .inl (z1, 100, .inl zF)), ((b3 1), .inl (i1, 4, .inl rF)), (o4, .inr (1, [.long 0, .ref (b5 0), .ref (b5 1)])), ((b5 0), .inl (z1, 100, .inl zF)), ((b5 1), .inl (i1, 4, .inl rF))] H := hP
  have hD : va_D A [(h, .inr (2, [.ref o0, .ref o2, .null, .null, .null, .null, .null, .int 0, .int 0])), (o0, .inr (0, [.ref (b1 0), .ref (b1 1), .ref (b1 2), .ref (b1 3), .ref (b1 4), .int 0])), ((b1 0), .inl (i1, 60, .inl zF)), ((b1 1), .inl (i1, 60, .inl zF)), ((b1 2), .inl (i1, 240, .inl zF)), ((b1 3), .inl (i1, 60, .inl zF)), ((b1 4), .inl (z1, 100, .inl zF)), (o2, .inr (1, [.long 0, .ref (b3 0), .ref (b3 1)])), ((b3 0), .inl (z1, 100, .inl zF)), ((b3 1), .inl (i1, 4, .inl rF)), (o4, .inr (1, [.long 0, .ref (b5 0), .ref (b5 1)])), ((b5 0), .inl (z1, 100, .inl zF)), ((b5 1), .inl (i1, 4, .inl rF))] := hD
  have hK : va_K D vwCl [(i1, .int), (z1, .boolean)] s := hK
  refine W.widen (k := 12) (n := 740) (by omega) (by omega) ?_
  refine W.eq (g2 := F0 m 34 ls [.ref o4, .ref h]) rfl ?_
  refine va_putF (ci := 2) (v := .ref o4) (ty := .object "FetchHouse$Store") (C := RX2) (T := TX2) (N := 9) hx hb hts (fun w h => List.mem_cons_of_mem _ (List.mem_append_left _ (List.mem_append_right _ h))) tyX2 tyX2_ok nmX2 hown hK hP hD hS 0 rfl rfl 2 (by decide) (hts _ (List.mem_of_getElem? (i := 12) (by decide +kernel))) (fun _ h9 => h9) rfl hin rfl (by decide +kernel) rfl rfl (Nat.le_of_ble_eq_true rfl) dX2_init_34 (fun H locs hP hD hS => ?_)
  have hP : va_P D vwCl [(h, .inr (2, [.ref o0, .ref o2, .ref o4, .null, .null, .null, .null, .int 0, .int 0])), (o0, .inr (0, [.ref (b1 0), .ref (b1 1), .ref (b1 2), .ref (b1 3), .ref (b1 4), .int 0])), ((b1 0), .inl (i1, 60, .inl zF)), ((b1 1), .inl (i1, 60, .inl zF)), ((b1 2), .inl (i1, 240, .inl zF)), ((b1 3), .inl (i1, 60, .inl zF)), ((b1 4), .inl (z1, 100, .inl zF)), (o2, .inr (1, [.long 0, .ref (b3 0), .ref (b3 1)])), ((b3 0), .inl (z1, 100, .inl zF)), ((b3 1), .inl (i1, 4, .inl rF)), (o4, .inr (1, [.long 0, .ref (b5 0), .ref (b5 1)])), ((b5 0), .inl (z1, 100, .inl zF)), ((b5 1), .inl (i1, 4, .inl rF))] H := hP
  have hD : va_D A [(h, .inr (2, [.ref o0, .ref o2, .ref o4, .null, .null, .null, .null, .int 0, .int 0])), (o0, .inr (0, [.ref (b1 0), .ref (b1 1), .ref (b1 2), .ref (b1 3), .ref (b1 4), .int 0])), ((b1 0), .inl (i1, 60, .inl zF)), ((b1 1), .inl (i1, 60, .inl zF)), ((b1 2), .inl (i1, 240, .inl zF)), ((b1 3), .inl (i1, 60, .inl zF)), ((b1 4), .inl (z1, 100, .inl zF)), (o2, .inr (1, [.long 0, .ref (b3 0), .ref (b3 1)])), ((b3 0), .inl (z1, 100, .inl zF)), ((b3 1), .inl (i1, 4, .inl rF)), (o4, .inr (1, [.long 0, .ref (b5 0), .ref (b5 1)])), ((b5 0), .inl (z1, 100, .inl zF)), ((b5 1), .inl (i1, 4, .inl rF))] := hD
  have hK : va_K D vwCl [(i1, .int), (z1, .boolean)] s := hK
  refine lv_aload_n hx hb dX2_init_37 rfl (lv_at hl 0 rfl) ?_
  refine lv_iconst (v := 4) hx hb dX2_init_38 (by decide +kernel) ?_
  refine va_newa (atype := .boolean) (a0 := (4, .inl zF)) hx hb (hts (.arrayClass .boolean) (List.mem_of_getElem? (i := 13) (by decide +kernel))) rfl hK hP hD hS hA (fun _ => rfl) (by decide) (N' := 4) (by decide +kernel) (Nat.le_of_ble_eq_true rfl) (Nat.le_of_ble_eq_true rfl) (Nat.le_of_ble_eq_true rfl) dX2_init_39 (fun a6 k6 H hK hP hD hS => ?_)
  rw [show k6 = z1 from g_raZ hK 1 2 rfl rfl] at hP hD
  have hK := hK.sub (tys' := [(i1, .int), (z1, .boolean)]) [0, 1] rfl
  have hP : va_P D vwCl [(h, .inr (2, [.ref o0, .ref o2, .ref o4, .null, .null, .null, .null, .int 0, .int 0])), (o0, .inr (0, [.ref (b1 0), .ref (b1 1), .ref (b1 2), .ref (b1 3), .ref (b1 4), .int 0])), ((b1 0), .inl (i1, 60, .inl zF)), ((b1 1), .inl (i1, 60, .inl zF)), ((b1 2), .inl (i1, 240, .inl zF)), ((b1 3), .inl (i1, 60, .inl zF)), ((b1 4), .inl (z1, 100, .inl zF)), (o2, .inr (1, [.long 0, .ref (b3 0), .ref (b3 1)])), ((b3 0), .inl (z1, 100, .inl zF)), ((b3 1), .inl (i1, 4, .inl rF)), (o4, .inr (1, [.long 0, .ref (b5 0), .ref (b5 1)])), ((b5 0), .inl (z1, 100, .inl zF)), ((b5 1), .inl (i1, 4, .inl rF)), (a6, .inl (z1, 4, .inl zF))] H := hP
  have hD : va_D A [(h, .inr (2, [.ref o0, .ref o2, .ref o4, .null, .null, .null, .null, .int 0, .int 0])), (o0, .inr (0, [.ref (b1 0), .ref (b1 1), .ref (b1 2), .ref (b1 3), .ref (b1 4), .int 0])), ((b1 0), .inl (i1, 60, .inl zF)), ((b1 1), .inl (i1, 60, .inl zF)), ((b1 2), .inl (i1, 240, .inl zF)), ((b1 3), .inl (i1, 60, .inl zF)), ((b1 4), .inl (z1, 100, .inl zF)), (o2, .inr (1, [.long 0, .ref (b3 0), .ref (b3 1)])), ((b3 0), .inl (z1, 100, .inl zF)), ((b3 1), .inl (i1, 4, .inl rF)), (o4, .inr (1, [.long 0, .ref (b5 0), .ref (b5 1)])), ((b5 0), .inl (z1, 100, .inl zF)), ((b5 1), .inl (i1, 4, .inl rF)), (a6, .inl (z1, 4, .inl zF))] := hD
  have hK : va_K D vwCl [(i1, .int), (z1, .boolean)] s := hK
  refine W.widen (k := 13) (n := 744) (by omega) (by omega) ?_
  refine va_putF (ci := 2) (v := .ref a6) (ty := .array .boolean) (C := RX2) (T := TX2) (N := 9) hx hb hts (fun w h => List.mem_cons_of_mem _ (List.mem_append_left _ (List.mem_append_right _ h))) tyX2 tyX2_ok nmX2 hown hK hP hD hS 0 rfl rfl 3 (by decide) (hts _ (List.mem_of_getElem? (i := 14) (by decide +kernel))) (fun _ h9 => h9) rfl hin rfl (by decide +kernel) rfl rfl (Nat.le_of_ble_eq_true rfl) dX2_init_41 (fun H locs hP hD hS => ?_)
  have hP : va_P D vwCl [(h, .inr (2, [.ref o0, .ref o2, .ref o4, .ref a6, .null, .null, .null, .int 0, .int 0])), (o0, .inr (0, [.ref (b1 0), .ref (b1 1), .ref (b1 2), .ref (b1 3), .ref (b1 4), .int 0])), ((b1 0), .inl (i1, 60, .inl zF)), ((b1 1), .inl (i1, 60, .inl zF)), ((b1 2), .inl (i1, 240, .inl zF)), ((b1 3), .inl (i1, 60, .inl zF)), ((b1 4), .inl (z1, 100, .inl zF)), (o2, .inr (1, [.long 0, .ref (b3 0), .ref (b3 1)])), ((b3 0), .inl (z1, 100, .inl zF)), ((b3 1), .inl (i1, 4, .inl rF)), (o4, .inr (1, [.long 0, .ref (b5 0), .ref (b5 1)])), ((b5 0), .inl (z1, 100, .inl zF)), ((b5 1), .inl (i1, 4, .inl rF)), (a6, .inl (z1, 4, .inl zF))] H := hP
  have hD : va_D A [(h, .inr (2, [.ref o0, .ref o2, .ref o4, .ref a6, .null, .null, .null, .int 0, .int 0])), (o0, .inr (0, [.ref (b1 0), .ref (b1 1), .ref (b1 2), .ref (b1 3), .ref (b1 4), .int 0])), ((b1 0), .inl (i1, 60, .inl zF)), ((b1 1), .inl (i1, 60, .inl zF)), ((b1 2), .inl (i1, 240, .inl zF)), ((b1 3), .inl (i1, 60, .inl zF)), ((b1 4), .inl (z1, 100, .inl zF)), (o2, .inr (1, [.long 0, .ref (b3 0), .ref (b3 1)])), ((b3 0), .inl (z1, 100, .inl zF)), ((b3 1), .inl (i1, 4, .inl rF)), (o4, .inr (1, [.long 0, .ref (b5 0), .ref (b5 1)])), ((b5 0), .inl (z1, 100, .inl zF)), ((b5 1), .inl (i1, 4, .inl rF)), (a6, .inl (z1, 4, .inl zF))] := hD
  have hK : va_K D vwCl [(i1, .int), (z1, .boolean)] s := hK
  refine lv_aload_n hx hb dX2_init_44 rfl (lv_at hl 0 rfl) ?_
  refine lv_iconst (v := 3) hx hb dX2_init_45 (by decide +kernel) ?_
  refine va_newa (atype := .int) (a0 := (3, .inl zF)) hx hb (hts (.arrayClass .int) (List.mem_of_getElem? (i := 15) (by decide +kernel))) rfl hK hP hD hS hA (fun _ => rfl) (by decide) (N' := 3) (by decide +kernel) (Nat.le_of_ble_eq_true rfl) (Nat.le_of_ble_eq_true rfl) (Nat.le_of_ble_eq_true rfl) dX2_init_46 (fun a7 k7 H hK hP hD hS => ?_)
  rw [show k7 = i1 from g_raI hK 0 2 rfl rfl] at hP hD
  have hK := hK.sub (tys' := [(i1, .int), (z1, .boolean)]) [0, 1] rfl
  have hP : va_P D vwCl [(h, .inr (2, [.ref o0, .ref o2, .ref o4, .ref a6, .null, .null, .null, .int 0, .int 0])), (o0, .inr (0, [.ref (b1 0), .ref (b1 1), .ref (b1 2), .ref (b1 3), .ref (b1 4), .int 0])), ((b1 0), .inl (i1, 60, .inl zF)), ((b1 1), .inl (i1, 60, .inl zF)), ((b1 2), .inl (i1, 240, .inl zF)), ((b1 3), .inl (i1, 60, .inl zF)), ((b1 4), .inl (z1, 100, .inl zF)), (o2, .inr (1, [.long 0, .ref (b3 0), .ref (b3 1)])), ((b3 0), .inl (z1, 100, .inl zF)), ((b3 1), .inl (i1, 4, .inl rF)), (o4, .inr (1, [.long 0, .ref (b5 0), .ref (b5 1)])), ((b5 0), .inl (z1, 100, .inl zF)), ((b5 1), .inl (i1, 4, .inl rF)), (a6, .inl (z1, 4, .inl zF)), (a7, .inl (i1, 3, .inl zF))] H := hP
  have hD : va_D A [(h, .inr (2, [.ref o0, .ref o2, .ref o4, .ref a6, .null, .null, .null, .int 0, .int 0])), (o0, .inr (0, [.ref (b1 0), .ref (b1 1), .ref (b1 2), .ref (b1 3), .ref (b1 4), .int 0])), ((b1 0), .inl (i1, 60, .inl zF)), ((b1 1), .inl (i1, 60, .inl zF)), ((b1 2), .inl (i1, 240, .inl zF)), ((b1 3), .inl (i1, 60, .inl zF)), ((b1 4), .inl (z1, 100, .inl zF)), (o2, .inr (1, [.long 0, .ref (b3 0), .ref (b3 1)])), ((b3 0), .inl (z1, 100, .inl zF)), ((b3 1), .inl (i1, 4, .inl rF)), (o4, .inr (1, [.long 0, .ref (b5 0), .ref (b5 1)])), ((b5 0), .inl (z1, 100, .inl zF)), ((b5 1), .inl (i1, 4, .inl rF)), (a6, .inl (z1, 4, .inl zF)), (a7, .inl (i1, 3, .inl zF))] := hD
  have hK : va_K D vwCl [(i1, .int), (z1, .boolean)] s := hK
  refine W.widen (k := 14) (n := 747) (by omega) (by omega) ?_
  refine va_putF (ci := 2) (v := .ref a7) (ty := .array .int) (C := RX2) (T := TX2) (N := 9) hx hb hts (fun w h => List.mem_cons_of_mem _ (List.mem_append_left _ (List.mem_append_right _ h))) tyX2 tyX2_ok nmX2 hown hK hP hD hS 0 rfl rfl 4 (by decide) (hts _ (List.mem_of_getElem? (i := 16) (by decide +kernel))) (fun _ h9 => h9) rfl hin rfl (by decide +kernel) rfl rfl (Nat.le_of_ble_eq_true rfl) dX2_init_48 (fun H locs hP hD hS => ?_)
  have hP : va_P D vwCl [(h, .inr (2, [.ref o0, .ref o2, .ref o4, .ref a6, .ref a7, .null, .null, .int 0, .int 0])), (o0, .inr (0, [.ref (b1 0), .ref (b1 1), .ref (b1 2), .ref (b1 3), .ref (b1 4), .int 0])), ((b1 0), .inl (i1, 60, .inl zF)), ((b1 1), .inl (i1, 60, .inl zF)), ((b1 2), .inl (i1, 240, .inl zF)), ((b1 3), .inl (i1, 60, .inl zF)), ((b1 4), .inl (z1, 100, .inl zF)), (o2, .inr (1, [.long 0, .ref (b3 0), .ref (b3 1)])), ((b3 0), .inl (z1, 100, .inl zF)), ((b3 1), .inl (i1, 4, .inl rF)), (o4, .inr (1, [.long 0, .ref (b5 0), .ref (b5 1)])), ((b5 0), .inl (z1, 100, .inl zF)), ((b5 1), .inl (i1, 4, .inl rF)), (a6, .inl (z1, 4, .inl zF)), (a7, .inl (i1, 3, .inl zF))] H := hP
  have hD : va_D A [(h, .inr (2, [.ref o0, .ref o2, .ref o4, .ref a6, .ref a7, .null, .null, .int 0, .int 0])), (o0, .inr (0, [.ref (b1 0), .ref (b1 1), .ref (b1 2), .ref (b1 3), .ref (b1 4), .int 0])), ((b1 0), .inl (i1, 60, .inl zF)), ((b1 1), .inl (i1, 60, .inl zF)), ((b1 2), .inl (i1, 240, .inl zF)), ((b1 3), .inl (i1, 60, .inl zF)), ((b1 4), .inl (z1, 100, .inl zF)), (o2, .inr (1, [.long 0, .ref (b3 0), .ref (b3 1)])), ((b3 0), .inl (z1, 100, .inl zF)), ((b3 1), .inl (i1, 4, .inl rF)), (o4, .inr (1, [.long 0, .ref (b5 0), .ref (b5 1)])), ((b5 0), .inl (z1, 100, .inl zF)), ((b5 1), .inl (i1, 4, .inl rF)), (a6, .inl (z1, 4, .inl zF)), (a7, .inl (i1, 3, .inl zF))] := hD
  have hK : va_K D vwCl [(i1, .int), (z1, .boolean)] s := hK
  refine lv_aload_n hx hb dX2_init_51 rfl (lv_at hl 0 rfl) ?_
  refine lv_iconst (v := 3) hx hb dX2_init_52 (by decide +kernel) ?_
  refine va_newa (atype := .int) (a0 := (3, .inl zF)) hx hb (hts (.arrayClass .int) (List.mem_of_getElem? (i := 15) (by decide +kernel))) rfl hK hP hD hS hA (fun _ => rfl) (by decide) (N' := 3) (by decide +kernel) (Nat.le_of_ble_eq_true rfl) (Nat.le_of_ble_eq_true rfl) (Nat.le_of_ble_eq_true rfl) dX2_init_53 (fun a8 k8 H hK hP hD hS => ?_)
  rw [show k8 = i1 from g_raI hK 0 2 rfl rfl] at hP hD
  have hK := hK.sub (tys' := [(i1, .int), (z1, .boolean)]) [0, 1] rfl
  have hP : va_P D vwCl [(h, .inr (2, [.ref o0, .ref o2, .ref o4, .ref a6, .ref a7, .null, .null, .int 0, .int 0])), (o0, .inr (0, [.ref (b1 0), .ref (b1 1), .ref (b1 2), .ref (b1 3), .ref (b1 4), .int 0])), ((b1 0), .inl (i1, 60, .inl zF)), ((b1 1), .inl (i1, 60, .inl zF)), ((b1 2), .inl (i1, 240, .inl zF)), ((b1 3), .inl (i1, 60, .inl zF)), ((b1 4), .inl (z1, 100, .inl zF)), (o2, .inr (1, [.long 0, .ref (b3 0), .ref (b3 1)])), ((b3 0), .inl (z1, 100, .inl zF)), ((b3 1), .inl (i1, 4, .inl rF)), (o4, .inr (1, [.long 0, .ref (b5 0), .ref (b5 1)])), ((b5 0), .inl (z1, 100, .inl zF)), ((b5 1), .inl (i1, 4, .inl rF)), (a6, .inl (z1, 4, .inl zF)), (a7, .inl (i1, 3, .inl zF)), (a8, .inl (i1, 3, .inl zF))] H := hP
  have hD : va_D A [(h, .inr (2, [.ref o0, .ref o2, .ref o4, .ref a6, .ref a7, .null, .null, .int 0, .int 0])), (o0, .inr (0, [.ref (b1 0), .ref (b1 1), .ref (b1 2), .ref (b1 3), .ref (b1 4), .int 0])), ((b1 0), .inl (i1, 60, .inl zF)), ((b1 1), .inl (i1, 60, .inl zF)), ((b1 2), .inl (i1, 240, .inl zF)), ((b1 3), .inl (i1, 60, .inl zF)), ((b1 4), .inl (z1, 100, .inl zF)), (o2, .inr (1, [.long 0, .ref (b3 0), .ref (b3 1)])), ((b3 0), .inl (z1, 100, .inl zF)), ((b3 1), .inl (i1, 4, .inl rF)), (o4, .inr (1, [.long 0, .ref (b5 0), .ref (b5 1)])), ((b5 0), .inl (z1, 100, .inl zF)), ((b5 1), .inl (i1, 4, .inl rF)), (a6, .inl (z1, 4, .inl zF)), (a7, .inl (i1, 3, .inl zF)), (a8, .inl (i1, 3, .inl zF))] := hD
  have hK : va_K D vwCl [(i1, .int), (z1, .boolean)] s := hK
  refine W.widen (k := 15) (n := 750) (by omega) (by omega) ?_
  refine va_putF (ci := 2) (v := .ref a8) (ty := .array .int) (C := RX2) (T := TX2) (N := 9) hx hb hts (fun w h => List.mem_cons_of_mem _ (List.mem_append_left _ (List.mem_append_right _ h))) tyX2 tyX2_ok nmX2 hown hK hP hD hS 0 rfl rfl 5 (by decide) (hts _ (List.mem_of_getElem? (i := 17) (by decide +kernel))) (fun _ h9 => h9) rfl hin rfl (by decide +kernel) rfl rfl (Nat.le_of_ble_eq_true rfl) dX2_init_55 (fun H locs hP hD hS => ?_)
  have hP : va_P D vwCl [(h, .inr (2, [.ref o0, .ref o2, .ref o4, .ref a6, .ref a7, .ref a8, .null, .int 0, .int 0])), (o0, .inr (0, [.ref (b1 0), .ref (b1 1), .ref (b1 2), .ref (b1 3), .ref (b1 4), .int 0])), ((b1 0), .inl (i1, 60, .inl zF)), ((b1 1), .inl (i1, 60, .inl zF)), ((b1 2), .inl (i1, 240, .inl zF)), ((b1 3), .inl (i1, 60, .inl zF)), ((b1 4), .inl (z1, 100, .inl zF)), (o2, .inr (1, [.long 0, .ref (b3 0), .ref (b3 1)])), ((b3 0), .inl (z1, 100, .inl zF)), ((b3 1), .inl (i1, 4, .inl rF)), (o4, .inr (1, [.long 0, .ref (b5 0), .ref (b5 1)])), ((b5 0), .inl (z1, 100, .inl zF)), ((b5 1), .inl (i1, 4, .inl rF)), (a6, .inl (z1, 4, .inl zF)), (a7, .inl (i1, 3, .inl zF)), (a8, .inl (i1, 3, .inl zF))] H := hP
  have hD : va_D A [(h, .inr (2, [.ref o0, .ref o2, .ref o4, .ref a6, .ref a7, .ref a8, .null, .int 0, .int 0])), (o0, .inr (0, [.ref (b1 0), .ref (b1 1), .ref (b1 2), .ref (b1 3), .ref (b1 4), .int 0])), ((b1 0), .inl (i1, 60, .inl zF)), ((b1 1), .inl (i1, 60, .inl zF)), ((b1 2), .inl (i1, 240, .inl zF)), ((b1 3), .inl (i1, 60, .inl zF)), ((b1 4), .inl (z1, 100, .inl zF)), (o2, .inr (1, [.long 0, .ref (b3 0), .ref (b3 1)])), ((b3 0), .inl (z1, 100, .inl zF)), ((b3 1), .inl (i1, 4, .inl rF)), (o4, .inr (1, [.long 0, .ref (b5 0), .ref (b5 1)])), ((b5 0), .inl (z1, 100, .inl zF)), ((b5 1), .inl (i1, 4, .inl rF)), (a6, .inl (z1, 4, .inl zF)), (a7, .inl (i1, 3, .inl zF)), (a8, .inl (i1, 3, .inl zF))] := hD
  have hK : va_K D vwCl [(i1, .int), (z1, .boolean)] s := hK
  refine lv_aload_n hx hb dX2_init_58 rfl (lv_at hl 0 rfl) ?_
  refine lv_iconst (v := 3) hx hb dX2_init_59 (by decide +kernel) ?_
  refine va_newa (atype := .int) (a0 := (3, .inl zF)) hx hb (hts (.arrayClass .int) (List.mem_of_getElem? (i := 15) (by decide +kernel))) rfl hK hP hD hS hA (fun _ => rfl) (by decide) (N' := 3) (by decide +kernel) (Nat.le_of_ble_eq_true rfl) (Nat.le_of_ble_eq_true rfl) (Nat.le_of_ble_eq_true rfl) dX2_init_60 (fun a9 k9 H hK hP hD hS => ?_)
  rw [show k9 = i1 from g_raI hK 0 2 rfl rfl] at hP hD
  have hK := hK.sub (tys' := [(i1, .int), (z1, .boolean)]) [0, 1] rfl
  have hP : va_P D vwCl [(h, .inr (2, [.ref o0, .ref o2, .ref o4, .ref a6, .ref a7, .ref a8, .null, .int 0, .int 0])), (o0, .inr (0, [.ref (b1 0), .ref (b1 1), .ref (b1 2), .ref (b1 3), .ref (b1 4), .int 0])), ((b1 0), .inl (i1, 60, .inl zF)), ((b1 1), .inl (i1, 60, .inl zF)), ((b1 2), .inl (i1, 240, .inl zF)), ((b1 3), .inl (i1, 60, .inl zF)), ((b1 4), .inl (z1, 100, .inl zF)), (o2, .inr (1, [.long 0, .ref (b3 0), .ref (b3 1)])), ((b3 0), .inl (z1, 100, .inl zF)), ((b3 1), .inl (i1, 4, .inl rF)), (o4, .inr (1, [.long 0, .ref (b5 0), .ref (b5 1)])), ((b5 0), .inl (z1, 100, .inl zF)), ((b5 1), .inl (i1, 4, .inl rF)), (a6, .inl (z1, 4, .inl zF)), (a7, .inl (i1, 3, .inl zF)), (a8, .inl (i1, 3, .inl zF)), (a9, .inl (i1, 3, .inl zF))] H := hP
  have hD : va_D A [(h, .inr (2, [.ref o0, .ref o2, .ref o4, .ref a6, .ref a7, .ref a8, .null, .int 0, .int 0])), (o0, .inr (0, [.ref (b1 0), .ref (b1 1), .ref (b1 2), .ref (b1 3), .ref (b1 4), .int 0])), ((b1 0), .inl (i1, 60, .inl zF)), ((b1 1), .inl (i1, 60, .inl zF)), ((b1 2), .inl (i1, 240, .inl zF)), ((b1 3), .inl (i1, 60, .inl zF)), ((b1 4), .inl (z1, 100, .inl zF)), (o2, .inr (1, [.long 0, .ref (b3 0), .ref (b3 1)])), ((b3 0), .inl (z1, 100, .inl zF)), ((b3 1), .inl (i1, 4, .inl rF)), (o4, .inr (1, [.long 0, .ref (b5 0), .ref (b5 1)])), ((b5 0), .inl (z1, 100, .inl zF)), ((b5 1), .inl (i1, 4, .inl rF)), (a6, .inl (z1, 4, .inl zF)), (a7, .inl (i1, 3, .inl zF)), (a8, .inl (i1, 3, .inl zF)), (a9, .inl (i1, 3, .inl zF))] := hD
  have hK : va_K D vwCl [(i1, .int), (z1, .boolean)] s := hK
  refine W.widen (k := 16) (n := 753) (by omega) (by omega) ?_
  refine va_putF (ci := 2) (v := .ref a9) (ty := .array .int) (C := RX2) (T := TX2) (N := 9) hx hb hts (fun w h => List.mem_cons_of_mem _ (List.mem_append_left _ (List.mem_append_right _ h))) tyX2 tyX2_ok nmX2 hown hK hP hD hS 0 rfl rfl 6 (by decide) (hts _ (List.mem_of_getElem? (i := 18) (by decide +kernel))) (fun _ h9 => h9) rfl hin rfl (by decide +kernel) rfl rfl (Nat.le_of_ble_eq_true rfl) dX2_init_62 (fun H locs hP hD hS => ?_)
  have hP : va_P D vwCl [(h, .inr (2, [.ref o0, .ref o2, .ref o4, .ref a6, .ref a7, .ref a8, .ref a9, .int 0, .int 0])), (o0, .inr (0, [.ref (b1 0), .ref (b1 1), .ref (b1 2), .ref (b1 3), .ref (b1 4), .int 0])), ((b1 0), .inl (i1, 60, .inl zF)), ((b1 1), .inl (i1, 60, .inl zF)), ((b1 2), .inl (i1, 240, .inl zF)), ((b1 3), .inl (i1, 60, .inl zF)), ((b1 4), .inl (z1, 100, .inl zF)), (o2, .inr (1, [.long 0, .ref (b3 0), .ref (b3 1)])), ((b3 0), .inl (z1, 100, .inl zF)), ((b3 1), .inl (i1, 4, .inl rF)), (o4, .inr (1, [.long 0, .ref (b5 0), .ref (b5 1)])), ((b5 0), .inl (z1, 100, .inl zF)), ((b5 1), .inl (i1, 4, .inl rF)), (a6, .inl (z1, 4, .inl zF)), (a7, .inl (i1, 3, .inl zF)), (a8, .inl (i1, 3, .inl zF)), (a9, .inl (i1, 3, .inl zF))] H := hP
  have hD : va_D A [(h, .inr (2, [.ref o0, .ref o2, .ref o4, .ref a6, .ref a7, .ref a8, .ref a9, .int 0, .int 0])), (o0, .inr (0, [.ref (b1 0), .ref (b1 1), .ref (b1 2), .ref (b1 3), .ref (b1 4), .int 0])), ((b1 0), .inl (i1, 60, .inl zF)), ((b1 1), .inl (i1, 60, .inl zF)), ((b1 2), .inl (i1, 240, .inl zF)), ((b1 3), .inl (i1, 60, .inl zF)), ((b1 4), .inl (z1, 100, .inl zF)), (o2, .inr (1, [.long 0, .ref (b3 0), .ref (b3 1)])), ((b3 0), .inl (z1, 100, .inl zF)), ((b3 1), .inl (i1, 4, .inl rF)), (o4, .inr (1, [.long 0, .ref (b5 0), .ref (b5 1)])), ((b5 0), .inl (z1, 100, .inl zF)), ((b5 1), .inl (i1, 4, .inl rF)), (a6, .inl (z1, 4, .inl zF)), (a7, .inl (i1, 3, .inl zF)), (a8, .inl (i1, 3, .inl zF)), (a9, .inl (i1, 3, .inl zF))] := hD
  have hK : va_K D vwCl [(i1, .int), (z1, .boolean)] s := hK
  have hP9 := hP.sub (ws' := XW i1 z1 (fun k => match k with | 0 => h | k + 1 => (fun k => match k with | 0 => o0 | 1 => o2 | 2 => o4 | 3 => (b1 0) | 4 => (b1 1) | 5 => (b1 2) | 6 => (b1 3) | 7 => (b1 4) | 8 => (b3 0) | 9 => (b3 1) | 10 => (b5 0) | 11 => (b5 1) | 12 => a6 | 13 => a7 | 14 => a8 | _ => a9) k) uX0) [0, 1, 7, 10, 2, 3, 4, 5, 6, 8, 9, 11, 12, 13, 14, 15, 16] rfl
  have hD9 := hD.sub (ws' := XW i1 z1 (fun k => match k with | 0 => h | k + 1 => (fun k => match k with | 0 => o0 | 1 => o2 | 2 => o4 | 3 => (b1 0) | 4 => (b1 1) | 5 => (b1 2) | 6 => (b1 3) | 7 => (b1 4) | 8 => (b3 0) | 9 => (b3 1) | 10 => (b5 0) | 11 => (b5 1) | 12 => a6 | 13 => a7 | 14 => a8 | _ => a9) k) uX0) [0, 1, 7, 10, 2, 3, 4, 5, 6, 8, 9, 11, 12, 13, 14, 15, 16] (by decide) rfl
  have hK9 := hK.sub (tys' := [(i1, .int), (z1, .boolean)]) [0, 1] rfl
  exact W.vret hx hb hr (fun t ht hW => ⟨⟨((fun k => match k with | 0 => o0 | 1 => o2 | 2 => o4 | 3 => (b1 0) | 4 => (b1 1) | 5 => (b1 2) | 6 => (b1 3) | 7 => (b1 4) | 8 => (b3 0) | 9 => (b3 1) | 10 => (b5 0) | 11 => (b5 1) | 12 => a6 | 13 => a7 | 14 => a8 | _ => a9), i1, z1), rfl, trivial, by rw [ht]; exact hP9, va_K.moved hW.alike hK9, hD9⟩, hS.F ht⟩) hS.2.2 dX2_init_65
