/-! ROWS OF THE LAW: calls with a part of the world, methods with handlers -/
theorem g_fm {α β : Type} {f : α → Option β} : ∀ (is : List α) (w : List β), is.map f = w.map some → is.filterMap f = w
  | [], [], _ => rfl
  | [], _ :: _, h => by cases h
  | _ :: _, [], h => by cases h
  | a :: is, b :: w, h => by
    have h1 : f a = some b := (List.cons.inj h).1
    have h2 : is.map f = w.map some := (List.cons.inj h).2
    rw [List.filterMap_cons, h1, g_fm is w h2]
def LE (U : State) : Prop := XE U ∧ va_Nc "java/lang/IllegalArgumentException" "java/lang/IndexOutOfBoundsException" U ∧ va_Nc "java/lang/IllegalStateException" "java/lang/IndexOutOfBoundsException" U ∧ va_Nc "java/lang/IllegalStateException" "java/lang/IllegalArgumentException" U
theorem LE_em : gEM LE := fun U U' hW h => ⟨XE_em U U' hW h.1, h.2.1.moved hW.alike, h.2.2.1.moved hW.alike, h.2.2.2.moved hW.alike⟩
/-- a method that returns, also where it has handlers; what it makes is counted -/
def gW {Sg : Type} (l : Launch) (y : MethodName) (ws : List Cond) (rm : Room) (D : va_G) (tys : List (ClassId × FieldType)) (wd : Sg → va_W) (E : State → Prop) (T : (Nat → Prop) → State → Heap → Prop) (av : List Value) (u : Sg) (rv : Option Value) (u' : Sg) (mc ms : Nat) : Prop :=
  ∀ sz : Nat, Met l y ws rm (fun a U => gPc D tys wd E av u sz a U ∧ T (va_A (wd u) sz) U U.heap) (gQc D wd rv u' (va_A (wd u) sz)) mc ms (va_A (wd u) sz)
section LR1
variable {Sg : Type} {l : Launch} {y : MethodName} {ws ws' : List Cond} {rm : Room} {D : va_G} {tys : List (ClassId × FieldType)} {wd : Sg → va_W} {E : State → Prop} {T : (Nat → Prop) → State → Heap → Prop} {av : List Value} {u u' : Sg} {rv : Option Value} {cc : ByteArray} {maxL : Nat} {ret : Option FieldType} {mc ms : Nat} {hh : List (Nat × Nat × Nat × Nat)}
theorem g_startW (hy : plainName y.cls = true) (hw : ws = Cond.codeWith y cc maxL ret hh :: ws') (hlen : (lg_sl av).length ≤ maxL)
    (body : ∀ (p : Program) (e : Env) (s : State) (m : MethodId) (below : List Frame) (meth : Method) (c : Code) (A : Nat → Prop) (ls : Array Slot) (Q : State → Prop),
      p.tables.exec = Jvm.exec → c.code = cc → c.maxLocals = maxL → meth.sig.returnType = ret → (∀ w ∈ ws, w.before av.toArray s = true) → s.vm.findClass y.cls = some m.cls → meth.locks = false → E s → va_P D vwCl (wd u) s.heap → va_K D vwCl tys s → va_D A (wd u) → (∀ q, s.heap.size ≤ q → A q) → lv_has ls maxL (lv_args 0 av) →
      Q = MQ below (gQc D wd rv u' A) av.toArray s mc ms A → va_S A s.heap s.heap [] → T A s s.heap → c.exceptionTable.toList = tableOf hh → W p l e rm s m av.toArray below meth c s.heap [] 0 0 Q (F0 m 0 ls [])) : gW l y ws rm D tys wd E T av u rv u' mc ms := by
  intro sz
  refine va_MetW (cc := cc) (maxL := maxL) (ret := ret) (hh := hh) hy hw ?_
  intro p e s m args below meth c s₁ B hml hv
  obtain ⟨⟨rfl, hsz, hE, hP, hK, hD0⟩, hT⟩ := hv
  have hl := lv_entry av (n := maxL) hlen
  rw [lg_entry_eq]
  generalize (lg_sl av ++ List.replicate (maxL - (lg_sl av).length) Slot.unset).toArray = ls at hl ⊢
  subst hsz
  have hts := atoms_spec (ws := ws) B.pre
  exact body p e s m below meth c (va_A (wd u) s.heap.size) ls _ B.exec B.bytes hml B.returns hts (findClass_of_methodNamed B.named) B.notSynchronized hE hP hK hD0.self (fun q h => Or.inr h) hl rfl va_S.rf hT (vx_table (x := y) B (hts _ (by rw [hw]; exact List.mem_cons_self)))
end LR1
section LR2
variable {Sg : Type} {p : Program} {l : Launch} {e : Env} {R : Room} {s : State} {m : MethodId} {args : Array Value} {below : List Frame} {meth : Method} {c : Code} {H : Heap} {locs : List Loc} {cells slots : Nat} {Q : State → Prop}
variable {D : va_G} {tys : List (ClassId × FieldType)} {wd : Sg → va_W} {E2 : State → Prop} {T : (Nat → Prop) → State → Heap → Prop} {u u' : Sg} {En : String} {rv : Option Value} {cc bytes : ByteArray} {pc : Nat} {ls : Array Slot} {A0 : Nat → Prop} {H0 : Heap}
variable {y : MethodName} {ws Ts : List Cond} {rm : Room} {maxL nL n index mc ms : Nat} {ret : Option FieldType} {own C : String} {b : Nat} {As rest st0 : List Value} {wl wr wn : va_W}
theorem g_iretW {u1 : Sg} {v : Int32} {A : Nat → Prop} (hx : p.tables.exec = Jvm.exec) (hb : c.code = cc) (hr : meth.sig.returnType = some .int) (hlk : meth.locks = false) (hQ : Q = MQ below (gQc D wd rv u' A) args s cells slots A) (hP : va_P D vwCl (wd u1) H) (hD : va_D A (wd u1)) (hS : va_S A s.heap H locs)
    (hdg : decode cc pc = .ok (.ireturn, 1)) (hv : some (Value.int v) = rv) (hu : wd u1 = wd u') : W p l e R s m args below meth c H locs cells slots Q (F0 m pc ls [.int v]) := by
  subst hQ; subst hv; rw [hu] at hP hD
  exact W.iret (v := v) hx hb hr (fun t ht hW => ⟨⟨rfl, by rw [ht]; exact hP, hD⟩, hS.F ht⟩) hS.2.2 hdg hlk
/-- behind a call of a part of the world -/
theorem g_afterF {g : JFrame} {aa : Array Value} (hr : va_Run p l e R s m args below meth c H locs cells slots mc ms g rest (gQc D wd rv u' (va_A (wd u) H.size) aa) (va_A (wd u) H.size)) (hP : va_P D vwCl wl H) (hD : va_D A0 wl) (hS : va_S A0 H0 H locs) (hA : ∀ q, H0.size ≤ q → A0 q)
    (isC isR isP : List Nat) (hC : isC.map (fun i => wl[i]?) = (wd u).map some) (hR : isR.map (fun i => wl[i]?) = wr.map some) (hn : va_nd isR = true) (hdis : ∀ i ∈ isR, i ∉ isC) (hnP : va_nd isP = true) (hPm : isP.map (fun i => (wr ++ wd u')[i]?) = wn.map some)
    (kk : ∀ (H1 : Heap) (locs1 : List Loc), va_P D vwCl wn H1 → va_D A0 wn → va_S A0 H0 H1 locs1 → W p l e R s m args below meth c H1 locs1 (cells + mc) (slots + ms) Q { g with pc := g.pc + 3, stack := rv.toList ++ rest }) : W p l e R s m args below meth c H locs cells slots Q g := by
  have hf := va_free (wc := wd u) hD hS hA isC hC
  intro T hT X
  obtain ⟨v, st₀, t, T', L, h0, X', hL, e1, e2, ⟨⟨hv, hP1, hD1⟩, hz, hk⟩, st⟩ := hr T hT X
  cases hv
  rw [h0] at hz hk
  obtain ⟨j1, j2⟩ := va_join (H1 := t.heap) hP hD isC isR hC hR hn hdis hk hf hP1 hD1
  obtain ⟨t2, a1, b1⟩ := kk T'.heap (locs ++ L) (by rw [e1]; exact j1.sub isP (g_fm _ _ hPm)) (j2.sub isP hnP hPm)
    ⟨Nat.le_trans hS.1 (by rw [e1]; exact hz), fun q h1 h2 => by rw [e1, hk q (Nat.lt_of_lt_of_le h1 hS.1) (fun z => h2 (hf q z))]; exact hS.2.1 q h1 h2, fun q hq => by
      rcases List.mem_append.mp hq with h | h
      · exact hS.2.2 q h
      · exact hf _ (hL q h)⟩ T' rfl X'
  exact ⟨t2, st t2 a1, b1⟩
theorem g_callVF {ws' : List Cond} {ci N : Nat} {T9 : u_T} {fs : List Value} (hx : p.tables.exec = Jvm.exec) (hb : c.code = cc) (hml : c.maxLocals = nL) (hown : s.vm.findClass own = some m.cls) (hts : ∀ w ∈ Ts, w.before args s = true)
    (hM : gM l y ws rm D tys wd E2 (.ref b :: As) u rv u') (hT : GoodIn Ts (wsV own index C y ws)) (hw : ws = Cond.code y bytes maxL ret :: ws') (hrc : rm.cells = 0) (hrs : rm.slots = 0)
    (hd : y.cls = C ∧ y.cls ≠ "java/lang/invoke/MethodHandle" ∧ y.cls ≠ "java/lang/invoke/VarHandle" ∧ (parseMethodDescriptor y.desc).map (fun d => d.parameters.length) = some n) (hR : rm.frames + 1 ≤ R.frames ∧ 8 + (maxL + 11) + rm.locals ≤ R.locals)
    (hE2 : gEM E2) (hE : E2 s) (hP : va_P D vwCl wl H) (hK : va_K D vwCl tys s) (hD : va_D A0 wl) (hS : va_S A0 H0 H locs) (hA : ∀ q, H0.size ≤ q → A0 q)
    (q0 : Nat) (he : (wd u)[q0]? = some (b, .inr (ci, fs))) (hc : vwCl[ci]? = some (C, T9, N)) (hn : As.length = n) (hsz : ls.size = nL) (hst : st0 = As.reverse ++ .ref b :: rest) (hr : (rest.map fun v => v.category).sum ≤ 8)
    (hdg : decode cc pc = .ok (.invokevirtual index, 3)) (hcs : cells ≤ R.cells ∧ slots ≤ R.slots)
    (isC isR isP : List Nat) (hnC : va_nd isC = true) (hC : isC.map (fun i => wl[i]?) = (wd u).map some) (hRr : isR.map (fun i => wl[i]?) = wr.map some) (hnR : va_nd isR = true) (hdis : ∀ i ∈ isR, i ∉ isC) (hnP : va_nd isP = true) (hPm : isP.map (fun i => (wr ++ wd u')[i]?) = wn.map some)
    (kk : ∀ (H1 : Heap) (locs1 : List Loc), va_P D vwCl wn H1 → va_D A0 wn → va_S A0 H0 H1 locs1 → W p l e R s m args below meth c H1 locs1 cells slots Q (F0 m (pc + 3) ls (rv.toList ++ rest))) : W p l e R s m args below meth c H locs cells slots Q (F0 m pc ls st0) := by
  have hPc : va_P D vwCl (wd u) H := hP.sub isC (g_fm _ _ hC)
  have hDc : va_D A0 (wd u) := hD.sub isC hnC hC
  exact g_afterF (aa := (Value.ref b :: As).toArray) (va_runV (As := As) (rest := rest) ⟨hx, hb, hml, hown, hts⟩ (hM H.size) (cwV n hts hT hw hrc hrs hd hR) ⟨gPc_blind hE2, va_recv (q := (C, T9, N)) hK hPc hc he, fun U hU hW => ⟨rfl, by rw [hU], hE2 _ _ hW hE, by rw [hU]; exact hPc, va_K.moved hW.alike hK, hDc.weaken (fun _ _ _ _ => trivial)⟩⟩ rfl hn hsz hst (lv_room hr) hdg hcs) hP hD hS hA isC isR isP hC hRr hnR hdis hnP hPm kk
/-- a static method with handlers, with a part of the world -/
theorem g_callSWF {ws' : List Cond} {hh : List (Nat × Nat × Nat × Nat)} (hx : p.tables.exec = Jvm.exec) (hb : c.code = cc) (hml : c.maxLocals = nL) (hown : s.vm.findClass own = some m.cls) (hts : ∀ w ∈ Ts, w.before args s = true)
    (hM : gW l y ws rm D tys wd E2 T As u rv u' mc ms) (hT : GoodIn Ts (va_wsS own index y ws)) (hw : ws = Cond.codeWith y bytes maxL ret hh :: ws') (hrc : rm.cells = mc) (hrs : rm.slots = ms)
    (hd : y.cls ≠ "java/lang/invoke/MethodHandle" ∧ y.cls ≠ "java/lang/invoke/VarHandle" ∧ (parseMethodDescriptor y.desc).map (fun d => d.parameters.length) = some n) (hR : rm.frames + 1 ≤ R.frames ∧ 8 + (maxL + 11) + rm.locals ≤ R.locals)
    (hE2 : gEM E2) (hE : E2 s) (hTm : gTM T) (hTs : T A0 s s.heap) (hP : va_P D vwCl wl H) (hK : va_K D vwCl tys s) (hD : va_D A0 wl) (hS : va_S A0 s.heap H locs) (hA : ∀ q, s.heap.size ≤ q → A0 q)
    (hn : As.length = n) (hsz : ls.size = nL) (hst : st0 = As.reverse ++ rest) (hr : (rest.map fun v => v.category).sum ≤ 8)
    (hdg : decode cc pc = .ok (.invokestatic index, 3)) (hcs : cells + mc ≤ R.cells ∧ slots + ms ≤ R.slots)
    (isC isR isP : List Nat) (hnC : va_nd isC = true) (hC : isC.map (fun i => wl[i]?) = (wd u).map some) (hRr : isR.map (fun i => wl[i]?) = wr.map some) (hnR : va_nd isR = true) (hdis : ∀ i ∈ isR, i ∉ isC) (hnP : va_nd isP = true) (hPm : isP.map (fun i => (wr ++ wd u')[i]?) = wn.map some)
    (kk : ∀ (H1 : Heap) (locs1 : List Loc), va_P D vwCl wn H1 → va_D A0 wn → va_S A0 s.heap H1 locs1 → W p l e R s m args below meth c H1 locs1 (cells + mc) (slots + ms) Q (F0 m (pc + 3) ls (rv.toList ++ rest))) : W p l e R s m args below meth c H locs cells slots Q (F0 m pc ls st0) := by
  have hPc : va_P D vwCl (wd u) H := hP.sub isC (g_fm _ _ hC)
  have hDc : va_D A0 (wd u) := hD.sub isC hnC hC
  exact g_afterF (aa := As.toArray) (vx_runSW (As := As) (rest := rest) ⟨hx, hb, hml, hown, hts⟩ (hM H.size) (vx_cwSW n hts hT hw hrc hrs hd hR) ⟨gPcX_blind hE2 hTm, fun U hU hW => ⟨⟨rfl, by rw [hU], hE2 _ _ hW hE, by rw [hU]; exact hPc, va_K.moved hW.alike hK, hDc.weaken (fun _ _ _ _ => trivial)⟩, g_Tin hTm hTs hDc hS hA hU hW⟩⟩ rfl hn hsz hst (lv_room hr) hdg hcs) hP hD hS hA isC isR isP hC hRr hnR hdis hnP hPm kk
/-- a call that throws, with a part of the world: what is thrown lies over this frame -/
theorem g_xVF {ws' : List Cond} {ci N : Nat} {T9 : u_T} {fs : List Value} (hx : p.tables.exec = Jvm.exec) (hb : c.code = cc) (hml : c.maxLocals = nL) (hown : s.vm.findClass own = some m.cls) (hts : ∀ w ∈ Ts, w.before args s = true)
    (hM : gX l y ws rm D tys wd E2 T (.ref b :: As) u En) (hT : GoodIn Ts (wsV own index C y ws)) (hw : ws = Cond.code y bytes maxL ret :: ws') (hrc : rm.cells = 1) (hrs : rm.slots = 6)
    (hd : y.cls = C ∧ y.cls ≠ "java/lang/invoke/MethodHandle" ∧ y.cls ≠ "java/lang/invoke/VarHandle" ∧ (parseMethodDescriptor y.desc).map (fun d => d.parameters.length) = some n) (hR : rm.frames + 1 ≤ R.frames ∧ 8 + (maxL + 11) + rm.locals ≤ R.locals)
    (hE2 : gEM E2) (hE : E2 s) (hTm : gTM T) (hTs : T A0 s s.heap) (hP : va_P D vwCl wl H) (hK : va_K D vwCl tys s) (hD : va_D A0 wl) (hS : va_S A0 s.heap H locs) (hA : ∀ q, s.heap.size ≤ q → A0 q)
    (q0 : Nat) (he : (wd u)[q0]? = some (b, .inr (ci, fs))) (hc : vwCl[ci]? = some (C, T9, N)) (hn : As.length = n) (hsz : ls.size = nL) (hst : st0 = As.reverse ++ .ref b :: rest) (hr : (rest.map fun v => v.category).sum ≤ 8)
    (hdg : decode cc pc = .ok (.invokevirtual index, 3)) (hcs : cells + 1 ≤ R.cells ∧ slots + 6 ≤ R.slots)
    (isC isR isP : List Nat) (hnC : va_nd isC = true) (hC : isC.map (fun i => wl[i]?) = (wd u).map some) (hRr : isR.map (fun i => wl[i]?) = wr.map some) (hnR : va_nd isR = true) (hdis : ∀ i ∈ isR, i ∉ isC) (hnP : va_nd isP = true) (hPm : isP.map (fun i => (wr ++ wd u)[i]?) = wl.map some)
    (kx : ∀ (ce : Cell) (q : Addr) (H1 : Heap) (locs1 : List Loc), va_P D vwCl wl H1 → va_D A0 wl → va_S A0 s.heap H1 locs1 → H1[q]? = some ce → ce.vm = .none → s.vm.findClass En = some ce.cls → vx_W p l e R s m args below meth c H1 locs1 (cells + 1) (slots + 6) Q (F0 m pc ls rest) q) :
    W p l e R s m args below meth c H locs cells slots Q (F0 m pc ls st0) := by
  have hPc : va_P D vwCl (wd u) H := hP.sub isC (g_fm _ _ hC)
  have hDc : va_D A0 (wd u) := hD.sub isC hnC hC
  have hf := va_free (wc := wd u) hD hS hA isC hC
  refine g_xV (own := own) (C := C) hx hb hml hown hts hM hT hw hrc hrs hd hR hE2 hE hTm (fun U hU hW => g_Tin hTm hTs hDc hS hA hU hW) hPc hK hDc hS hA q0 he hc hn hsz hst hr hdg hcs (fun E ce q H1 locs1 hE1 hP1 hD1 hS1 hz hk hce hcv hcl => ?_)
  subst hE1
  have hD2 : va_D (va_A (wd u) H.size) (wd u) := hDc.self
  obtain ⟨j1, j2⟩ := va_join (H1 := H1) hP hD isC isR hC hRr hnR hdis hk hf hP1 hD2
  exact kx ce q H1 locs1 (j1.sub isP (g_fm _ _ hPm)) (j2.sub isP hnP hPm) hS1 hce hcv hcl
end LR2
def WL (cI cZ cL : ClassId) (q : Nat → Nat) (qo : Nat) (u : SX × (Nat → Int64)) : va_W := (qo, .inl (cL, 1, .inr (.inl u.2))) :: XW cI cZ q u.1
abbrev rmL0 : Room := { frames := 9, cells := 0, slots := 0, locals := 240 }
abbrev rmL1 : Room := { frames := 9, cells := 1, slots := 6, locals := 240 }
def bL (v : Int32) : Int64 := if v = 0 then 0 else 1
theorem vp_in01 : vp_in 0 1 := fun h => h.elim (fun h => absurd h (by decide)) (fun h => absurd h (by decide))
