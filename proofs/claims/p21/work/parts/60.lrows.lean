/-! ROWS OF THE LAW: calls with a part of the world, methods with handlers, and how many cells are new at the least -/
theorem g_fm {α β : Type} {f : α → Option β} : ∀ (is : List α) (w : List β), is.map f = w.map some → is.filterMap f = w
  | [], [], _ => rfl
  | [], _ :: _, h => by cases h
  | _ :: _, [], h => by cases h
  | a :: is, b :: w, h => by
    have h1 : f a = some b := (List.cons.inj h).1
    have h2 : is.map f = w.map some := (List.cons.inj h).2
    rw [List.filterMap_cons, h1, g_fm is w h2]
def LE (U : State) : Prop := XE U ∧ va_Nc "java/lang/IllegalArgumentException" "java/lang/IndexOutOfBoundsException" U ∧ va_Nc "java/lang/IllegalStateException" "java/lang/IndexOutOfBoundsException" U ∧ va_Nc "java/lang/IllegalStateException" "java/lang/IllegalArgumentException" U
theorem LE_em : gEM LE := fun U U' hW h => ⟨XE_em U U' hW h.1, h.2.1.moved hW.alike, h.2.2.1.moved hW.alike, h.2.2.2.moved hW.alike⟩
/-- the premise of no premise -/
def T0 : (Nat → Prop) → State → Heap → Prop := fun _ _ _ => True
theorem T0_tm : gTM T0 := ⟨fun _ _ _ _ _ _ => trivial, fun _ _ _ _ _ _ => trivial, fun _ _ _ _ _ _ => trivial⟩
/-- the law's own script lies there -/
def TB (b L : Nat) (xs : Nat → Int32) : (Nat → Prop) → State → Heap → Prop := fun A U H => va_X b L xs U H ∧ ¬ A b
theorem TB_lt {b L : Nat} {xs : Nat → Int32} {U : State} {H : Heap} (h : va_X b L xs U H) : b < H.size := by
  obtain ⟨scr, h1, -⟩ := h
  exact (Array.getElem?_eq_some_iff.mp h1).1
theorem TB_tm (b L : Nat) (xs : Nat → Int32) : gTM (TB b L xs) := ⟨fun _ _ _ _ hW h => ⟨h.1.moved hW.alike, h.2⟩, fun _ _ _ _ h hq => ⟨h.1.kept (hq b (TB_lt h.1) h.2), h.2⟩, fun _ _ _ _ h hAB => ⟨h.1, fun hb => h.2 (hAB b hb)⟩⟩
def gBQ {Sg : Type} (D : va_G) (wd : Sg → va_W) (rv : Option Value) (u' : Sg) (A : Nat → Prop) (k : Nat) : Array Value → State → Outcome → State → Prop := fun a st oc t => gQc D wd rv u' A a st oc t ∧ st.heap.size + k ≤ t.heap.size
/-- a method that returns: what it answers, the state that it leaves, how much it makes at the most (mc, ms) and at the least (k) -/
def gB {Sg : Type} (l : Launch) (y : MethodName) (ws : List Cond) (rm : Room) (D : va_G) (tys : List (ClassId × FieldType)) (wd : Sg → va_W) (E : State → Prop) (T : (Nat → Prop) → State → Heap → Prop) (av : List Value) (u : Sg) (rv : Option Value) (u' : Sg) (mc ms k : Nat) : Prop :=
  ∀ sz : Nat, Met l y ws rm (fun a U => gPc D tys wd E av u sz a U ∧ T (va_A (wd u) sz) U U.heap) (gBQ D wd rv u' (va_A (wd u) sz) k) mc ms (va_A (wd u) sz)
section LR1
variable {Sg : Type} {l : Launch} {y : MethodName} {ws ws' : List Cond} {rm : Room} {D : va_G} {tys : List (ClassId × FieldType)} {wd : Sg → va_W} {E : State → Prop} {T : (Nat → Prop) → State → Heap → Prop} {av : List Value} {u u' : Sg} {rv : Option Value} {cc : ByteArray} {maxL : Nat} {ret : Option FieldType} {mc ms k : Nat} {hh : List (Nat × Nat × Nat × Nat)}
theorem g_startBW (hy : plainName y.cls = true) (hw : ws = Cond.codeWith y cc maxL ret hh :: ws') (hlen : (lg_sl av).length ≤ maxL)
    (body : ∀ (p : Program) (e : Env) (s : State) (m : MethodId) (below : List Frame) (meth : Method) (c : Code) (A : Nat → Prop) (ls : Array Slot) (Q : State → Prop),
      p.tables.exec = Jvm.exec → c.code = cc → c.maxLocals = maxL → meth.sig.returnType = ret → (∀ w ∈ ws, w.before av.toArray s = true) → s.vm.findClass y.cls = some m.cls → meth.locks = false → E s → va_P D vwCl (wd u) s.heap → va_K D vwCl tys s → va_D A (wd u) → (∀ q, s.heap.size ≤ q → A q) → lv_has ls maxL (lv_args 0 av) →
      Q = MQ below (gBQ D wd rv u' A k) av.toArray s mc ms A → va_S A s.heap s.heap [] → T A s s.heap → c.exceptionTable.toList = tableOf hh → W p l e rm s m av.toArray below meth c s.heap [] 0 0 Q (F0 m 0 ls [])) : gB l y ws rm D tys wd E T av u rv u' mc ms k := by
  intro sz
  refine va_MetW (cc := cc) (maxL := maxL) (ret := ret) (hh := hh) hy hw ?_
  intro p e s m args below meth c s₁ B hml hv
  obtain ⟨⟨rfl, hsz, hE, hP, hK, hD0⟩, hT⟩ := hv
  have hl := lv_entry av (n := maxL) hlen
  rw [lg_entry_eq]
  generalize (lg_sl av ++ List.replicate (maxL - (lg_sl av).length) Slot.unset).toArray = ls at hl ⊢
  subst hsz
  have hts := atoms_spec (ws := ws) B.pre
  exact body p e s m below meth c (va_A (wd u) s.heap.size) ls _ B.exec B.bytes hml B.returns hts (findClass_of_methodNamed B.named) B.notSynchronized hE hP hK hD0.self (fun q h => Or.inr h) hl rfl va_S.rf hT (vx_table (x := y) B (hts _ (by rw [hw]; exact List.mem_cons_self)))
theorem g_startB (hy : plainName y.cls = true) (hw : ws = Cond.code y cc maxL ret :: ws') (hlen : (lg_sl av).length ≤ maxL)
    (body : ∀ (p : Program) (e : Env) (s : State) (m : MethodId) (below : List Frame) (meth : Method) (c : Code) (A : Nat → Prop) (ls : Array Slot) (Q : State → Prop),
      p.tables.exec = Jvm.exec → c.code = cc → c.maxLocals = maxL → meth.sig.returnType = ret → (∀ w ∈ ws, w.before av.toArray s = true) → s.vm.findClass y.cls = some m.cls → meth.locks = false → E s → va_P D vwCl (wd u) s.heap → va_K D vwCl tys s → va_D A (wd u) → (∀ q, s.heap.size ≤ q → A q) → lv_has ls maxL (lv_args 0 av) →
      Q = MQ below (gBQ D wd rv u' A k) av.toArray s mc ms A → va_S A s.heap s.heap [] → T A s s.heap → W p l e rm s m av.toArray below meth c s.heap [] 0 0 Q (F0 m 0 ls [])) : gB l y ws rm D tys wd E T av u rv u' mc ms k := by
  intro sz
  refine Met.ofW (cc := cc) (maxL := maxL) (ret := ret) hy hw ?_
  intro p e s m args below meth c s₁ B hml hv
  obtain ⟨⟨rfl, hsz, hE, hP, hK, hD0⟩, hT⟩ := hv
  have hl := lv_entry av (n := maxL) hlen
  rw [lg_entry_eq]
  generalize (lg_sl av ++ List.replicate (maxL - (lg_sl av).length) Slot.unset).toArray = ls at hl ⊢
  subst hsz
  exact body p e s m below meth c (va_A (wd u) s.heap.size) ls _ B.exec B.bytes hml B.returns (atoms_spec (ws := ws) B.pre) (findClass_of_methodNamed B.named) B.notSynchronized hE hP hK hD0.self (fun q h => Or.inr h) hl rfl va_S.rf hT
end LR1
section LR2
variable {Sg : Type} {p : Program} {l : Launch} {e : Env} {R : Room} {s : State} {m : MethodId} {args : Array Value} {below : List Frame} {meth : Method} {c : Code} {H : Heap} {locs : List Loc} {cells slots : Nat} {Q : State → Prop}
variable {D : va_G} {tys : List (ClassId × FieldType)} {wd : Sg → va_W} {E2 : State → Prop} {T : (Nat → Prop) → State → Heap → Prop} {u u' : Sg} {En : String} {rv : Option Value} {cc bytes : ByteArray} {pc : Nat} {ls : Array Slot} {A0 : Nat → Prop} {H0 : Heap}
variable {y : MethodName} {ws Ts : List Cond} {rm : Room} {maxL nL n index mc ms k : Nat} {ret : Option FieldType} {own C : String} {b : Nat} {As rest st0 : List Value} {wl wr wn : va_W}
/-- the end of a method: an int, or a boolean -/
theorem g_retB {u1 : Sg} {v : Int32} {ty : FieldType} {A : Nat → Prop} (hx : p.tables.exec = Jvm.exec) (hb : c.code = cc) (hr : meth.sig.returnType = some ty) (hn : narrow ty (.int v) = .int v) (hlk : meth.locks = false) (hQ : Q = MQ below (gBQ D wd rv u' A k) args s mc ms A) (hc : cells ≤ mc) (hs : slots ≤ ms) (hP : va_P D vwCl (wd u1) H) (hD : va_D A (wd u1)) (hS : va_S A s.heap H locs) (hG : s.heap.size + k ≤ H.size)
    (hdg : decode cc pc = .ok (.ireturn, 1)) (hv : some (Value.int v) = rv) (hu : wd u1 = wd u') : W p l e R s m args below meth c H locs cells slots Q (F0 m pc ls [.int v]) := by
  subst hQ; subst hv; rw [hu] at hP hD
  exact W.widen hc hs (W.zret (v := v) hx hb hr hn (fun t ht hW => ⟨⟨⟨rfl, by rw [ht]; exact hP, hD⟩, hS.F ht⟩, by rw [ht]; exact hG⟩) hS.2.2 hdg hlk)
/-- behind a call of a part of the world -/
theorem g_afterB {g : JFrame} {aa : Array Value} (hr : va_Run p l e R s m args below meth c H locs cells slots mc ms g rest (gBQ D wd rv u' (va_A (wd u) H.size) k aa) (va_A (wd u) H.size)) (hP : va_P D vwCl wl H) (hD : va_D A0 wl) (hS : va_S A0 H0 H locs) (hA : ∀ q, H0.size ≤ q → A0 q)
    (isC isR isP : List Nat) (hC : isC.map (fun i => wl[i]?) = (wd u).map some) (hR : isR.map (fun i => wl[i]?) = wr.map some) (hn : va_nd isR = true) (hdis : ∀ i ∈ isR, i ∉ isC) (hnP : va_nd isP = true) (hPm : isP.map (fun i => (wr ++ wd u')[i]?) = wn.map some)
    (kk : ∀ (H1 : Heap) (locs1 : List Loc), va_P D vwCl wn H1 → va_D A0 wn → va_S A0 H0 H1 locs1 → H.size + k ≤ H1.size → W p l e R s m args below meth c H1 locs1 (cells + mc) (slots + ms) Q { g with pc := g.pc + 3, stack := rv.toList ++ rest }) : W p l e R s m args below meth c H locs cells slots Q g := by
  have hf := va_free (wc := wd u) hD hS hA isC hC
  intro T hT X
  obtain ⟨v, st₀, t, T', L, h0, X', hL, e1, e2, ⟨⟨⟨hv, hP1, hD1⟩, hz, hk⟩, hG⟩, st⟩ := hr T hT X
  cases hv
  rw [h0] at hz hk hG
  obtain ⟨j1, j2⟩ := va_join (H1 := t.heap) hP hD isC isR hC hR hn hdis hk hf hP1 hD1
  obtain ⟨t2, a1, b1⟩ := kk T'.heap (locs ++ L) (by rw [e1]; exact j1.sub isP (g_fm _ _ hPm)) (j2.sub isP hnP hPm)
    ⟨Nat.le_trans hS.1 (by rw [e1]; exact hz), fun q h1 h2 => by rw [e1, hk q (Nat.lt_of_lt_of_le h1 hS.1) (fun z => h2 (hf q z))]; exact hS.2.1 q h1 h2, fun q hq => by
      rcases List.mem_append.mp hq with h | h
      · exact hS.2.2 q h
      · exact hf _ (hL q h)⟩ (by rw [e1]; exact hG) T' rfl X'
  exact ⟨t2, st t2 a1, b1⟩
theorem g_afterF {g : JFrame} {aa : Array Value} (hr : va_Run p l e R s m args below meth c H locs cells slots mc ms g rest (gQc D wd rv u' (va_A (wd u) H.size) aa) (va_A (wd u) H.size)) (hP : va_P D vwCl wl H) (hD : va_D A0 wl) (hS : va_S A0 H0 H locs) (hA : ∀ q, H0.size ≤ q → A0 q)
    (isC isR isP : List Nat) (hC : isC.map (fun i => wl[i]?) = (wd u).map some) (hR : isR.map (fun i => wl[i]?) = wr.map some) (hn : va_nd isR = true) (hdis : ∀ i ∈ isR, i ∉ isC) (hnP : va_nd isP = true) (hPm : isP.map (fun i => (wr ++ wd u')[i]?) = wn.map some)
    (kk : ∀ (H1 : Heap) (locs1 : List Loc), va_P D vwCl wn H1 → va_D A0 wn → va_S A0 H0 H1 locs1 → H.size ≤ H1.size → W p l e R s m args below meth c H1 locs1 (cells + mc) (slots + ms) Q { g with pc := g.pc + 3, stack := rv.toList ++ rest }) : W p l e R s m args below meth c H locs cells slots Q g := by
  have hf := va_free (wc := wd u) hD hS hA isC hC
  intro T hT X
  obtain ⟨v, st₀, t, T', L, h0, X', hL, e1, e2, ⟨⟨hv, hP1, hD1⟩, hz, hk⟩, st⟩ := hr T hT X
  cases hv
  rw [h0] at hz hk
  obtain ⟨j1, j2⟩ := va_join (H1 := t.heap) hP hD isC isR hC hR hn hdis hk hf hP1 hD1
  obtain ⟨t2, a1, b1⟩ := kk T'.heap (locs ++ L) (by rw [e1]; exact j1.sub isP (g_fm _ _ hPm)) (j2.sub isP hnP hPm)
    ⟨Nat.le_trans hS.1 (by rw [e1]; exact hz), fun q h1 h2 => by rw [e1, hk q (Nat.lt_of_lt_of_le h1 hS.1) (fun z => h2 (hf q z))]; exact hS.2.1 q h1 h2, fun q hq => by
      rcases List.mem_append.mp hq with h | h
      · exact hS.2.2 q h
      · exact hf _ (hL q h)⟩ (by rw [e1]; exact hz) T' rfl X'
  exact ⟨t2, st t2 a1, b1⟩
/-- a method of the class that returns, with a part of the world -/
theorem g_callVF {ws' : List Cond} {ci N : Nat} {T9 : u_T} {fs : List Value} (hx : p.tables.exec = Jvm.exec) (hb : c.code = cc) (hml : c.maxLocals = nL) (hown : s.vm.findClass own = some m.cls) (hts : ∀ w ∈ Ts, w.before args s = true)
    (hM : gM l y ws rm D tys wd E2 (.ref b :: As) u rv u') (hT : GoodIn Ts (wsV own index C y ws)) (hw : ws = Cond.code y bytes maxL ret :: ws') (hrc : rm.cells = 0) (hrs : rm.slots = 0)
    (hd : y.cls = C ∧ y.cls ≠ "java/lang/invoke/MethodHandle" ∧ y.cls ≠ "java/lang/invoke/VarHandle" ∧ (parseMethodDescriptor y.desc).map (fun d => d.parameters.length) = some n) (hR : rm.frames + 1 ≤ R.frames ∧ 8 + (maxL + 11) + rm.locals ≤ R.locals)
    (hE2 : gEM E2) (hE : E2 s) (hP : va_P D vwCl wl H) (hK : va_K D vwCl tys s) (hD : va_D A0 wl) (hS : va_S A0 H0 H locs) (hA : ∀ q, H0.size ≤ q → A0 q)
    (q0 : Nat) (he : (wd u)[q0]? = some (b, .inr (ci, fs))) (hc : vwCl[ci]? = some (C, T9, N)) (hn : As.length = n) (hsz : ls.size = nL) (hst : st0 = As.reverse ++ .ref b :: rest) (hr : (rest.map fun v => v.category).sum ≤ 8)
    (hdg : decode cc pc = .ok (.invokevirtual index, 3)) (hcs : cells ≤ R.cells ∧ slots ≤ R.slots)
    (isC isR isP : List Nat) (hnC : va_nd isC = true) (hC : isC.map (fun i => wl[i]?) = (wd u).map some) (hRr : isR.map (fun i => wl[i]?) = wr.map some) (hnR : va_nd isR = true) (hdis : ∀ i ∈ isR, i ∉ isC) (hnP : va_nd isP = true) (hPm : isP.map (fun i => (wr ++ wd u')[i]?) = wn.map some)
    (kk : ∀ (H1 : Heap) (locs1 : List Loc), va_P D vwCl wn H1 → va_D A0 wn → va_S A0 H0 H1 locs1 → H.size ≤ H1.size → W p l e R s m args below meth c H1 locs1 cells slots Q (F0 m (pc + 3) ls (rv.toList ++ rest))) : W p l e R s m args below meth c H locs cells slots Q (F0 m pc ls st0) := by
  have hPc : va_P D vwCl (wd u) H := hP.sub isC (g_fm _ _ hC)
  have hDc : va_D A0 (wd u) := hD.sub isC hnC hC
  exact g_afterF (aa := (Value.ref b :: As).toArray) (va_runV (As := As) (rest := rest) ⟨hx, hb, hml, hown, hts⟩ (hM H.size) (cwV n hts hT hw hrc hrs hd hR) ⟨gPc_blind hE2, va_recv (q := (C, T9, N)) hK hPc hc he, fun U hU hW => ⟨rfl, by rw [hU], hE2 _ _ hW hE, by rw [hU]; exact hPc, va_K.moved hW.alike hK, hDc.weaken (fun _ _ _ _ => trivial)⟩⟩ rfl hn hsz hst (lv_room hr) hdg hcs) hP hD hS hA isC isR isP hC hRr hnR hdis hnP hPm kk
/-- a static method of the law, with a part of the world -/
theorem g_callSB {ws' : List Cond} (hx : p.tables.exec = Jvm.exec) (hb : c.code = cc) (hml : c.maxLocals = nL) (hown : s.vm.findClass own = some m.cls) (hts : ∀ w ∈ Ts, w.before args s = true)
    (hM : gB l y ws rm D tys wd E2 T As u rv u' mc ms k) (hT : GoodIn Ts (va_wsS own index y ws)) (hw : ws = Cond.code y bytes maxL ret :: ws') (hrc : rm.cells = mc) (hrs : rm.slots = ms)
    (hd : y.cls ≠ "java/lang/invoke/MethodHandle" ∧ y.cls ≠ "java/lang/invoke/VarHandle" ∧ (parseMethodDescriptor y.desc).map (fun d => d.parameters.length) = some n) (hR : rm.frames + 1 ≤ R.frames ∧ 8 + (maxL + 11) + rm.locals ≤ R.locals)
    (hE2 : gEM E2) (hE : E2 s) (hTm : gTM T) (hTs : T A0 s s.heap) (hP : va_P D vwCl wl H) (hK : va_K D vwCl tys s) (hD : va_D A0 wl) (hS : va_S A0 s.heap H locs) (hA : ∀ q, s.heap.size ≤ q → A0 q)
    (hn : As.length = n) (hsz : ls.size = nL) (hst : st0 = As.reverse ++ rest) (hr : (rest.map fun v => v.category).sum ≤ 8)
    (hdg : decode cc pc = .ok (.invokestatic index, 3)) (hcs : cells + mc ≤ R.cells ∧ slots + ms ≤ R.slots)
    (isC isR isP : List Nat) (hnC : va_nd isC = true) (hC : isC.map (fun i => wl[i]?) = (wd u).map some) (hRr : isR.map (fun i => wl[i]?) = wr.map some) (hnR : va_nd isR = true) (hdis : ∀ i ∈ isR, i ∉ isC) (hnP : va_nd isP = true) (hPm : isP.map (fun i => (wr ++ wd u')[i]?) = wn.map some)
    (kk : ∀ (H1 : Heap) (locs1 : List Loc), va_P D vwCl wn H1 → va_D A0 wn → va_S A0 s.heap H1 locs1 → H.size + k ≤ H1.size → W p l e R s m args below meth c H1 locs1 (cells + mc) (slots + ms) Q (F0 m (pc + 3) ls (rv.toList ++ rest))) : W p l e R s m args below meth c H locs cells slots Q (F0 m pc ls st0) := by
  have hPc : va_P D vwCl (wd u) H := hP.sub isC (g_fm _ _ hC)
  have hDc : va_D A0 (wd u) := hD.sub isC hnC hC
  exact g_afterB (aa := As.toArray) (va_runS (As := As) (rest := rest) ⟨hx, hb, hml, hown, hts⟩ (hM H.size) (va_cwS n hts hT hw hrc hrs hd hR) ⟨gPcX_blind hE2 hTm, fun U hU hW => ⟨⟨rfl, by rw [hU], hE2 _ _ hW hE, by rw [hU]; exact hPc, va_K.moved hW.alike hK, hDc.weaken (fun _ _ _ _ => trivial)⟩, g_Tin hTm hTs hDc hS hA hU hW⟩⟩ rfl hn hsz hst (lv_room hr) hdg hcs) hP hD hS hA isC isR isP hC hRr hnR hdis hnP hPm kk
/-- the same, where it has handlers -/
theorem g_callSWB {ws' : List Cond} {hh : List (Nat × Nat × Nat × Nat)} (hx : p.tables.exec = Jvm.exec) (hb : c.code = cc) (hml : c.maxLocals = nL) (hown : s.vm.findClass own = some m.cls) (hts : ∀ w ∈ Ts, w.before args s = true)
    (hM : gB l y ws rm D tys wd E2 T As u rv u' mc ms k) (hT : GoodIn Ts (va_wsS own index y ws)) (hw : ws = Cond.codeWith y bytes maxL ret hh :: ws') (hrc : rm.cells = mc) (hrs : rm.slots = ms)
    (hd : y.cls ≠ "java/lang/invoke/MethodHandle" ∧ y.cls ≠ "java/lang/invoke/VarHandle" ∧ (parseMethodDescriptor y.desc).map (fun d => d.parameters.length) = some n) (hR : rm.frames + 1 ≤ R.frames ∧ 8 + (maxL + 11) + rm.locals ≤ R.locals)
    (hE2 : gEM E2) (hE : E2 s) (hTm : gTM T) (hTs : T A0 s s.heap) (hP : va_P D vwCl wl H) (hK : va_K D vwCl tys s) (hD : va_D A0 wl) (hS : va_S A0 s.heap H locs) (hA : ∀ q, s.heap.size ≤ q → A0 q)
    (hn : As.length = n) (hsz : ls.size = nL) (hst : st0 = As.reverse ++ rest) (hr : (rest.map fun v => v.category).sum ≤ 8)
    (hdg : decode cc pc = .ok (.invokestatic index, 3)) (hcs : cells + mc ≤ R.cells ∧ slots + ms ≤ R.slots)
    (isC isR isP : List Nat) (hnC : va_nd isC = true) (hC : isC.map (fun i => wl[i]?) = (wd u).map some) (hRr : isR.map (fun i => wl[i]?) = wr.map some) (hnR : va_nd isR = true) (hdis : ∀ i ∈ isR, i ∉ isC) (hnP : va_nd isP = true) (hPm : isP.map (fun i => (wr ++ wd u')[i]?) = wn.map some)
    (kk : ∀ (H1 : Heap) (locs1 : List Loc), va_P D vwCl wn H1 → va_D A0 wn → va_S A0 s.heap H1 locs1 → H.size + k ≤ H1.size → W p l e R s m args below meth c H1 locs1 (cells + mc) (slots + ms) Q (F0 m (pc + 3) ls (rv.toList ++ rest))) : W p l e R s m args below meth c H locs cells slots Q (F0 m pc ls st0) := by
  have hPc : va_P D vwCl (wd u) H := hP.sub isC (g_fm _ _ hC)
  have hDc : va_D A0 (wd u) := hD.sub isC hnC hC
  exact g_afterB (aa := As.toArray) (vx_runSW (As := As) (rest := rest) ⟨hx, hb, hml, hown, hts⟩ (hM H.size) (vx_cwSW n hts hT hw hrc hrs hd hR) ⟨gPcX_blind hE2 hTm, fun U hU hW => ⟨⟨rfl, by rw [hU], hE2 _ _ hW hE, by rw [hU]; exact hPc, va_K.moved hW.alike hK, hDc.weaken (fun _ _ _ _ => trivial)⟩, g_Tin hTm hTs hDc hS hA hU hW⟩⟩ rfl hn hsz hst (lv_room hr) hdg hcs) hP hD hS hA isC isR isP hC hRr hnR hdis hnP hPm kk
/-- a call of the class that throws: what is thrown lies over this frame, and the heap is larger -/
theorem g_xVW {ws' : List Cond} {ci N : Nat} {T9 : u_T} {fs : List Value} (hx : p.tables.exec = Jvm.exec) (hb : c.code = cc) (hml : c.maxLocals = nL) (hown : s.vm.findClass own = some m.cls) (hts : ∀ w ∈ Ts, w.before args s = true)
    (hM : gX l y ws rm D tys wd E2 T (.ref b :: As) u En) (hT : GoodIn Ts (wsV own index C y ws)) (hw : ws = Cond.code y bytes maxL ret :: ws') (hrc : rm.cells = 1) (hrs : rm.slots = 6)
    (hd : y.cls = C ∧ y.cls ≠ "java/lang/invoke/MethodHandle" ∧ y.cls ≠ "java/lang/invoke/VarHandle" ∧ (parseMethodDescriptor y.desc).map (fun d => d.parameters.length) = some n) (hR : rm.frames + 1 ≤ R.frames ∧ 8 + (maxL + 11) + rm.locals ≤ R.locals)
    (hE2 : gEM E2) (hE : E2 s) (hTm : gTM T) (hTs : T A0 s s.heap) (hP : va_P D vwCl (wd u) H) (hK : va_K D vwCl tys s) (hD : va_D A0 (wd u)) (hS : va_S A0 s.heap H locs) (hA : ∀ q, s.heap.size ≤ q → A0 q)
    (q0 : Nat) (he : (wd u)[q0]? = some (b, .inr (ci, fs))) (hc : vwCl[ci]? = some (C, T9, N)) (hn : As.length = n) (hsz : ls.size = nL) (hst : st0 = As.reverse ++ .ref b :: rest) (hr : (rest.map fun v => v.category).sum ≤ 8)
    (hdg : decode cc pc = .ok (.invokevirtual index, 3)) (hcs : cells + 1 ≤ R.cells ∧ slots + 6 ≤ R.slots)
    (kx : ∀ (ce : Cell) (q : Addr) (H1 : Heap) (locs1 : List Loc), va_P D vwCl (wd u) H1 → va_D A0 (wd u) → va_S A0 s.heap H1 locs1 → H.size + 1 ≤ H1.size → H1[q]? = some ce → ce.vm = .none → s.vm.findClass En = some ce.cls → vx_W p l e R s m args below meth c H1 locs1 (cells + 1) (slots + 6) Q (F0 m pc ls rest) q) :
    W p l e R s m args below meth c H locs cells slots Q (F0 m pc ls st0) := by
  refine g_xV (own := own) (C := C) hx hb hml hown hts hM hT hw hrc hrs hd hR hE2 hE hTm (fun U hU hW => g_Tin hTm hTs hD hS hA hU hW) hP hK hD hS hA q0 he hc hn hsz hst hr hdg hcs (fun E ce q H1 locs1 hE1 hP1 hD1 hS1 hz hk hce hcv hcl => ?_)
  subst hE1
  exact kx ce q H1 locs1 hP1 hD1 hS1 hz hce hcv hcl
end LR2
