/-! THE LAYER: contracts that say the answer and the new state as functions of the old one; the world is read off a state by wd -/
section GL0
variable {Sg : Type}
def gPc (D : va_G) (tys : List (ClassId × FieldType)) (wd : Sg → va_W) (E : State → Prop) (av : List Value) (u : Sg) (sz : Nat) : Array Value → State → Prop :=
  va_Pc av (fun U => U.heap.size = sz ∧ E U ∧ va_P D vwCl (wd u) U.heap ∧ va_K D vwCl tys U ∧ va_D (fun _ => True) (wd u))
def gQc (D : va_G) (wd : Sg → va_W) (rv : Option Value) (u' : Sg) (A : Nat → Prop) : Array Value → State → Outcome → State → Prop :=
  fun _ st oc t => (oc = .returned rv ∧ va_P D vwCl (wd u') t.heap ∧ va_D A (wd u')) ∧ va_F A st t
/-- method y, called with av at the state u, answers rv and leaves u' -/
def gM (l : Launch) (y : MethodName) (ws : List Cond) (rm : Room) (D : va_G) (tys : List (ClassId × FieldType)) (wd : Sg → va_W) (E : State → Prop) (av : List Value) (u : Sg) (rv : Option Value) (u' : Sg) : Prop :=
  ∀ sz : Nat, Met l y ws rm (gPc D tys wd E av u sz) (gQc D wd rv u' (va_A (wd u) sz)) 0 0 (va_A (wd u) sz)
/-- method y, called with av at the state u, throws En and changes nothing -/
def gXc (D : va_G) (wd : Sg → va_W) (u : Sg) (A : Nat → Prop) (En : String) : String → State → State → Prop := fun E st t => (E = En ∧ va_P D vwCl (wd u) t.heap ∧ va_D A (wd u) ∧ st.heap.size + 1 ≤ t.heap.size) ∧ va_F A st t
def gX (l : Launch) (y : MethodName) (ws : List Cond) (rm : Room) (D : va_G) (tys : List (ClassId × FieldType)) (wd : Sg → va_W) (E : State → Prop) (T : (Nat → Prop) → State → Heap → Prop) (av : List Value) (u : Sg) (En : String) : Prop :=
  ∀ sz : Nat, vx_Met l y ws rm (fun a U => gPc D tys wd E av u sz a U ∧ T (va_A (wd u) sz) U U.heap) (fun _ _ _ _ => False) (gXc D wd u (va_A (wd u) sz) En) 1 6 (va_A (wd u) sz)
/-- a premise that moves with the machine -/
def gEM (E : State → Prop) : Prop := ∀ U U' : State, U.WarmedH U'.vm → E U → E U'
def gTM (T : (Nat → Prop) → State → Heap → Prop) : Prop := (∀ (A : Nat → Prop) (U U' : State) (H : Heap), U.WarmedH U'.vm → T A U H → T A U' H) ∧ (∀ (A : Nat → Prop) (U : State) (H H1 : Heap), T A U H → (∀ a : Nat, a < H.size → ¬ A a → H1[a]? = H[a]?) → T A U H1) ∧ (∀ (A B : Nat → Prop) (U : State) (H : Heap), T A U H → (∀ q, B q → A q) → T B U H)
theorem gEM_true : gEM (fun _ => True) := fun _ _ _ _ => trivial
theorem gPc_blind {D : va_G} {tys : List (ClassId × FieldType)} {wd : Sg → va_W} {E : State → Prop} {av : List Value} {u : Sg} {sz : Nat} (hE : gEM E) : FrameBlind (gPc D tys wd E av u sz) := by
  intro a U g mk h
  obtain ⟨h1, h2, h3, h4, h5, h6⟩ := h
  exact ⟨h1, h2, hE U _ (State.WarmedH.refl U) h3, h4, va_K.moved (u := U) (U := U.calling g mk a) (Vm.Alike.refl U.vm) h5, h6⟩
end GL0
section GL1
variable {Sg : Type} {l : Launch} {y : MethodName} {ws ws' : List Cond} {rm : Room} {D : va_G} {tys : List (ClassId × FieldType)} {wd : Sg → va_W} {E : State → Prop} {av : List Value} {u u' : Sg} {rv : Option Value} {cc : ByteArray} {maxL : Nat} {ret : Option FieldType}
theorem g_start (hy : plainName y.cls = true) (hw : ws = Cond.code y cc maxL ret :: ws') (hlen : (lg_sl av).length ≤ maxL)
    (body : ∀ (p : Program) (e : Env) (s : State) (m : MethodId) (below : List Frame) (meth : Method) (c : Code) (A : Nat → Prop) (ls : Array Slot) (Q : State → Prop),
      p.tables.exec = Jvm.exec → c.code = cc → c.maxLocals = maxL → meth.sig.returnType = ret → (∀ w ∈ ws, w.before av.toArray s = true) → s.vm.findClass y.cls = some m.cls → meth.locks = false → E s → va_P D vwCl (wd u) s.heap → va_K D vwCl tys s → va_D A (wd u) → (∀ q, s.heap.size ≤ q → A q) → lv_has ls maxL (lv_args 0 av) →
      Q = MQ below (gQc D wd rv u' A) av.toArray s 0 0 A → va_S A s.heap s.heap [] → W p l e rm s m av.toArray below meth c s.heap [] 0 0 Q (F0 m 0 ls [])) : gM l y ws rm D tys wd E av u rv u' := by
  intro sz
  refine Met.ofW (cc := cc) (maxL := maxL) (ret := ret) hy hw ?_
  intro p e s m args below meth c s₁ B hml hv
  obtain ⟨rfl, hsz, hE, hP, hK, hD0⟩ := hv
  have hl := lv_entry av (n := maxL) hlen
  rw [lg_entry_eq]
  generalize (lg_sl av ++ List.replicate (maxL - (lg_sl av).length) Slot.unset).toArray = ls at hl ⊢
  subst hsz
  exact body p e s m below meth c (va_A (wd u) s.heap.size) ls _ B.exec B.bytes hml B.returns (atoms_spec (ws := ws) B.pre) (findClass_of_methodNamed B.named) B.notSynchronized hE hP hK hD0.self (fun q h => Or.inr h) hl rfl va_S.rf
theorem g_startX {T : (Nat → Prop) → State → Heap → Prop} {En : String} (hy : plainName y.cls = true) (hw : ws = Cond.code y cc maxL ret :: ws') (hlen : (lg_sl av).length ≤ maxL)
    (body : ∀ (p : Program) (e : Env) (s : State) (m : MethodId) (below : List Frame) (meth : Method) (c : Code) (A : Nat → Prop) (ls : Array Slot) (Q : State → Prop),
      p.tables.exec = Jvm.exec → c.code = cc → c.maxLocals = maxL → meth.sig.returnType = ret → (∀ w ∈ ws, w.before av.toArray s = true) → s.vm.findClass y.cls = some m.cls → meth.locks = false → E s → va_P D vwCl (wd u) s.heap → va_K D vwCl tys s → va_D A (wd u) → (∀ q, s.heap.size ≤ q → A q) → lv_has ls maxL (lv_args 0 av) →
      Q = vx_MQ below (fun _ _ _ _ => False) (gXc D wd u A En) av.toArray s 1 6 A → va_S A s.heap s.heap [] → T A s s.heap → (∀ x ∈ c.exceptionTable.toList, False) → W p l e rm s m av.toArray below meth c s.heap [] 0 0 Q (F0 m 0 ls [])) : gX l y ws rm D tys wd E T av u En := by
  intro sz
  refine vx_ofW (cc := cc) (maxL := maxL) (ret := ret) hy hw ?_
  intro p e s m args below meth c s₁ B hml htab hv
  obtain ⟨⟨rfl, hsz, hE, hP, hK, hD0⟩, hT⟩ := hv
  have hl := lv_entry av (n := maxL) hlen
  rw [lg_entry_eq]
  generalize (lg_sl av ++ List.replicate (maxL - (lg_sl av).length) Slot.unset).toArray = ls at hl ⊢
  subst hsz
  exact body p e s m below meth c (va_A (wd u) s.heap.size) ls _ B.exec B.bytes hml B.returns (atoms_spec (ws := ws) B.pre) (findClass_of_methodNamed B.named) B.notSynchronized hE hP hK hD0.self (fun q h => Or.inr h) hl rfl va_S.rf hT htab
end GL1
section GL2
variable {Sg : Type} {p : Program} {l : Launch} {e : Env} {R : Room} {s : State} {m : MethodId} {args : Array Value} {below : List Frame} {meth : Method} {c : Code} {H : Heap} {locs : List Loc} {cells slots : Nat} {Q : State → Prop}
variable {D : va_G} {tys : List (ClassId × FieldType)} {wd : Sg → va_W} {E E2 : State → Prop} {u u' u1 : Sg} {rv : Option Value} {cc : ByteArray} {pc : Nat} {ls : Array Slot} {A : Nat → Prop}
theorem g_iret {v : Int32} (hx : p.tables.exec = Jvm.exec) (hb : c.code = cc) (hr : meth.sig.returnType = some .int) (hlk : meth.locks = false) (hQ : Q = MQ below (gQc D wd rv u' A) args s 0 0 A) (hP : va_P D vwCl (wd u1) H) (hD : va_D A (wd u1)) (hS : va_S A s.heap H locs)
    (hdg : decode cc pc = .ok (.ireturn, 1)) (hv : some (Value.int v) = rv) (hu : wd u1 = wd u') : W p l e R s m args below meth c H locs 0 0 Q (F0 m pc ls [.int v]) := by
  subst hQ; subst hv; rw [hu] at hP hD
  exact W.iret (v := v) hx hb hr (fun t ht hW => ⟨⟨rfl, by rw [ht]; exact hP, hD⟩, hS.F ht⟩) hS.2.2 hdg hlk
theorem g_zret {v : Int32} {ty : FieldType} (hx : p.tables.exec = Jvm.exec) (hb : c.code = cc) (hr : meth.sig.returnType = some ty) (hlk : meth.locks = false) (hQ : Q = MQ below (gQc D wd rv u' A) args s 0 0 A) (hP : va_P D vwCl (wd u1) H) (hD : va_D A (wd u1)) (hS : va_S A s.heap H locs)
    (hdg : decode cc pc = .ok (.ireturn, 1)) (hn : narrow ty (.int v) = .int v) (hv : some (Value.int v) = rv) (hu : wd u1 = wd u') : W p l e R s m args below meth c H locs 0 0 Q (F0 m pc ls [.int v]) := by
  subst hQ; subst hv; rw [hu] at hP hD
  exact W.zret (v := v) hx hb hr hn (fun t ht hW => ⟨⟨rfl, by rw [ht]; exact hP, hD⟩, hS.F ht⟩) hS.2.2 hdg hlk
theorem g_lret {v : Int64} (hx : p.tables.exec = Jvm.exec) (hb : c.code = cc) (hr : meth.sig.returnType = some .long) (hlk : meth.locks = false) (hQ : Q = MQ below (gQc D wd rv u' A) args s 0 0 A) (hP : va_P D vwCl (wd u1) H) (hD : va_D A (wd u1)) (hS : va_S A s.heap H locs)
    (hdg : decode cc pc = .ok (.lreturn, 1)) (hv : some (Value.long v) = rv) (hu : wd u1 = wd u') : W p l e R s m args below meth c H locs 0 0 Q (F0 m pc ls [.long v]) := by
  subst hQ; subst hv; rw [hu] at hP hD
  exact W.lret (v := v) hx hb hr (fun t ht hW => ⟨⟨rfl, by rw [ht]; exact hP, hD⟩, hS.F ht⟩) hS.2.2 hdg hlk
theorem g_aret {a : Nat} {rt : FieldType} (hx : p.tables.exec = Jvm.exec) (hb : c.code = cc) (hr : meth.sig.returnType = some rt) (hrt : (∃ n, rt = .object n) ∨ ∃ t, rt = .array t) (hlk : meth.locks = false) (hQ : Q = MQ below (gQc D wd rv u' A) args s 0 0 A) (hP : va_P D vwCl (wd u1) H) (hD : va_D A (wd u1)) (hS : va_S A s.heap H locs)
    (hdg : decode cc pc = .ok (.areturn, 1)) (hv : some (Value.ref a) = rv) (hu : wd u1 = wd u') : W p l e R s m args below meth c H locs 0 0 Q (F0 m pc ls [.ref a]) := by
  subst hQ; subst hv; rw [hu] at hP hD
  exact W.aret (v := .ref a) hx hb hr hrt (Or.inr ⟨a, rfl⟩) (fun t ht hW => ⟨⟨rfl, by rw [ht]; exact hP, hD⟩, hS.F ht⟩) hS.2.2 hdg hlk
theorem g_vret (hx : p.tables.exec = Jvm.exec) (hb : c.code = cc) (hr : meth.sig.returnType = none) (hlk : meth.locks = false) (hQ : Q = MQ below (gQc D wd rv u' A) args s 0 0 A) (hP : va_P D vwCl (wd u1) H) (hD : va_D A (wd u1)) (hS : va_S A s.heap H locs)
    (hdg : decode cc pc = .ok (.return_, 1)) (hv : (none : Option Value) = rv) (hu : wd u1 = wd u') : W p l e R s m args below meth c H locs 0 0 Q (F0 m pc ls []) := by
  subst hQ; subst hv; rw [hu] at hP hD
  exact W.vret hx hb hr (fun t ht hW => ⟨⟨rfl, by rw [ht]; exact hP, hD⟩, hS.F ht⟩) hS.2.2 hdg hlk
end GL2
section GL3
variable {Sg : Type} {p : Program} {l : Launch} {e : Env} {R : Room} {s : State} {m : MethodId} {args : Array Value} {below : List Frame} {meth : Method} {c : Code} {H : Heap} {locs : List Loc} {cells slots : Nat} {Q : State → Prop}
variable {D : va_G} {tys : List (ClassId × FieldType)} {wd : Sg → va_W} {E2 : State → Prop} {u u' : Sg} {rv : Option Value} {cc bytes : ByteArray} {pc : Nat} {ls : Array Slot} {A0 : Nat → Prop} {H0 : Heap}
variable {y : MethodName} {ws Ts : List Cond} {rm : Room} {maxL nL n index : Nat} {ret : Option FieldType} {own C host : String} {b : Nat} {As rest st0 : List Value}
theorem g_free {ws0 : va_W} (hD : va_D A0 ws0) (hS : va_S A0 H0 H locs) (hA : ∀ q, H0.size ≤ q → A0 q) : ∀ q, va_A ws0 H.size q → A0 q := by
  intro q h
  rcases h with ⟨k, e, h⟩ | h
  · exact hD.2 k (q, e) h
  · exact hA q (Nat.le_trans hS.1 h)
/-- behind a call of the same world -/
theorem g_after {g : JFrame} {aa : Array Value} (hr : va_Run p l e R s m args below meth c H locs cells slots 0 0 g rest (gQc D wd rv u' (va_A (wd u) H.size) aa) (va_A (wd u) H.size)) (hS : va_S A0 H0 H locs) (hf : ∀ q, va_A (wd u) H.size q → A0 q)
    (kk : ∀ (H1 : Heap) (locs1 : List Loc), va_P D vwCl (wd u') H1 → va_D A0 (wd u') → va_S A0 H0 H1 locs1 → W p l e R s m args below meth c H1 locs1 cells slots Q { g with pc := g.pc + 3, stack := rv.toList ++ rest }) : W p l e R s m args below meth c H locs cells slots Q g := by
  intro T hT X
  obtain ⟨v, st₀, t, T', L, h0, X', hL, e1, e2, ⟨⟨hv, hP1, hD1⟩, hz, hk⟩, st⟩ := hr T hT X
  cases hv
  rw [h0] at hz hk
  obtain ⟨t2, a1, b1⟩ := kk T'.heap (locs ++ L) (by rw [e1]; exact hP1) (hD1.weaken (fun k q _ h => hf q.1 h))
    ⟨Nat.le_trans hS.1 (by rw [e1]; exact hz), fun q h1 h2 => by rw [e1, hk q (Nat.lt_of_lt_of_le h1 hS.1) (fun z => h2 (hf q z))]; exact hS.2.1 q h1 h2, fun q hq => by
      rcases List.mem_append.mp hq with h | h
      · exact hS.2.2 q h
      · exact hf _ (hL q h)⟩ T' rfl X'
  exact ⟨t2, st t2 a1, b1⟩
/-- behind a call that touches no world -/
theorem g_after0 {g : JFrame} {wa : va_W} {Qa : State → Outcome → State → Prop} (hr : va_Run p l e R s m args below meth c H locs cells slots 0 0 g rest Qa (va_A [] H.size)) (hQa : ∀ st oc t, Qa st oc t → oc = .returned rv ∧ va_F (va_A [] H.size) st t) (hP : va_P D vwCl wa H) (hS : va_S A0 H0 H locs) (hA : ∀ q, H0.size ≤ q → A0 q)
    (kk : ∀ (H1 : Heap) (locs1 : List Loc), va_P D vwCl wa H1 → va_S A0 H0 H1 locs1 → W p l e R s m args below meth c H1 locs1 cells slots Q { g with pc := g.pc + 3, stack := rv.toList ++ rest }) : W p l e R s m args below meth c H locs cells slots Q g := by
  have hn : ∀ q : Nat, q < H.size → ¬ va_A [] H.size q := by
    intro q h1 h2
    rcases h2 with ⟨k, e, h⟩ | h
    · simp at h
    · omega
  have hf : ∀ q, va_A [] H.size q → A0 q := by
    intro q h2
    rcases h2 with ⟨k, e, h⟩ | h
    · simp at h
    · exact hA q (Nat.le_trans hS.1 h)
  intro T hT X
  obtain ⟨v, st₀, t, T', L, h0, X', hL, e1, e2, hq, st⟩ := hr T hT X
  obtain ⟨hv, hz, hk⟩ := hQa _ _ _ hq
  cases hv
  rw [h0] at hz hk
  obtain ⟨t2, a1, b1⟩ := kk T'.heap (locs ++ L) (hP.kept (fun k q h => by rw [e1]; exact hk q.1 (hP k q h).lt (hn q.1 (hP k q h).lt)))
    ⟨Nat.le_trans hS.1 (by rw [e1]; exact hz), fun q h1 h2 => by rw [e1, hk q (Nat.lt_of_lt_of_le h1 hS.1) (fun z => h2 (hf q z))]; exact hS.2.1 q h1 h2, fun q hq => by
      rcases List.mem_append.mp hq with h | h
      · exact hS.2.2 q h
      · exact hf _ (hL q h)⟩ T' rfl X'
  exact ⟨t2, st t2 a1, b1⟩
theorem g_callV {ws' : List Cond} {ci N : Nat} {T : u_T} {fs : List Value} (hx : p.tables.exec = Jvm.exec) (hb : c.code = cc) (hml : c.maxLocals = nL) (hown : s.vm.findClass own = some m.cls) (hts : ∀ w ∈ Ts, w.before args s = true)
    (hM : gM l y ws rm D tys wd E2 (.ref b :: As) u rv u') (hT : GoodIn Ts (wsV own index C y ws)) (hw : ws = Cond.code y bytes maxL ret :: ws') (hrc : rm.cells = 0) (hrs : rm.slots = 0)
    (hd : y.cls = C ∧ y.cls ≠ "java/lang/invoke/MethodHandle" ∧ y.cls ≠ "java/lang/invoke/VarHandle" ∧ (parseMethodDescriptor y.desc).map (fun d => d.parameters.length) = some n) (hR : rm.frames + 1 ≤ R.frames ∧ 8 + (maxL + 11) + rm.locals ≤ R.locals)
    (hE2 : gEM E2) (hE : E2 s) (hP : va_P D vwCl (wd u) H) (hK : va_K D vwCl tys s) (hD : va_D A0 (wd u)) (hS : va_S A0 H0 H locs) (hA : ∀ q, H0.size ≤ q → A0 q)
    (q0 : Nat) (he : (wd u)[q0]? = some (b, .inr (ci, fs))) (hc : vwCl[ci]? = some (C, T, N)) (hn : As.length = n) (hsz : ls.size = nL) (hst : st0 = As.reverse ++ .ref b :: rest) (hr : (rest.map fun v => v.category).sum ≤ 8)
    (hdg : decode cc pc = .ok (.invokevirtual index, 3)) (hcs : cells ≤ R.cells ∧ slots ≤ R.slots)
    (kk : ∀ (H : Heap) (locs : List Loc), va_P D vwCl (wd u') H → va_D A0 (wd u') → va_S A0 H0 H locs → W p l e R s m args below meth c H locs cells slots Q (F0 m (pc + 3) ls (rv.toList ++ rest))) : W p l e R s m args below meth c H locs cells slots Q (F0 m pc ls st0) := by
  refine g_after (aa := (Value.ref b :: As).toArray) (va_runV (As := As) (rest := rest) ⟨hx, hb, hml, hown, hts⟩ (hM H.size) (cwV n hts hT hw hrc hrs hd hR) ⟨gPc_blind hE2, va_recv (q := (C, T, N)) hK hP hc he, fun U hU hW => ⟨rfl, by rw [hU], hE2 _ _ hW hE, by rw [hU]; exact hP, va_K.moved hW.alike hK, hD.weaken (fun _ _ _ _ => trivial)⟩⟩ rfl hn hsz hst (lv_room hr) hdg hcs) hS (g_free hD hS hA) kk
theorem g_callS {ws' : List Cond} (hx : p.tables.exec = Jvm.exec) (hb : c.code = cc) (hml : c.maxLocals = nL) (hown : s.vm.findClass own = some m.cls) (hts : ∀ w ∈ Ts, w.before args s = true)
    (hM : gM l y ws rm D tys wd E2 As u rv u') (hT : GoodIn Ts (va_wsS own index y ws)) (hw : ws = Cond.code y bytes maxL ret :: ws') (hrc : rm.cells = 0) (hrs : rm.slots = 0)
    (hd : y.cls ≠ "java/lang/invoke/MethodHandle" ∧ y.cls ≠ "java/lang/invoke/VarHandle" ∧ (parseMethodDescriptor y.desc).map (fun d => d.parameters.length) = some n) (hR : rm.frames + 1 ≤ R.frames ∧ 8 + (maxL + 11) + rm.locals ≤ R.locals)
    (hE2 : gEM E2) (hE : E2 s) (hP : va_P D vwCl (wd u) H) (hK : va_K D vwCl tys s) (hD : va_D A0 (wd u)) (hS : va_S A0 H0 H locs) (hA : ∀ q, H0.size ≤ q → A0 q)
    (hn : As.length = n) (hsz : ls.size = nL) (hst : st0 = As.reverse ++ rest) (hr : (rest.map fun v => v.category).sum ≤ 8)
    (hdg : decode cc pc = .ok (.invokestatic index, 3)) (hcs : cells ≤ R.cells ∧ slots ≤ R.slots)
    (kk : ∀ (H : Heap) (locs : List Loc), va_P D vwCl (wd u') H → va_D A0 (wd u') → va_S A0 H0 H locs → W p l e R s m args below meth c H locs cells slots Q (F0 m (pc + 3) ls (rv.toList ++ rest))) : W p l e R s m args below meth c H locs cells slots Q (F0 m pc ls st0) := by
  refine g_after (aa := As.toArray) (va_runS (As := As) (rest := rest) ⟨hx, hb, hml, hown, hts⟩ (hM H.size) (va_cwS n hts hT hw hrc hrs hd hR) ⟨gPc_blind hE2, fun U hU hW => ⟨rfl, by rw [hU], hE2 _ _ hW hE, by rw [hU]; exact hP, va_K.moved hW.alike hK, hD.weaken (fun _ _ _ _ => trivial)⟩⟩ rfl hn hsz hst (lv_room hr) hdg hcs) hS (g_free hD hS hA) kk
/-- the world of a method that touches no cell -/
abbrev w0 : Unit → va_W := fun _ => []
theorem w0_P {H : Heap} : va_P D vwCl (w0 ()) H := fun k q h => by simp at h
theorem w0_D {A : Nat → Prop} : va_D A (w0 ()) := ⟨fun i j p q h => by simp at h, fun k q h => by simp at h⟩
theorem g_callS0 {ws' : List Cond} {wa : va_W} (hx : p.tables.exec = Jvm.exec) (hb : c.code = cc) (hml : c.maxLocals = nL) (hown : s.vm.findClass own = some m.cls) (hts : ∀ w ∈ Ts, w.before args s = true)
    (hM : gM l y ws rm D tys w0 E2 As () rv ()) (hT : GoodIn Ts (va_wsS own index y ws)) (hw : ws = Cond.code y bytes maxL ret :: ws') (hrc : rm.cells = 0) (hrs : rm.slots = 0)
    (hd : y.cls ≠ "java/lang/invoke/MethodHandle" ∧ y.cls ≠ "java/lang/invoke/VarHandle" ∧ (parseMethodDescriptor y.desc).map (fun d => d.parameters.length) = some n) (hR : rm.frames + 1 ≤ R.frames ∧ 8 + (maxL + 11) + rm.locals ≤ R.locals)
    (hE2 : gEM E2) (hE : E2 s) (hP : va_P D vwCl wa H) (hK : va_K D vwCl tys s) (hS : va_S A0 H0 H locs) (hA : ∀ q, H0.size ≤ q → A0 q)
    (hn : As.length = n) (hsz : ls.size = nL) (hst : st0 = As.reverse ++ rest) (hr : (rest.map fun v => v.category).sum ≤ 8)
    (hdg : decode cc pc = .ok (.invokestatic index, 3)) (hcs : cells ≤ R.cells ∧ slots ≤ R.slots)
    (kk : ∀ (H : Heap) (locs : List Loc), va_P D vwCl wa H → va_S A0 H0 H locs → W p l e R s m args below meth c H locs cells slots Q (F0 m (pc + 3) ls (rv.toList ++ rest))) : W p l e R s m args below meth c H locs cells slots Q (F0 m pc ls st0) := by
  refine g_after0 (va_runS (As := As) (rest := rest) ⟨hx, hb, hml, hown, hts⟩ (hM H.size) (va_cwS n hts hT hw hrc hrs hd hR) ⟨gPc_blind hE2, fun U hU hW => ⟨rfl, by rw [hU], hE2 _ _ hW hE, w0_P, va_K.moved hW.alike hK, w0_D⟩⟩ rfl hn hsz hst (lv_room hr) hdg hcs) (fun st oc t h => ⟨h.1.1, h.2⟩) hP hS hA kk
theorem g_callN0 {ws' : List Cond} {wa : va_W} (hx : p.tables.exec = Jvm.exec) (hb : c.code = cc) (hml : c.maxLocals = nL) (hown : s.vm.findClass own = some m.cls) (hts : ∀ w ∈ Ts, w.before args s = true)
    (hM : gM l y ws rm D tys w0 E2 As () rv ()) (hT : GoodIn Ts ws) (hw : ws = Cond.code y bytes maxL ret :: ws') (hrc : rm.cells = 0) (hrs : rm.slots = 0) (hl : va_Nw (.methodLinkNest own index y host) s) (hini : (Cond.initialized y.cls).before args s = true) (hstc : (Cond.static y).before args s = true)
    (hd : y.cls ≠ "java/lang/invoke/MethodHandle" ∧ y.cls ≠ "java/lang/invoke/VarHandle" ∧ (parseMethodDescriptor y.desc).map (fun d => d.parameters.length) = some n) (hR : rm.frames + 1 ≤ R.frames ∧ 8 + (maxL + 11) + rm.locals ≤ R.locals)
    (hE2 : gEM E2) (hE : E2 s) (hP : va_P D vwCl wa H) (hK : va_K D vwCl tys s) (hS : va_S A0 H0 H locs) (hA : ∀ q, H0.size ≤ q → A0 q)
    (hn : As.length = n) (hsz : ls.size = nL) (hst : st0 = As.reverse ++ rest) (hr : (rest.map fun v => v.category).sum ≤ 8)
    (hdg : decode cc pc = .ok (.invokestatic index, 3)) (hcs : cells ≤ R.cells ∧ slots ≤ R.slots)
    (kk : ∀ (H : Heap) (locs : List Loc), va_P D vwCl wa H → va_S A0 H0 H locs → W p l e R s m args below meth c H locs cells slots Q (F0 m (pc + 3) ls (rv.toList ++ rest))) : W p l e R s m args below meth c H locs cells slots Q (F0 m pc ls st0) := by
  refine g_after0 (va_runSN (As := As) (rest := rest) ⟨hx, hb, hml, hown, hts⟩ (hM H.size) ⟨va_cnB n hts hT hw hrc hrs hl hini hd hR, hstc, trivial⟩ ⟨gPc_blind hE2, fun U hU hW => ⟨rfl, by rw [hU], hE2 _ _ hW hE, w0_P, va_K.moved hW.alike hK, w0_D⟩⟩ rfl hn hsz hst (lv_room hr) hdg hcs) (fun st oc t h => ⟨h.1.1, h.2⟩) hP hS hA kk
end GL3
section GL4
variable {Sg : Type} {p : Program} {l : Launch} {e : Env} {R : Room} {s : State} {m : MethodId} {args : Array Value} {below : List Frame} {meth : Method} {c : Code} {H : Heap} {locs : List Loc} {cells slots : Nat} {Q : State → Prop}
variable {D : va_G} {tys : List (ClassId × FieldType)} {wd : Sg → va_W} {u u' : Sg} {cc : ByteArray} {pc : Nat} {ls : Array Slot} {A : Nat → Prop} {H0 : Heap} {a : Nat} {rest : List Value} {cA : ClassId} {n : Nat} {f : Nat → Int32}
theorem g_iald (hx : p.tables.exec = Jvm.exec) (hb : c.code = cc) (hK : va_K D vwCl tys s) (hP : va_P D vwCl (wd u) H) (q0 t0 : Nat) (ha : (wd u)[q0]? = some (a, .inl (cA, n, .inl f))) (ht : tys[t0]? = some (cA, .int)) {i : Int32} (k : Nat) (hk : k < n) (hn : n < 2 ^ 31) (hi : i = nI k) (hdg : decode cc pc = .ok (.iaload, 1))
    (kk : W p l e R s m args below meth c H locs cells slots Q (F0 m (pc + 1) ls (.int (f k) :: rest))) : W p l e R s m args below meth c H locs cells slots Q (F0 m pc ls (.int i :: .ref a :: rest)) := by
  subst hi
  refine va_iald hx hb hK hP q0 t0 ha ht (vp_in_nI hk hn) hdg ?_
  rw [nI_clamp (by omega)]
  exact kk
theorem g_zald (hx : p.tables.exec = Jvm.exec) (hb : c.code = cc) (hK : va_K D vwCl tys s) (hP : va_P D vwCl (wd u) H) (q0 t0 : Nat) (ha : (wd u)[q0]? = some (a, .inl (cA, n, .inl f))) (ht : tys[t0]? = some (cA, .boolean)) {i : Int32} (k : Nat) (hk : k < n) (hn : n < 2 ^ 31) (hi : i = nI k) (hdg : decode cc pc = .ok (.baload, 1))
    (kk : W p l e R s m args below meth c H locs cells slots Q (F0 m (pc + 1) ls (.int (f k) :: rest))) : W p l e R s m args below meth c H locs cells slots Q (F0 m pc ls (.int i :: .ref a :: rest)) := by
  subst hi
  refine va_zald hx hb hK hP q0 t0 ha ht (vp_in_nI hk hn) hdg ?_
  rw [nI_clamp (by omega)]
  exact kk
theorem g_iast (hx : p.tables.exec = Jvm.exec) (hb : c.code = cc) (hK : va_K D vwCl tys s) (hP : va_P D vwCl (wd u) H) (hD : va_D A (wd u)) (hS : va_S A H0 H locs) (q0 t0 : Nat) (ha : (wd u)[q0]? = some (a, .inl (cA, n, .inl f))) (ht : tys[t0]? = some (cA, .int)) {i x : Int32} (k : Nat) (hk : k < n) (hn : n < 2 ^ 31) (hi : i = nI k) (hset : (wd u).set q0 (a, .inl (cA, n, .inl (upd f k x))) = wd u') (hdg : decode cc pc = .ok (.iastore, 1))
    (kk : ∀ (H : Heap) (locs : List Loc), va_P D vwCl (wd u') H → va_D A (wd u') → va_S A H0 H locs → W p l e R s m args below meth c H locs cells slots Q (F0 m (pc + 1) ls rest)) : W p l e R s m args below meth c H locs cells slots Q (F0 m pc ls (.int x :: .int i :: .ref a :: rest)) := by
  subst hi
  refine va_iast hx hb hK hP hD hS q0 t0 ha ht (vp_in_nI hk hn) hdg ?_
  rw [nI_clamp (by omega), hset]
  exact kk
theorem g_zast (hx : p.tables.exec = Jvm.exec) (hb : c.code = cc) (hK : va_K D vwCl tys s) (hP : va_P D vwCl (wd u) H) (hD : va_D A (wd u)) (hS : va_S A H0 H locs) (q0 t0 : Nat) (ha : (wd u)[q0]? = some (a, .inl (cA, n, .inl f))) (ht : tys[t0]? = some (cA, .boolean)) {i x : Int32} (k : Nat) (hk : k < n) (hn : n < 2 ^ 31) (hi : i = nI k) (hz : vp_nar .boolean x = x) (hset : (wd u).set q0 (a, .inl (cA, n, .inl (upd f k x))) = wd u') (hdg : decode cc pc = .ok (.bastore, 1))
    (kk : ∀ (H : Heap) (locs : List Loc), va_P D vwCl (wd u') H → va_D A (wd u') → va_S A H0 H locs → W p l e R s m args below meth c H locs cells slots Q (F0 m (pc + 1) ls rest)) : W p l e R s m args below meth c H locs cells slots Q (F0 m pc ls (.int x :: .int i :: .ref a :: rest)) := by
  subst hi
  refine va_zast hx hb hK hP hD hS q0 t0 ha ht (vp_in_nI hk hn) hdg ?_
  rw [nI_clamp (by omega), hz, hset]
  exact kk
theorem g_cmp0 (x y : Int64) : lg_cmp x y = 0 ↔ x = y := by
  unfold lg_cmp
  by_cases h2 : x > y
  · rw [if_pos h2]
    refine ⟨fun h => absurd h (by decide), fun h => ?_⟩
    subst h
    rw [gt_iff_lt, Int64.lt_iff_toInt_lt] at h2
    omega
  · rw [if_neg h2]
    by_cases h1 : x = y
    · simp [h1]
    · rw [if_neg h1]
      exact ⟨fun h => absurd h (by decide), fun h => absurd h h1⟩
theorem g_lcmpE {x y : Int64} (hx : p.tables.exec = Jvm.exec) (hb : c.code = cc) {off : Int} {tgt : Nat} (d1 : decode cc pc = .ok (.lcmp, 1)) (d2 : decode cc (pc + 1) = .ok (.ifCond .eq off, 3)) (ht : ((pc + 1 : Nat) : Int) + off = (tgt : Int))
    (kt : x = y → W p l e R s m args below meth c H locs cells slots Q (F0 m tgt ls rest)) (kf : ¬ x = y → W p l e R s m args below meth c H locs cells slots Q (F0 m (pc + 1 + 3) ls rest)) : W p l e R s m args below meth c H locs cells slots Q (F0 m pc ls (.long y :: .long x :: rest)) := by
  refine W.lcmp hx hb d1 ?_
  have key : lg_cmp x y = 0 ↔ x = y := g_cmp0 x y
  refine lv_if_eq hx hb d2 ht (fun h => kt (key.mp h)) (fun h => kf (fun q => h (key.mpr q)))
theorem g_lcmpN {x y : Int64} (hx : p.tables.exec = Jvm.exec) (hb : c.code = cc) {off : Int} {tgt : Nat} (d1 : decode cc pc = .ok (.lcmp, 1)) (d2 : decode cc (pc + 1) = .ok (.ifCond .ne off, 3)) (ht : ((pc + 1 : Nat) : Int) + off = (tgt : Int))
    (kt : ¬ x = y → W p l e R s m args below meth c H locs cells slots Q (F0 m tgt ls rest)) (kf : x = y → W p l e R s m args below meth c H locs cells slots Q (F0 m (pc + 1 + 3) ls rest)) : W p l e R s m args below meth c H locs cells slots Q (F0 m pc ls (.long y :: .long x :: rest)) := by
  refine W.lcmp hx hb d1 ?_
  have key : lg_cmp x y = 0 ↔ x = y := g_cmp0 x y
  exact lv_if_ne hx hb d2 ht (fun h => kt (fun q => h (key.mpr q))) (fun h => kf (key.mp h))
end GL4
