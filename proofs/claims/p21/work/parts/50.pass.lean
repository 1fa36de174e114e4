/-! A CALL THAT THROWS, passed on -/
section GPS
variable {Sg : Type} {p : Program} {l : Launch} {e : Env} {R : Room} {s : State} {m : MethodId} {args : Array Value} {below : List Frame} {meth : Method} {c : Code} {H : Heap} {locs : List Loc} {cells slots : Nat} {Q : State → Prop}
variable {D : va_G} {tys : List (ClassId × FieldType)} {wd : Sg → va_W} {E2 : State → Prop} {T : (Nat → Prop) → State → Heap → Prop} {u : Sg} {En : String} {cc bytes : ByteArray} {pc : Nat} {ls : Array Slot} {A0 : Nat → Prop} {H0 : Heap}
variable {y : MethodName} {ws Ts : List Cond} {rm : Room} {maxL nL n index : Nat} {ret : Option FieldType} {own C : String} {b : Nat} {As rest st0 : List Value}
theorem g_xafter (hr : vx_Run p l e R s m args below meth c H locs cells slots 1 6 (F0 m pc ls st0) rest (fun _ _ _ => False) (gXc D wd u (va_A (wd u) H.size) En) (va_A (wd u) H.size)) (hS : va_S A0 H0 H locs) (hf : ∀ q, va_A (wd u) H.size q → A0 q)
    (kx : ∀ (E : String) (ce : Cell) (q : Addr) (H1 : Heap) (locs1 : List Loc), E = En → va_P D vwCl (wd u) H1 → va_D A0 (wd u) → va_S A0 H0 H1 locs1 → H.size + 1 ≤ H1.size → (∀ q : Nat, q < H.size → ¬ va_A (wd u) H.size q → H1[q]? = H[q]?) → H1[q]? = some ce → ce.vm = .none → s.vm.findClass E = some ce.cls → vx_W p l e R s m args below meth c H1 locs1 (cells + 1) (slots + 6) Q (F0 m pc ls rest) q) :
    W p l e R s m args below meth c H locs cells slots Q (F0 m pc ls st0) := by
  intro T hT X
  rcases hr T hT X with ⟨v, st₀, t, T', L, h0, X', hL, e1, e2, hq, st⟩ | ⟨q, st₀, t, T', L, E, ce, h0, X', hL, e1, e2, ⟨⟨hE1, hP1, hD1, hG1⟩, hF⟩, hce, hcv, hcl, st⟩
  · exact hq.elim
  · obtain ⟨k1, k2, k3⟩ := vx_keep h0 e1 hS (fun q _ h => hf q h) hf hL hF
    obtain ⟨t2, a1, b1⟩ := kx E ce q T'.heap (locs ++ L) hE1 (by rw [e1]; exact hP1) (hD1.weaken (fun k q _ h => hf q.1 h)) k3 (by rw [e1, ← h0]; exact hG1) k2 (by rw [e1]; exact hce) hcv hcl T' rfl X'
    exact ⟨t2, st.trans a1, b1⟩
theorem g_Tin {ws0 : va_W} {U : State} (hTm : gTM T) (hTs : T A0 s s.heap) (hD : va_D A0 ws0) (hS : va_S A0 s.heap H locs) (hA : ∀ q, s.heap.size ≤ q → A0 q) (hU : U.heap = H) (hW : s.WarmedH U.vm) : T (va_A ws0 H.size) U U.heap := by
  rw [hU]
  exact hTm.1 _ s U H hW (hTm.2.2 A0 _ s H (hTm.2.1 A0 s s.heap H hTs (fun a h1 h2 => hS.2.1 a h1 h2)) (g_free hD hS hA))
theorem gPcX_blind {av : List Value} {sz : Nat} (hE : gEM E2) (hTm : gTM T) : FrameBlind (fun a U => gPc D tys wd E2 av u sz a U ∧ T (va_A (wd u) sz) U U.heap) := by
  intro a U g mk h
  exact ⟨gPc_blind hE a U g mk h.1, hTm.1 _ U (U.calling g mk a) U.heap (State.WarmedH.refl U) h.2⟩
theorem g_xV {ws' : List Cond} {ci N : Nat} {T9 : u_T} {fs : List Value} (hx : p.tables.exec = Jvm.exec) (hb : c.code = cc) (hml : c.maxLocals = nL) (hown : s.vm.findClass own = some m.cls) (hts : ∀ w ∈ Ts, w.before args s = true)
    (hM : gX l y ws rm D tys wd E2 T (.ref b :: As) u En) (hT : GoodIn Ts (wsV own index C y ws)) (hw : ws = Cond.code y bytes maxL ret :: ws') (hrc : rm.cells = 1) (hrs : rm.slots = 6)
    (hd : y.cls = C ∧ y.cls ≠ "java/lang/invoke/MethodHandle" ∧ y.cls ≠ "java/lang/invoke/VarHandle" ∧ (parseMethodDescriptor y.desc).map (fun d => d.parameters.length) = some n) (hR : rm.frames + 1 ≤ R.frames ∧ 8 + (maxL + 11) + rm.locals ≤ R.locals)
    (hE2 : gEM E2) (hE : E2 s) (hTm : gTM T) (hTs : ∀ U : State, U.heap = H → s.WarmedH U.vm → T (va_A (wd u) H.size) U U.heap) (hP : va_P D vwCl (wd u) H) (hK : va_K D vwCl tys s) (hD : va_D A0 (wd u)) (hS : va_S A0 H0 H locs) (hA : ∀ q, H0.size ≤ q → A0 q)
    (q0 : Nat) (he : (wd u)[q0]? = some (b, .inr (ci, fs))) (hc : vwCl[ci]? = some (C, T9, N)) (hn : As.length = n) (hsz : ls.size = nL) (hst : st0 = As.reverse ++ .ref b :: rest) (hr : (rest.map fun v => v.category).sum ≤ 8)
    (hdg : decode cc pc = .ok (.invokevirtual index, 3)) (hcs : cells + 1 ≤ R.cells ∧ slots + 6 ≤ R.slots)
    (kx : ∀ (E : String) (ce : Cell) (q : Addr) (H1 : Heap) (locs1 : List Loc), E = En → va_P D vwCl (wd u) H1 → va_D A0 (wd u) → va_S A0 H0 H1 locs1 → H.size + 1 ≤ H1.size → (∀ q : Nat, q < H.size → ¬ va_A (wd u) H.size q → H1[q]? = H[q]?) → H1[q]? = some ce → ce.vm = .none → s.vm.findClass E = some ce.cls → vx_W p l e R s m args below meth c H1 locs1 (cells + 1) (slots + 6) Q (F0 m pc ls rest) q) :
    W p l e R s m args below meth c H locs cells slots Q (F0 m pc ls st0) :=
  g_xafter (vx_runV (As := As) (rest := rest) ⟨hx, hb, hml, hown, hts⟩ (hM H.size) (cwV n hts hT hw hrc hrs hd hR) ⟨gPcX_blind hE2 hTm, va_recv (q := (C, T9, N)) hK hP hc he, fun U hU hW => ⟨⟨rfl, by rw [hU], hE2 _ _ hW hE, by rw [hU]; exact hP, va_K.moved hW.alike hK, hD.weaken (fun _ _ _ _ => trivial)⟩, hTs U hU hW⟩⟩ rfl hn hsz hst (lv_room hr) hdg hcs) hS (g_free hD hS hA) kx
theorem g_xS {ws' : List Cond} (hx : p.tables.exec = Jvm.exec) (hb : c.code = cc) (hml : c.maxLocals = nL) (hown : s.vm.findClass own = some m.cls) (hts : ∀ w ∈ Ts, w.before args s = true)
    (hM : gX l y ws rm D tys wd E2 T As u En) (hT : GoodIn Ts (va_wsS own index y ws)) (hw : ws = Cond.code y bytes maxL ret :: ws') (hrc : rm.cells = 1) (hrs : rm.slots = 6)
    (hd : y.cls ≠ "java/lang/invoke/MethodHandle" ∧ y.cls ≠ "java/lang/invoke/VarHandle" ∧ (parseMethodDescriptor y.desc).map (fun d => d.parameters.length) = some n) (hR : rm.frames + 1 ≤ R.frames ∧ 8 + (maxL + 11) + rm.locals ≤ R.locals)
    (hE2 : gEM E2) (hE : E2 s) (hTm : gTM T) (hTs : ∀ U : State, U.heap = H → s.WarmedH U.vm → T (va_A (wd u) H.size) U U.heap) (hP : va_P D vwCl (wd u) H) (hK : va_K D vwCl tys s) (hD : va_D A0 (wd u)) (hS : va_S A0 H0 H locs) (hA : ∀ q, H0.size ≤ q → A0 q)
    (hn : As.length = n) (hsz : ls.size = nL) (hst : st0 = As.reverse ++ rest) (hr : (rest.map fun v => v.category).sum ≤ 8)
    (hdg : decode cc pc = .ok (.invokestatic index, 3)) (hcs : cells + 1 ≤ R.cells ∧ slots + 6 ≤ R.slots)
    (kx : ∀ (E : String) (ce : Cell) (q : Addr) (H1 : Heap) (locs1 : List Loc), E = En → va_P D vwCl (wd u) H1 → va_D A0 (wd u) → va_S A0 H0 H1 locs1 → H.size + 1 ≤ H1.size → (∀ q : Nat, q < H.size → ¬ va_A (wd u) H.size q → H1[q]? = H[q]?) → H1[q]? = some ce → ce.vm = .none → s.vm.findClass E = some ce.cls → vx_W p l e R s m args below meth c H1 locs1 (cells + 1) (slots + 6) Q (F0 m pc ls rest) q) :
    W p l e R s m args below meth c H locs cells slots Q (F0 m pc ls st0) :=
  g_xafter (vx_runS (As := As) (rest := rest) ⟨hx, hb, hml, hown, hts⟩ (hM H.size) (va_cwS n hts hT hw hrc hrs hd hR) ⟨gPcX_blind hE2 hTm, fun U hU hW => ⟨⟨rfl, by rw [hU], hE2 _ _ hW hE, by rw [hU]; exact hP, va_K.moved hW.alike hK, hD.weaken (fun _ _ _ _ => trivial)⟩, hTs U hU hW⟩⟩ rfl hn hsz hst (lv_room hr) hdg hcs) hS (g_free hD hS hA) kx
/-- and on to this method's caller -/
theorem g_out {Ee : String} {ce : Cell} {q : Addr} {H1 : Heap} {locs1 : List Loc} {cl sl : Nat} (hQ : Q = vx_MQ below (fun _ _ _ _ => False) (gXc D wd u A0 En) args s 1 6 A0) (htab : ∀ x ∈ c.exceptionTable.toList, False) (hlk : meth.locks = false) (hE1 : Ee = En) (hP1 : va_P D vwCl (wd u) H1) (hD1 : va_D A0 (wd u)) (hS1 : va_S A0 s.heap H1 locs1) (hG1 : s.heap.size + 1 ≤ H1.size)
    (hce : H1[q]? = some ce) (hcv : ce.vm = .none) (hcl : s.vm.findClass Ee = some ce.cls) (h1 : cl ≤ 1) (h2 : sl ≤ 6) : vx_W p l e R s m args below meth c H1 locs1 cl sl Q (F0 m pc ls rest) q := by
  subst hQ
  exact vx_out (fun x hx => (htab x hx).elim) hlk hce hcv hcl (fun t ht _ => ⟨⟨hE1, by rw [ht]; exact hP1, hD1, by rw [ht]; exact hG1⟩, hS1.F ht⟩) hS1.2.2 h1 h2
end GPS
def exA (z : Int32) : String := if z = 1 then "java/lang/IndexOutOfBoundsException" else if z = 2 then "java/lang/IllegalArgumentException" else "java/lang/IllegalStateException"
def exB (z : Int32) : String := if z = 1 then "java/lang/IllegalArgumentException" else "java/lang/IllegalStateException"
def exC (z : Int32) : String := if z = 1 then "java/lang/IndexOutOfBoundsException" else "java/lang/IllegalStateException"
