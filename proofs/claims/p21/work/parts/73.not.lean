/-! THE CLAIM IS FALSE: from a start with room enough the law makes 134 cells and more; the claim allows 133 (lw_P, lw_pre_spec: from the kit's skeleton, starting texts) -/
def lw_P (b : Addr) (xs : List Int32) (args : Array Value) (s : State) : Prop := args = #[.ref b] ∧ s.IntsAt b xs ∧ xs.length ≤ 260 ∧ (Jvm.Cond.and given_1 narrow_1).before args s = true
theorem lw_pre_spec {args : Array Value} {s : State} (h : (Jvm.Cond.and given_1 narrow_1).before args s = true) (hr : rest_1_c.before args s = true) : ∃ (b : Addr) (xs : List Int32), lw_P b xs args s := by
  have hs := flat_of_before _ h
  have hq := flat_of_before _ hr
  have hc : (Cond.count 1).before args s = true := hs _ (by decide +kernel)
  have harr : (Cond.arrayOf (.arg 0) .int).before args s = true := hs _ (by decide +kernel)
  have hle : (Cond.le (.length (.arg 0)) (.int 260)).before args s = true := hs _ (by decide +kernel)
  have hlen : (Cond.isInt (.length (.arg 0))).before args s = true := hq _ (by decide +kernel)
  have hall : (Cond.all (.arg 0) (.isInt (.elem (.arg 0) (.index 0)))).before args s = true := hq _ (by decide +kernel)
  obtain ⟨b, xs, hb, hx⟩ := State.ints_of_pre rfl harr hlen hall
  have hsm : xs.length < 2 ^ 31 := hx.choose_spec.2.2.2
  have hev : (Term.length (.arg 0)).eval args s none [] s = some (.int xs.length.toInt32) := hx.length_eval hb
  have hv := Cond.le_ints hev (show (Term.int 260).eval args s none [] s = some (.int 260) from rfl)
  have hd : xs.length.toInt32 ≤ 260 := by
    simpa [Cond.before, Cond.holds, hv] using hle
  have hN : xs.length ≤ 260 := (Int32.ofNat_le_ofNat hsm (by decide)).mp (show Int32.ofNat xs.length ≤ Int32.ofNat 260 from hd)
  exact ⟨b, xs, Cond.one_arg hc (show args[0]? = some (.ref b) from hb), hx, hN, h⟩
/-- the machine's state after the law's entry, and on to where 134 cells are new -/
theorem p21_mid {l : Launch} (hflags : l.flags = flags0) {p : Program} {e : Env} {s : State} {m : MethodId} {args : Array Value} {below : List Frame} (ha : l.admits e) (hc : FairCas e.choices) (hk : FairClock e.choices) (hf : s.frames = .invoking m args :: below)
    (happ : (headSpec (Jvm.Cond.code x code maxLocals ret :: tables_1) room_1).applies x e.platform s = true) (hroom : s.hasRoom e.platform rmBig = true) (hrest : rest_1_c.before args s = true) (hpre : (Jvm.Cond.and given_1 narrow_1).before args s = true) : ∃ t : State, Steps p.tables e below s t ∧ MQm s below t := by
  obtain ⟨b, xs, hP⟩ := lw_pre_spec hpre hrest
  obtain ⟨rfl, hx, hbd, hgv⟩ := hP
  obtain ⟨q1, q2, q3, q4, q5, q6, -, q8⟩ := (Spec.applies_iff hf).mp happ
  have happ2 : (headSpec (Jvm.Cond.code x code maxLocals ret :: tables_1) rmBig).applies x e.platform s = true := (Spec.applies_iff hf).mpr ⟨q1, q2, q3, q4, q5, q6, hroom, q8⟩
  obtain ⟨meth, c, B, -, hml, hsteps⟩ := Body.of_applies (code := code) (maxLocals := maxLocals) (ret := ret) (by decide) (fun a z h => atoms_spec (ws := Jvm.Cond.code x code maxLocals ret :: tables_1) h _ List.mem_cons_self) p ha hc hk hf happ2
  have hinit : s.classRipe m = true := ((Spec.appliesLoose_iff hf).mp ((Spec.applies_iff_loose hf).mp happ2).1).2.2.2.2.2.1
  have BL : BodyLoose p l x (headSpec (Jvm.Cond.code x code maxLocals ret :: tables_1) rmBig) code maxLocals ret e s m #[.ref b] below meth c (s.setFrames (.java (entryFrame m #[.ref b] maxLocals) :: below)) := ⟨B.admits, B.cas, B.clock, B.exec, B.frames, B.named, B.hears, hinit, B.room, B.pre, B.method, B.returns, B.notSynchronized, B.bytes, B.state, B.here⟩
  obtain ⟨scr, harrAt, hlist, hof, hsmall⟩ := hx
  obtain ⟨hcb, hkn, -, -⟩ := State.arrayAt?_spec harrAt
  have hown : s.vm.findClass R_law = some m.cls := findClass_of_methodNamed B.named
  have hts0 : ∀ c ∈ (Jvm.Cond.code x code maxLocals ret :: tables_1), c.before #[Value.ref b] s = true := atoms_spec (ws := Jvm.Cond.code x code maxLocals ret :: tables_1) B.pre
  have hts : ∀ w ∈ lw_tbl, w.before #[Value.ref b] s = true := k2_hts_sels lw_privs (fun w hw => hts0 w (List.mem_cons_of_mem _ hw)) lw_privs_ok
  have hsz : scr.slots.size = xs.length := by rw [← Array.length_toList, hlist, List.length_map]
  have hval : ∀ j : Nat, j < xs.length → scr.slots[j]? = some (.int (xs.getD j 0)) := fun j hj => by
    rw [← Array.getElem?_toList, hlist]
    simp [hj]
  have hbl : b < s.heap.size := (Array.getElem?_eq_some_iff.mp hcb).1
  have hX : va_X b xs.length (fun j => xs.getD j 0) s s.heap := ⟨scr, hcb, hof, hkn, hsz, hval⟩
  obtain ⟨t, a1, b1⟩ := law_mid l hflags hbd ⟨B.exec, B.bytes, B.returns, hml, hown, hts, hX, hbl, B.notSynchronized, hgv⟩ (s.setFrames (.java (entryFrame m #[.ref b] maxLocals) :: below)) rfl (Stand.of_body BL)
  exact ⟨t, hsteps.trans a1, b1⟩
/-- so the end, which comes later, has as many at the least -/
theorem p21_past {p : Program} {e : Env} {s : State} {below : List Frame} {n : Nat} {o : Outcome} (hmid : ∃ t : State, Steps p.tables e below s t ∧ MQm s below t) (hend : Ended (stepsAlone p.tables e n s) below o) : s.heap.size + 134 ≤ (stepsAlone p.tables e n s).heap.size := by
  obtain ⟨t, hst, hin, hsz⟩ := hmid
  obtain ⟨k, hk, e1⟩ := hst.moment hin
  have hkn : k < n := Nat.lt_of_not_le (fun h => hend.not_within (hk n h))
  rw [show n = k + (n - k) by omega, stepsAlone_add, e1]
  exact Nat.le_trans hsz (stepsAlone_heap_le _ _ _ _)
theorem p21_frame {s t : State} {o : Outcome} {L : List Loc} (h : Framed s o t L 133 2285) : t.heap.size ≤ s.heap.size + 133 := h.2.2.2.2.1
/-- neither arm of the claim holds, where there is a start of it that has so much room -/
theorem p21_no {l : Launch} (hflags : l.flags = flags0) {p : Program} {e : Env} {s : State} {m : MethodId} {args : Array Value} {below : List Frame} (h0 : AtStart classFile x code maxLocals ret World_1 tables_1 room_1 Calls_1 rest_1 Pre_1 l p e s m args below) (hroom : s.hasRoom e.platform rmBig = true) : ¬ Claimed_1_1 ∧ ¬ Claimed_1_2 := by
  obtain ⟨hL, hW, ha, -, hc, hk, hf, hfit, hheap, happ, hcalls, hrest, hpre⟩ := h0
  have hmid := p21_mid hflags (p := p) ha hc hk hf happ hroom hrest hpre
  refine ⟨fun h => ?_, fun h => ?_⟩
  · obtain ⟨n, o, -, -, hend, hpost⟩ := h l hflags hL hW p e ha hc hk s m args below hf hfit hheap happ ⟨hcalls, hrest, hpre⟩
    have a := p21_past hmid hend
    have b := p21_frame hpost.2
    omega
  · obtain ⟨n, o, -, -, hend, hpost⟩ := h l hflags hL hW p e ha hc hk s m args below hf hfit hheap happ ⟨hcalls, hrest, hpre⟩
    have a := p21_past hmid hend
    have b := p21_frame hpost.2
    omega
