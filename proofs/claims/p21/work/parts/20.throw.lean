/-! THROWS: the class's own exceptions, thrown and passed on -/
def XT (A : Nat → Prop) (U : State) (H : Heap) : Prop := vx_Zq Bundle.tN "UNASSIGNED_STACK" Bundle.steD A U H ∧ vx_Zq Bundle.tN "SUPPRESSED_SENTINEL" Bundle.listD A U H
theorem XT_tm : gTM XT := ⟨fun _ _ _ _ hW h => ⟨h.1.moved hW.alike, h.2.moved hW.alike⟩, fun _ _ _ _ h hq => ⟨h.1.kept hq, h.2.kept hq⟩, fun _ _ _ _ h hAB => ⟨h.1.narrow hAB, h.2.narrow hAB⟩⟩
abbrev xNm : List String := ["java/lang/RuntimeException", "java/lang/Exception"]
theorem XB_ot : ∀ w ∈ XBw, w.onTables = true := by decide +kernel
/-- the words of a throw that a warmed state keeps by rows of their own -/
def XBt : List Cond := [.declares (Bundle.initS "java/lang/RuntimeException"), .declares (Bundle.initS "java/lang/Exception"), .declares (Bundle.initS Bundle.tN)]
theorem XBt_ot : ∀ w ∈ XBt, w.onTables = true := by decide +kernel
def XE (U : State) : Prop := XG U ∧ ∀ w ∈ XBt, va_Nw w U
theorem XE_em : gEM XE := by
  intro U U' hW h
  refine ⟨XG_em U U' hW h.1, fun w hw => ?_⟩
  have h1 := h.2 w hw
  simp only [XBt, List.mem_cons, List.not_mem_nil, or_false] at hw
  rcases hw with rfl | rfl | rfl <;> exact va_Nw.warmD hW h1
theorem xNm_fit : ∀ n ∈ xNm, Bundle.fit n = true := by decide +kernel
section THR
variable {Sg : Type} {p : Program} {l : Launch} {e : Env} {R : Room} {s : State} {m : MethodId} {args : Array Value} {below : List Frame} {meth : Method} {c : Code} {H : Heap} {locs : List Loc} {Q : State → Prop}
variable {D : va_G} {tys : List (ClassId × FieldType)} {wd : Sg → va_W} {u : Sg} {cc : ByteArray} {pc : Nat} {ls : Array Slot} {A : Nat → Prop} {rest : List Value}
theorem g_thx {cls : String} (hP : va_P D vwCl (wd u) H) (hD : va_D A (wd u)) (hS : va_S A s.heap H locs) : ∀ t : State, s.vm.Alike t.vm → H.size + 1 ≤ t.heap.size → (∀ q : Nat, q < H.size → t.heap[q]? = H[q]?) → gXc D wd u A cls cls s t :=
  fun t _ h1 h2 => ⟨⟨rfl, hP.kept (fun k q hk => h2 q.1 (vx_lt hP hk)), hD, Nat.le_trans (Nat.succ_le_succ hS.1) h1⟩, Nat.le_trans hS.1 (Nat.le_of_succ_le h1), fun q a b => (h2 q (Nat.lt_of_lt_of_le a hS.1)).trans (hS.2.1 q a b)⟩
theorem g_throw {cls text : String} {ik is ic : Nat} (hx : p.tables.exec = Jvm.exec) (hb : c.code = cc) (hst : l.stackTraces = false) (hown : s.vm.findClass RX2 = some m.cls) (hE : XE s) (hXT : XT A s s.heap) (hlk : meth.locks = false) (htab : ∀ x ∈ c.exceptionTable.toList, False)
    (hQ : Q = vx_MQ below (fun _ _ _ _ => False) (gXc D wd u A cls) args s 1 6 A) (hP : va_P D vwCl (wd u) H) (hD : va_D A (wd u)) (hS : va_S A s.heap H locs) (hsize : ls.size = c.maxLocals)
    (hcls : Bundle.fit cls = true) (hk : (Cond.classLink RX2 ik cls).before args s = true) (hini : (Cond.initialized cls).before args s = true) (hstr : (is, text) ∈ XStr)
    (hat1 : ∀ w ∈ (vx_atS RX2 ic cls xNm).filter goodWord, w.before args s = true) (hat2 : ∀ w ∈ (vx_atS RX2 ic cls xNm).filter (fun w => !goodWord w), w ∈ XBt ++ XBw) (hgood : ∀ w ∈ Cond.classLink RX2 ik cls :: Cond.initialized cls :: vx_atS RX2 ic cls xNm, vx_ot w = true)
    (d0 : decode cc pc = .ok (.new ik, 3)) (d3 : decode cc (pc + 3) = .ok (.dup, 1)) (d4 : decode cc (pc + 4) = .ok (.ldc is, 2)) (d6 : decode cc (pc + 6) = .ok (.invokespecial ic, 3)) (d9 : decode cc (pc + 9) = .ok (.athrow, 1))
    (hRf : xNm.length + 3 < R.frames) (hRl : (rest.map fun v => v.category).sum + (13 * (xNm.length + 1) + 43) ≤ R.locals) (hRc : 0 + 1 ≤ R.cells) (hRs : 0 + 6 ≤ R.slots) :
    W p l e R s m args below meth c H locs 0 0 Q (F0 m pc ls rest) := by
  subst hQ
  obtain ⟨sa, hsa⟩ := hE.1.2 _ hstr
  exact vx_throwS (A := A) hx hb hst hown hcls xNm_fit hk hini hsa (vx_hat hat1 hat2 (fun w hw => (List.mem_append.mp hw).elim (fun h => va_Nw.use (XBt_ot w h) (hE.2 w h)) (fun h => va_Nw.use (XB_ot w h) (hE.1.1 w h)))) hgood hXT.1 hXT.2 hS hsize d0 d3 d4 d6 d9 (fun x hx => (htab x hx).elim) hRf hRl hRc hRs hlk (g_thx hP hD hS) hS.2.2 (Nat.le_refl _) (Nat.le_refl _)
end THR
theorem fit_IOO : Bundle.fit "java/lang/IndexOutOfBoundsException" = true := by decide +kernel
theorem fit_IAE : Bundle.fit "java/lang/IllegalArgumentException" = true := by decide +kernel
theorem fit_ISE : Bundle.fit "java/lang/IllegalStateException" = true := by decide +kernel
theorem ot_IOO : ∀ w ∈ Cond.classLink RX2 201 "java/lang/IndexOutOfBoundsException" :: Cond.initialized "java/lang/IndexOutOfBoundsException" :: vx_atS RX2 205 "java/lang/IndexOutOfBoundsException" xNm, vx_ot w = true := by decide +kernel
theorem ot_IAE : ∀ w ∈ Cond.classLink RX2 55 "java/lang/IllegalArgumentException" :: Cond.initialized "java/lang/IllegalArgumentException" :: vx_atS RX2 59 "java/lang/IllegalArgumentException" xNm, vx_ot w = true := by decide +kernel
theorem ot_ISE : ∀ w ∈ Cond.classLink RX2 66 "java/lang/IllegalStateException" :: Cond.initialized "java/lang/IllegalStateException" :: vx_atS RX2 70 "java/lang/IllegalStateException" xNm, vx_ot w = true := by decide +kernel
theorem nb_IOO : ∀ w ∈ (vx_atS RX2 205 "java/lang/IndexOutOfBoundsException" xNm).filter (fun w => !goodWord w), w ∈ XBt ++ XBw := by decide +kernel
theorem nb_IAE : ∀ w ∈ (vx_atS RX2 59 "java/lang/IllegalArgumentException" xNm).filter (fun w => !goodWord w), w ∈ XBt ++ XBw := by decide +kernel
theorem nb_ISE : ∀ w ∈ (vx_atS RX2 70 "java/lang/IllegalStateException" xNm).filter (fun w => !goodWord w), w ∈ XBt ++ XBw := by decide +kernel
