/-! THE LAW'S LOOP: its rows -/
def LWd (cI cZ cL : ClassId) (q qm : Nat → Nat) (qo : Nat) (x : SX) (m : SM) (g : Nat → Int64) : va_W := WL cI cZ cL q qo (x, g) ++ MW cI cZ qm m
def LawC (p : Program) (s : State) (mm : MethodId) (c : Code) (b L : Nat) (xs : Nat → Int32) (D : va_G) (cI cZ cL : ClassId) : Prop :=
  p.tables.exec = Jvm.exec ∧ c.code = cL_law ∧ c.maxLocals = 7 ∧ s.vm.findClass RL = some mm.cls ∧ (∀ w ∈ wsL_law, w.before #[Value.ref b] s = true) ∧ va_X b L xs s s.heap ∧ b < s.heap.size ∧ LE s ∧ XT (fun a => s.heap.size ≤ a) s s.heap ∧ va_K D vwCl [(cI, .int), (cZ, .boolean), (cL, .long)] s
def LawN (p : Program) (l : Launch) (e : Env) (s : State) (mm : MethodId) (below : List Frame) (meth : Method) (c : Code) (b : Nat) (D : va_G) (cI cZ cL : ClassId) (q qm : Nat → Nat) (qo : Nat) (Q : State → Prop) (k : Nat) : Prop :=
  ∀ (n w : Nat) (x : SX) (m : SM) (g : Nat → Int64) (H : Heap) (locs : List Loc) (ls : Array Slot), Sim n w x m → va_P D vwCl (LWd cI cZ cL q qm qo x m g) H → va_D (fun a => s.heap.size ≤ a) (LWd cI cZ cL q qm qo x m g) → va_S (fun a => s.heap.size ≤ a) s.heap H locs → lv_has ls 7 [(0, .ref b), (1, .ref (q 0)), (2, .ref (qm 0)), (3, .ref qo), (4, .int (nI (6 * k)))] →
    W p l e room_1 s mm #[Value.ref b] below meth c H locs (34 + k) (1728 + 6 * k) Q (F0 mm 1254 ls [])
section LWR
variable {p : Program} {l : Launch} {e : Env} {R : Room} {s : State} {m : MethodId} {args : Array Value} {below : List Frame} {meth : Method} {c : Code} {H : Heap} {locs : List Loc} {cells slots : Nat} {Q : State → Prop} {cc : ByteArray} {pc : Nat} {ls : Array Slot} {rest : List Value}
theorem g_sld {b L : Nat} {xs : Nat → Int32} {A : Nat → Prop} {H0 : Heap} (hx : p.tables.exec = Jvm.exec) (hb : c.code = cc) (hX : va_X b L xs s H0) (hbl : b < H0.size) (hbA : ¬ A b) (hS : va_S A H0 H locs) {i : Int32} (k : Nat) (hk : k < L) (hL : L < 2 ^ 31) (hi : i = nI k) (hdg : decode cc pc = .ok (.iaload, 1))
    (kk : W p l e R s m args below meth c H locs cells slots Q (F0 m (pc + 1) ls (.int (xs k) :: rest))) : W p l e R s m args below meth c H locs cells slots Q (F0 m pc ls (.int i :: .ref b :: rest)) := by
  subst hi
  refine va_sld hx hb hX hbl hbA hS (vp_in_nI hk hL) hdg ?_
  rw [nI_clamp (by omega)]
  exact kk
theorem g_bool {v : Int32} (hx : p.tables.exec = Jvm.exec) (hb : c.code = cc) (d0 : decode cc pc = .ok (.ifCond .eq 7, 3)) (d1 : decode cc (pc + 3) = .ok (.iconst 1, 1)) (d2 : decode cc (pc + 4) = .ok (.goto 4, 3)) (d3 : decode cc (pc + 7) = .ok (.iconst 0, 1))
    (kk : W p l e R s m args below meth c H locs cells slots Q (F0 m (pc + 8) ls (.int (zB v) :: rest))) : W p l e R s m args below meth c H locs cells slots Q (F0 m pc ls (.int v :: rest)) := by
  refine lv_if_eq (tgt := pc + 7) hx hb d0 (by omega) (fun h => ?_) (fun h => ?_)
  · refine lv_iconst (v := 0) hx hb d3 (by decide) ?_
    rw [show zB v = 0 from if_pos h] at kk
    exact kk
  · refine lv_iconst (v := 1) hx hb d1 (by decide) ?_
    refine lv_goto (tgt := pc + 8) hx hb d2 (by omega) ?_
    rw [show zB v = 1 from if_neg h] at kk
    exact kk
theorem g_boolL {v : Int32} (hx : p.tables.exec = Jvm.exec) (hb : c.code = cc) (d0 : decode cc pc = .ok (.ifCond .eq 7, 3)) (d1 : decode cc (pc + 3) = .ok (.lconst 1, 1)) (d2 : decode cc (pc + 4) = .ok (.goto 4, 3)) (d3 : decode cc (pc + 7) = .ok (.lconst 0, 1))
    (kk : W p l e R s m args below meth c H locs cells slots Q (F0 m (pc + 8) ls (.long (bL v) :: rest))) : W p l e R s m args below meth c H locs cells slots Q (F0 m pc ls (.int v :: rest)) := by
  refine lv_if_eq (tgt := pc + 7) hx hb d0 (by omega) (fun h => ?_) (fun h => ?_)
  · refine lv_lconst (v := 0) hx hb d3 (by decide) ?_
    rw [show bL v = 0 from if_pos h] at kk
    exact kk
  · refine lv_lconst (v := 1) hx hb d1 (by decide) ?_
    refine lv_goto (tgt := pc + 8) hx hb d2 (by omega) ?_
    rw [show bL v = 1 from if_neg h] at kk
    exact kk
end LWR
theorem room1_c {k mc : Nat} (hk : k < 512) (h : mc ≤ 1) : 33 + k + mc ≤ room_1.cells := by
  show 33 + k + mc ≤ 1069
  omega
theorem room1_s {k ms : Nat} (hk : k < 512) (h : ms ≤ 6) : 1722 + 6 * k + ms ≤ room_1.slots := by
  show 1722 + 6 * k + ms ≤ 9986
  omega
