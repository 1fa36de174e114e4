/-! THE STATES. The class's: arrays and ints by number (0 firstParents, 1 secondParents, 2 slotFiles, 3 fewestSteps, 4 foundFiles, 5 the server's files, 6 its refs, 7 the client's files, 8 its refs, 9 protectedRefs, 10 movedRefs, 11 oldCommits, 12 newCommits; ints at place 0: 13 waitingMoves, 14 latestRounds, 15 made), longs by number (0 the server's commits, 1 the client's) -/
abbrev SX : Type := (Nat → Nat → Int32) × (Nat → Int64)
def gS (u : SX) (k : Nat) (f : Nat → Int32) : SX := (va_up u.1 k f, u.2)
def gL (u : SX) (k : Nat) (v : Int64) : SX := (u.1, va_up u.2 k v)
def XW (cI cZ : ClassId) (q : Nat → Nat) (u : SX) : va_W := [
  (q 0, .inr (2, [.ref (q 1), .ref (q 2), .ref (q 3), .ref (q 13), .ref (q 14), .ref (q 15), .ref (q 16), .int (u.1 13 0), .int (u.1 14 0)])),
  (q 1, .inr (0, [.ref (q 4), .ref (q 5), .ref (q 6), .ref (q 7), .ref (q 8), .int (u.1 15 0)])),
  (q 2, .inr (1, [.long (u.2 0), .ref (q 9), .ref (q 10)])),
  (q 3, .inr (1, [.long (u.2 1), .ref (q 11), .ref (q 12)])),
  (q 4, .inl (cI, 60, .inl (u.1 0))),
  (q 5, .inl (cI, 60, .inl (u.1 1))),
  (q 6, .inl (cI, 240, .inl (u.1 2))),
  (q 7, .inl (cI, 60, .inl (u.1 3))),
  (q 8, .inl (cZ, 100, .inl (u.1 4))),
  (q 9, .inl (cZ, 100, .inl (u.1 5))),
  (q 10, .inl (cI, 4, .inl (u.1 6))),
  (q 11, .inl (cZ, 100, .inl (u.1 7))),
  (q 12, .inl (cI, 4, .inl (u.1 8))),
  (q 13, .inl (cZ, 4, .inl (u.1 9))),
  (q 14, .inl (cI, 3, .inl (u.1 10))),
  (q 15, .inl (cI, 3, .inl (u.1 11))),
  (q 16, .inl (cI, 3, .inl (u.1 12)))]
/-- words of the class that a method needs beside its own list: nest mates, and the casts of a throw -/
def XBw : List Cond := [.fieldLinkNest RX2 75 RX1 "heldCommits" "J" "FetchHouse", .methodLinkNest RX2 9 yX0_init "FetchHouse", .methodLinkNest RX0 44 yX2_isSlot "FetchHouse", .methodLinkNest RX0 47 yX2_contains "FetchHouse", .methodLinkNest RX0 55 yX2_isFile "FetchHouse", .methodLinkNest RX0 58 yX2_setOf "FetchHouse", .methodLinkNest RX1 25 yX2_isRef "FetchHouse", .methodLinkNest RX1 29 yX2_setOf "FetchHouse", .methodLinkNest RX1 33 yX2_isFile "FetchHouse", .castable "java/lang/IndexOutOfBoundsException" "java/lang/IndexOutOfBoundsException", .castable "java/lang/IllegalArgumentException" "java/lang/IllegalArgumentException", .castable "java/lang/IllegalStateException" "java/lang/IllegalStateException"]
def XStr : List (Nat × String) := [(139, "the server does not have the file"), (151, "3 moves wait"), (182, "a depth is 0 to 60"), (184, "the server's ref is for none"), (203, "no such store"), (209, "no such commit"), (211, "the store has no such commit"), (216, "a slot is 0 to 3"), (221, "a ref is 0 to 3"), (226, "a file is 0 to 99"), (57, "a second parent needs another first one"), (68, "60 commits were made")]
def XG (U : State) : Prop := (∀ w ∈ XBw, va_Nw w U) ∧ ∀ z ∈ XStr, ∃ a, vk_R RX2 z.1 z.2 a U
theorem XG_em : gEM XG := by
  intro U U' hW h
  refine ⟨fun w hw => ?_, fun z hz => ?_⟩
  · have h1 := h.1 w hw
    simp only [XBw, List.mem_cons, List.not_mem_nil, or_false] at hw
    rcases hw with rfl | rfl | rfl | rfl | rfl | rfl | rfl | rfl | rfl | rfl | rfl | rfl <;> first | exact va_Nw.warmF hW h1 | exact va_Nw.warmM hW h1 | exact va_Nw.warmC hW h1
  · obtain ⟨a, ha⟩ := h.2 z hz
    exact ⟨a, ha.warm hW⟩
theorem g_leI {x y : Int32} {a b : Nat} (hx : x = nI a) (hy : y = nI b) (ha : a < 2 ^ 31) (hb : b < 2 ^ 31) : x ≤ y ↔ a ≤ b := by subst hx; subst hy; exact nI_leI ha hb
theorem g_ltI {x y : Int32} {a b : Nat} (hx : x = nI a) (hy : y = nI b) (ha : a < 2 ^ 31) (hb : b < 2 ^ 31) : x < y ↔ a < b := by subst hx; subst hy; exact nI_ltI ha hb
theorem g_eqI {x y : Int32} {a b : Nat} (hx : x = nI a) (hy : y = nI b) (ha : a < 2 ^ 31) (hb : b < 2 ^ 31) : x = y ↔ a = b := by subst hx; subst hy; exact nI_eq ha hb
theorem g_addE {x y : Int32} {a b : Nat} (hx : x = nI a) (hy : y = nI b) : x + y = nI (a + b) := by subst hx; subst hy; exact nI_add a b
theorem g_mulE {x y : Int32} {a b : Nat} (hx : x = nI a) (hy : y = nI b) : x * y = nI (a * b) := by subst hx; subst hy; exact pk_mul a b
theorem g_dec1 (x : Int32) : x + Int32.ofInt (-1) = x - 1 := by
  rw [Int32.sub_eq_add_neg]; rfl
def itU {α : Type} (f : Nat → α → α) : Nat → Nat → α → α
  | 0, _, a => a
  | n + 1, i, a => itU f n (i + 1) (f i a)
def itD {α : Type} (f : Nat → α → α) : Nat → α → α
  | 0, a => a
  | n + 1, a => itD f n (f n a)
/-! what the class's small methods answer -/
def xRange (c n : Int32) : Int32 := if c < 0 then 0 else if n ≤ c then 0 else 1
def xSet (c : Int32) : Int64 := if c < 0 then 0 else if 60 ≤ c then 0 else (1 : Int64) <<< ((Int32.toInt64 c) &&& 63)
def xCon (s : Int64) (c : Int32) : Int32 := if s &&& xSet c = 0 then 0 else 1
def xFileIn (n : Nat) (sf : Nat → Int32) (c t : Int32) : Int32 := if xRange c (nI n) = 0 then -1 else if xRange t 4 = 0 then -1 else sf (c.toNatClampNeg * 4 + t.toNatClampNeg)
def xPar (n : Nat) (fp sp : Nat → Int32) (c : Int32) : Int64 := if xRange c (nI n) = 0 then 0 else xSet (fp c.toNatClampNeg) ||| xSet (sp c.toNatClampNeg)
theorem xRange_01 (c n : Int32) : xRange c n = 0 ∨ xRange c n = 1 := by unfold xRange; split; exact Or.inl rfl; split; exact Or.inl rfl; exact Or.inr rfl
theorem xCon_01 (s : Int64) (c : Int32) : xCon s c = 0 ∨ xCon s c = 1 := by unfold xCon; split; exact Or.inl rfl; exact Or.inr rfl
/-- in range: a number -/
theorem xRange_ne {c m : Int32} {n : Nat} (hm : m = nI n) (hn : n < 2 ^ 31) (h : ¬ xRange c m = 0) : ∃ j : Nat, j < n ∧ c = nI j := by
  subst hm
  unfold xRange at h
  rcases pk_ix c hn with h1 | h1 | h1
  · rw [if_pos h1] at h; exact absurd rfl h
  · by_cases h2 : c < 0
    · rw [if_pos h2] at h; exact absurd rfl h
    · rw [if_neg h2, if_pos h1] at h; exact absurd rfl h
  · exact h1
theorem xRange_in {j n : Nat} (h : j < n) (hn : n < 2 ^ 31) : xRange (nI j) (nI n) = 1 := by
  unfold xRange
  rw [if_neg (nI_pos (by omega)), if_neg (nI_ge h hn)]
theorem g_nar01 (v : Int32) (h : v = 0 ∨ v = 1) : narrow .boolean (.int v) = .int v := by rcases h with h | h <;> subst h <;> rfl
/-! calls: a method's class, its parameters -/
theorem hdX0_isFull : yX0_isFull.cls = RX0 ∧ yX0_isFull.cls ≠ "java/lang/invoke/MethodHandle" ∧ yX0_isFull.cls ≠ "java/lang/invoke/VarHandle" ∧ (parseMethodDescriptor yX0_isFull.desc).map (fun d => d.parameters.length) = some 0 := by decide +kernel
theorem hdX0_fileIn : yX0_fileIn.cls = RX0 ∧ yX0_fileIn.cls ≠ "java/lang/invoke/MethodHandle" ∧ yX0_fileIn.cls ≠ "java/lang/invoke/VarHandle" ∧ (parseMethodDescriptor yX0_fileIn.desc).map (fun d => d.parameters.length) = some 2 := by decide +kernel
theorem hdX0_isCommit : yX0_isCommit.cls = RX0 ∧ yX0_isCommit.cls ≠ "java/lang/invoke/MethodHandle" ∧ yX0_isCommit.cls ≠ "java/lang/invoke/VarHandle" ∧ (parseMethodDescriptor yX0_isCommit.desc).map (fun d => d.parameters.length) = some 1 := by decide +kernel
theorem hdX2_isSlot : yX2_isSlot.cls ≠ "java/lang/invoke/MethodHandle" ∧ yX2_isSlot.cls ≠ "java/lang/invoke/VarHandle" ∧ (parseMethodDescriptor yX2_isSlot.desc).map (fun d => d.parameters.length) = some 1 := by decide +kernel
theorem hdX2_contains : yX2_contains.cls ≠ "java/lang/invoke/MethodHandle" ∧ yX2_contains.cls ≠ "java/lang/invoke/VarHandle" ∧ (parseMethodDescriptor yX2_contains.desc).map (fun d => d.parameters.length) = some 2 := by decide +kernel
theorem hdX0_findFilesOf : yX0_findFilesOf.cls = RX0 ∧ yX0_findFilesOf.cls ≠ "java/lang/invoke/MethodHandle" ∧ yX0_findFilesOf.cls ≠ "java/lang/invoke/VarHandle" ∧ (parseMethodDescriptor yX0_findFilesOf.desc).map (fun d => d.parameters.length) = some 1 := by decide +kernel
theorem hdX2_isFile : yX2_isFile.cls ≠ "java/lang/invoke/MethodHandle" ∧ yX2_isFile.cls ≠ "java/lang/invoke/VarHandle" ∧ (parseMethodDescriptor yX2_isFile.desc).map (fun d => d.parameters.length) = some 1 := by decide +kernel
theorem hdX2_setOf : yX2_setOf.cls ≠ "java/lang/invoke/MethodHandle" ∧ yX2_setOf.cls ≠ "java/lang/invoke/VarHandle" ∧ (parseMethodDescriptor yX2_setOf.desc).map (fun d => d.parameters.length) = some 1 := by decide +kernel
theorem hdX0_parentsOf : yX0_parentsOf.cls = RX0 ∧ yX0_parentsOf.cls ≠ "java/lang/invoke/MethodHandle" ∧ yX0_parentsOf.cls ≠ "java/lang/invoke/VarHandle" ∧ (parseMethodDescriptor yX0_parentsOf.desc).map (fun d => d.parameters.length) = some 1 := by decide +kernel
theorem hdX0_shallowOf : yX0_shallowOf.cls = RX0 ∧ yX0_shallowOf.cls ≠ "java/lang/invoke/MethodHandle" ∧ yX0_shallowOf.cls ≠ "java/lang/invoke/VarHandle" ∧ (parseMethodDescriptor yX0_shallowOf.desc).map (fun d => d.parameters.length) = some 1 := by decide +kernel
theorem hdJ7_fill_53178 : yJ7_fill_53178.cls ≠ "java/lang/invoke/MethodHandle" ∧ yJ7_fill_53178.cls ≠ "java/lang/invoke/VarHandle" ∧ (parseMethodDescriptor yJ7_fill_53178.desc).map (fun d => d.parameters.length) = some 2 := by decide +kernel
theorem hdX0_comeTo : yX0_comeTo.cls = RX0 ∧ yX0_comeTo.cls ≠ "java/lang/invoke/MethodHandle" ∧ yX0_comeTo.cls ≠ "java/lang/invoke/VarHandle" ∧ (parseMethodDescriptor yX0_comeTo.desc).map (fun d => d.parameters.length) = some 2 := by decide +kernel
theorem hdX2_isRef : yX2_isRef.cls ≠ "java/lang/invoke/MethodHandle" ∧ yX2_isRef.cls ≠ "java/lang/invoke/VarHandle" ∧ (parseMethodDescriptor yX2_isRef.desc).map (fun d => d.parameters.length) = some 1 := by decide +kernel
theorem hdX1_holdsFile : yX1_holdsFile.cls = RX1 ∧ yX1_holdsFile.cls ≠ "java/lang/invoke/MethodHandle" ∧ yX1_holdsFile.cls ≠ "java/lang/invoke/VarHandle" ∧ (parseMethodDescriptor yX1_holdsFile.desc).map (fun d => d.parameters.length) = some 1 := by decide +kernel
theorem hdX2_storeOf : yX2_storeOf.cls = RX2 ∧ yX2_storeOf.cls ≠ "java/lang/invoke/MethodHandle" ∧ yX2_storeOf.cls ≠ "java/lang/invoke/VarHandle" ∧ (parseMethodDescriptor yX2_storeOf.desc).map (fun d => d.parameters.length) = some 1 := by decide +kernel
theorem hdX2_checkSlot : yX2_checkSlot.cls ≠ "java/lang/invoke/MethodHandle" ∧ yX2_checkSlot.cls ≠ "java/lang/invoke/VarHandle" ∧ (parseMethodDescriptor yX2_checkSlot.desc).map (fun d => d.parameters.length) = some 1 := by decide +kernel
theorem hdX2_checkHeldOrNone : yX2_checkHeldOrNone.cls ≠ "java/lang/invoke/MethodHandle" ∧ yX2_checkHeldOrNone.cls ≠ "java/lang/invoke/VarHandle" ∧ (parseMethodDescriptor yX2_checkHeldOrNone.desc).map (fun d => d.parameters.length) = some 2 := by decide +kernel
theorem hdX2_checkFile : yX2_checkFile.cls ≠ "java/lang/invoke/MethodHandle" ∧ yX2_checkFile.cls ≠ "java/lang/invoke/VarHandle" ∧ (parseMethodDescriptor yX2_checkFile.desc).map (fun d => d.parameters.length) = some 1 := by decide +kernel
theorem hdX0_append : yX0_append.cls = RX0 ∧ yX0_append.cls ≠ "java/lang/invoke/MethodHandle" ∧ yX0_append.cls ≠ "java/lang/invoke/VarHandle" ∧ (parseMethodDescriptor yX0_append.desc).map (fun d => d.parameters.length) = some 4 := by decide +kernel
theorem hdX1_addFile : yX1_addFile.cls = RX1 ∧ yX1_addFile.cls ≠ "java/lang/invoke/MethodHandle" ∧ yX1_addFile.cls ≠ "java/lang/invoke/VarHandle" ∧ (parseMethodDescriptor yX1_addFile.desc).map (fun d => d.parameters.length) = some 1 := by decide +kernel
theorem hdX2_checkRef : yX2_checkRef.cls ≠ "java/lang/invoke/MethodHandle" ∧ yX2_checkRef.cls ≠ "java/lang/invoke/VarHandle" ∧ (parseMethodDescriptor yX2_checkRef.desc).map (fun d => d.parameters.length) = some 1 := by decide +kernel
theorem hdX1_commitOfRef : yX1_commitOfRef.cls = RX1 ∧ yX1_commitOfRef.cls ≠ "java/lang/invoke/MethodHandle" ∧ yX1_commitOfRef.cls ≠ "java/lang/invoke/VarHandle" ∧ (parseMethodDescriptor yX1_commitOfRef.desc).map (fun d => d.parameters.length) = some 1 := by decide +kernel
theorem hdX1_pointRef : yX1_pointRef.cls = RX1 ∧ yX1_pointRef.cls ≠ "java/lang/invoke/MethodHandle" ∧ yX1_pointRef.cls ≠ "java/lang/invoke/VarHandle" ∧ (parseMethodDescriptor yX1_pointRef.desc).map (fun d => d.parameters.length) = some 2 := by decide +kernel
theorem hdX2_checkCommit : yX2_checkCommit.cls = RX2 ∧ yX2_checkCommit.cls ≠ "java/lang/invoke/MethodHandle" ∧ yX2_checkCommit.cls ≠ "java/lang/invoke/VarHandle" ∧ (parseMethodDescriptor yX2_checkCommit.desc).map (fun d => d.parameters.length) = some 1 := by decide +kernel
theorem hdX2_commitToFetch : yX2_commitToFetch.cls = RX2 ∧ yX2_commitToFetch.cls ≠ "java/lang/invoke/MethodHandle" ∧ yX2_commitToFetch.cls ≠ "java/lang/invoke/VarHandle" ∧ (parseMethodDescriptor yX2_commitToFetch.desc).map (fun d => d.parameters.length) = some 2 := by decide +kernel
theorem hdX2_talk : yX2_talk.cls = RX2 ∧ yX2_talk.cls ≠ "java/lang/invoke/MethodHandle" ∧ yX2_talk.cls ≠ "java/lang/invoke/VarHandle" ∧ (parseMethodDescriptor yX2_talk.desc).map (fun d => d.parameters.length) = some 0 := by decide +kernel
theorem hdX0_reachOf : yX0_reachOf.cls = RX0 ∧ yX0_reachOf.cls ≠ "java/lang/invoke/MethodHandle" ∧ yX0_reachOf.cls ≠ "java/lang/invoke/VarHandle" ∧ (parseMethodDescriptor yX0_reachOf.desc).map (fun d => d.parameters.length) = some 2 := by decide +kernel
theorem hdX0_filesOf : yX0_filesOf.cls = RX0 ∧ yX0_filesOf.cls ≠ "java/lang/invoke/MethodHandle" ∧ yX0_filesOf.cls ≠ "java/lang/invoke/VarHandle" ∧ (parseMethodDescriptor yX0_filesOf.desc).map (fun d => d.parameters.length) = some 1 := by decide +kernel
theorem hdX1_addFiles : yX1_addFiles.cls = RX1 ∧ yX1_addFiles.cls ≠ "java/lang/invoke/MethodHandle" ∧ yX1_addFiles.cls ≠ "java/lang/invoke/VarHandle" ∧ (parseMethodDescriptor yX1_addFiles.desc).map (fun d => d.parameters.length) = some 2 := by decide +kernel
theorem hdJ13_bitCount_95d88 : yJ13_bitCount_95d88.cls ≠ "java/lang/invoke/MethodHandle" ∧ yJ13_bitCount_95d88.cls ≠ "java/lang/invoke/VarHandle" ∧ (parseMethodDescriptor yJ13_bitCount_95d88.desc).map (fun d => d.parameters.length) = some 1 := by decide +kernel
theorem hdX1_countLacking : yX1_countLacking.cls = RX1 ∧ yX1_countLacking.cls ≠ "java/lang/invoke/MethodHandle" ∧ yX1_countLacking.cls ≠ "java/lang/invoke/VarHandle" ∧ (parseMethodDescriptor yX1_countLacking.desc).map (fun d => d.parameters.length) = some 1 := by decide +kernel
theorem hdX2_checkCommitOrNone : yX2_checkCommitOrNone.cls = RX2 ∧ yX2_checkCommitOrNone.cls ≠ "java/lang/invoke/MethodHandle" ∧ yX2_checkCommitOrNone.cls ≠ "java/lang/invoke/VarHandle" ∧ (parseMethodDescriptor yX2_checkCommitOrNone.desc).map (fun d => d.parameters.length) = some 1 := by decide +kernel
theorem hdX2_firstRefusal : yX2_firstRefusal.cls = RX2 ∧ yX2_firstRefusal.cls ≠ "java/lang/invoke/MethodHandle" ∧ yX2_firstRefusal.cls ≠ "java/lang/invoke/VarHandle" ∧ (parseMethodDescriptor yX2_firstRefusal.desc).map (fun d => d.parameters.length) = some 0 := by decide +kernel
theorem hdX2_doMoves : yX2_doMoves.cls = RX2 ∧ yX2_doMoves.cls ≠ "java/lang/invoke/MethodHandle" ∧ yX2_doMoves.cls ≠ "java/lang/invoke/VarHandle" ∧ (parseMethodDescriptor yX2_doMoves.desc).map (fun d => d.parameters.length) = some 0 := by decide +kernel
theorem hdX1_commitsOfRefs : yX1_commitsOfRefs.cls = RX1 ∧ yX1_commitsOfRefs.cls ≠ "java/lang/invoke/MethodHandle" ∧ yX1_commitsOfRefs.cls ≠ "java/lang/invoke/VarHandle" ∧ (parseMethodDescriptor yX1_commitsOfRefs.desc).map (fun d => d.parameters.length) = some 0 := by decide +kernel
theorem hdX0_ancestorsOf : yX0_ancestorsOf.cls = RX0 ∧ yX0_ancestorsOf.cls ≠ "java/lang/invoke/MethodHandle" ∧ yX0_ancestorsOf.cls ≠ "java/lang/invoke/VarHandle" ∧ (parseMethodDescriptor yX0_ancestorsOf.desc).map (fun d => d.parameters.length) = some 2 := by decide +kernel
theorem hdX1_keepOnlyFiles : yX1_keepOnlyFiles.cls = RX1 ∧ yX1_keepOnlyFiles.cls ≠ "java/lang/invoke/MethodHandle" ∧ yX1_keepOnlyFiles.cls ≠ "java/lang/invoke/VarHandle" ∧ (parseMethodDescriptor yX1_keepOnlyFiles.desc).map (fun d => d.parameters.length) = some 1 := by decide +kernel
theorem hdX0_size : yX0_size.cls = RX0 ∧ yX0_size.cls ≠ "java/lang/invoke/MethodHandle" ∧ yX0_size.cls ≠ "java/lang/invoke/VarHandle" ∧ (parseMethodDescriptor yX0_size.desc).map (fun d => d.parameters.length) = some 0 := by decide +kernel
theorem hdX2_highestOf : yX2_highestOf.cls ≠ "java/lang/invoke/MethodHandle" ∧ yX2_highestOf.cls ≠ "java/lang/invoke/VarHandle" ∧ (parseMethodDescriptor yX2_highestOf.desc).map (fun d => d.parameters.length) = some 2 := by decide +kernel
theorem hdX2_refusalOf : yX2_refusalOf.cls = RX2 ∧ yX2_refusalOf.cls ≠ "java/lang/invoke/MethodHandle" ∧ yX2_refusalOf.cls ≠ "java/lang/invoke/VarHandle" ∧ (parseMethodDescriptor yX2_refusalOf.desc).map (fun d => d.parameters.length) = some 3 := by decide +kernel
theorem hdX2_isProtectedRef : yX2_isProtectedRef.cls = RX2 ∧ yX2_isProtectedRef.cls ≠ "java/lang/invoke/MethodHandle" ∧ yX2_isProtectedRef.cls ≠ "java/lang/invoke/VarHandle" ∧ (parseMethodDescriptor yX2_isProtectedRef.desc).map (fun d => d.parameters.length) = some 1 := by decide +kernel
theorem hdX2_endsBeyondServer : yX2_endsBeyondServer.cls = RX2 ∧ yX2_endsBeyondServer.cls ≠ "java/lang/invoke/MethodHandle" ∧ yX2_endsBeyondServer.cls ≠ "java/lang/invoke/VarHandle" ∧ (parseMethodDescriptor yX2_endsBeyondServer.desc).map (fun d => d.parameters.length) = some 1 := by decide +kernel
theorem hdX2_make : yX2_make.cls = RX2 ∧ yX2_make.cls ≠ "java/lang/invoke/MethodHandle" ∧ yX2_make.cls ≠ "java/lang/invoke/VarHandle" ∧ (parseMethodDescriptor yX2_make.desc).map (fun d => d.parameters.length) = some 5 := by decide +kernel
theorem hdX2_setRef : yX2_setRef.cls = RX2 ∧ yX2_setRef.cls ≠ "java/lang/invoke/MethodHandle" ∧ yX2_setRef.cls ≠ "java/lang/invoke/VarHandle" ∧ (parseMethodDescriptor yX2_setRef.desc).map (fun d => d.parameters.length) = some 3 := by decide +kernel
theorem hdX2_ref : yX2_ref.cls = RX2 ∧ yX2_ref.cls ≠ "java/lang/invoke/MethodHandle" ∧ yX2_ref.cls ≠ "java/lang/invoke/VarHandle" ∧ (parseMethodDescriptor yX2_ref.desc).map (fun d => d.parameters.length) = some 2 := by decide +kernel
theorem hdX2_fileAt : yX2_fileAt.cls = RX2 ∧ yX2_fileAt.cls ≠ "java/lang/invoke/MethodHandle" ∧ yX2_fileAt.cls ≠ "java/lang/invoke/VarHandle" ∧ (parseMethodDescriptor yX2_fileAt.desc).map (fun d => d.parameters.length) = some 2 := by decide +kernel
theorem hdX2_fetch : yX2_fetch.cls = RX2 ∧ yX2_fetch.cls ≠ "java/lang/invoke/MethodHandle" ∧ yX2_fetch.cls ≠ "java/lang/invoke/VarHandle" ∧ (parseMethodDescriptor yX2_fetch.desc).map (fun d => d.parameters.length) = some 3 := by decide +kernel
theorem hdX2_wouldFetch : yX2_wouldFetch.cls = RX2 ∧ yX2_wouldFetch.cls ≠ "java/lang/invoke/MethodHandle" ∧ yX2_wouldFetch.cls ≠ "java/lang/invoke/VarHandle" ∧ (parseMethodDescriptor yX2_wouldFetch.desc).map (fun d => d.parameters.length) = some 2 := by decide +kernel
theorem hdX2_load : yX2_load.cls = RX2 ∧ yX2_load.cls ≠ "java/lang/invoke/MethodHandle" ∧ yX2_load.cls ≠ "java/lang/invoke/VarHandle" ∧ (parseMethodDescriptor yX2_load.desc).map (fun d => d.parameters.length) = some 1 := by decide +kernel
theorem hdX2_protect : yX2_protect.cls = RX2 ∧ yX2_protect.cls ≠ "java/lang/invoke/MethodHandle" ∧ yX2_protect.cls ≠ "java/lang/invoke/VarHandle" ∧ (parseMethodDescriptor yX2_protect.desc).map (fun d => d.parameters.length) = some 2 := by decide +kernel
theorem hdX2_move : yX2_move.cls = RX2 ∧ yX2_move.cls ≠ "java/lang/invoke/MethodHandle" ∧ yX2_move.cls ≠ "java/lang/invoke/VarHandle" ∧ (parseMethodDescriptor yX2_move.desc).map (fun d => d.parameters.length) = some 3 := by decide +kernel
theorem hdX2_collect : yX2_collect.cls = RX2 ∧ yX2_collect.cls ≠ "java/lang/invoke/MethodHandle" ∧ yX2_collect.cls ≠ "java/lang/invoke/VarHandle" ∧ (parseMethodDescriptor yX2_collect.desc).map (fun d => d.parameters.length) = some 1 := by decide +kernel
theorem hdX2_has : yX2_has.cls = RX2 ∧ yX2_has.cls ≠ "java/lang/invoke/MethodHandle" ∧ yX2_has.cls ≠ "java/lang/invoke/VarHandle" ∧ (parseMethodDescriptor yX2_has.desc).map (fun d => d.parameters.length) = some 2 := by decide +kernel
theorem hdX2_hasFile : yX2_hasFile.cls = RX2 ∧ yX2_hasFile.cls ≠ "java/lang/invoke/MethodHandle" ∧ yX2_hasFile.cls ≠ "java/lang/invoke/VarHandle" ∧ (parseMethodDescriptor yX2_hasFile.desc).map (fun d => d.parameters.length) = some 2 := by decide +kernel
theorem hdX2_isShallow : yX2_isShallow.cls = RX2 ∧ yX2_isShallow.cls ≠ "java/lang/invoke/MethodHandle" ∧ yX2_isShallow.cls ≠ "java/lang/invoke/VarHandle" ∧ (parseMethodDescriptor yX2_isShallow.desc).map (fun d => d.parameters.length) = some 1 := by decide +kernel
theorem hdX2_isAncestor : yX2_isAncestor.cls = RX2 ∧ yX2_isAncestor.cls ≠ "java/lang/invoke/MethodHandle" ∧ yX2_isAncestor.cls ≠ "java/lang/invoke/VarHandle" ∧ (parseMethodDescriptor yX2_isAncestor.desc).map (fun d => d.parameters.length) = some 3 := by decide +kernel
theorem hdX2_rounds : yX2_rounds.cls = RX2 ∧ yX2_rounds.cls ≠ "java/lang/invoke/MethodHandle" ∧ yX2_rounds.cls ≠ "java/lang/invoke/VarHandle" ∧ (parseMethodDescriptor yX2_rounds.desc).map (fun d => d.parameters.length) = some 0 := by decide +kernel
theorem hdX2_missing : yX2_missing.cls = RX2 ∧ yX2_missing.cls ≠ "java/lang/invoke/MethodHandle" ∧ yX2_missing.cls ≠ "java/lang/invoke/VarHandle" ∧ (parseMethodDescriptor yX2_missing.desc).map (fun d => d.parameters.length) = some 0 := by decide +kernel
theorem hdX2_push : yX2_push.cls = RX2 ∧ yX2_push.cls ≠ "java/lang/invoke/MethodHandle" ∧ yX2_push.cls ≠ "java/lang/invoke/VarHandle" ∧ (parseMethodDescriptor yX2_push.desc).map (fun d => d.parameters.length) = some 0 := by decide +kernel
theorem hdX2_commits : yX2_commits.cls = RX2 ∧ yX2_commits.cls ≠ "java/lang/invoke/MethodHandle" ∧ yX2_commits.cls ≠ "java/lang/invoke/VarHandle" ∧ (parseMethodDescriptor yX2_commits.desc).map (fun d => d.parameters.length) = some 0 := by decide +kernel
