/-! what a call's arguments are refused with: 0 for nothing, else the first that applies -/
def xHoN (s : Int64) (c : Int32) : Int32 := if c = -1 then 1 else xCon s c
def xFiN (f : Int32) : Int32 := if f = -1 then 1 else xRange f 100
def xCoN (n : Nat) (c : Int32) : Int32 := if c = -1 then 1 else xRange c (nI n)
def xMakeC (n : Nat) (s : Int64) (p1 p2 p3 p4 : Int32) : Int32 := if xRange p3 4 = 0 then 1 else if xHoN s p1 = 0 then 1 else if xHoN s p2 = 0 then 1 else if xFiN p4 = 0 then 2 else if p2 = -1 then (if n < 60 then 0 else 3) else if p1 = -1 then 2 else if p1 = p2 then 2 else if n < 60 then 0 else 3
def xSetRC (s : Int64) (p1 p2 : Int32) : Int32 := if xRange p1 4 = 0 then 1 else if xHoN s p2 = 0 then 1 else 0
def xFileC (n : Nat) (p0 p1 : Int32) : Int32 := if xRange p0 (nI n) = 0 then 1 else if xRange p1 4 = 0 then 1 else 0
def xFetC (p0 p1 : Int32) (rf : Nat → Int32) : Int32 := if xRange p0 4 = 0 then 1 else if p1 < 0 then 2 else if p1 ≤ 60 then (if xRefOf rf p0 = -1 then 3 else 0) else 2
def xLoadC (p0 : Int32) (fl : Nat → Int32) : Int32 := if xRange p0 100 = 0 then 1 else if xHas fl p0 = 0 then 2 else 0
def xMoveC (n w : Nat) (p0 p1 p2 : Int32) : Int32 := if xRange p0 4 = 0 then 1 else if xCoN n p1 = 0 then 1 else if xCoN n p2 = 0 then 1 else if w < 3 then 0 else 2
def xAncC (n : Nat) (p1 p2 : Int32) : Int32 := if xRange p1 (nI n) = 0 then 1 else if xRange p2 (nI n) = 0 then 1 else 0
theorem hon_or {s : Int64} {c : Int32} (h : ¬ xHoN s c = 0) : c = -1 ∨ ¬ xCon s c = 0 := by
  unfold xHoN at h
  by_cases c1 : c = -1
  · exact Or.inl c1
  · rw [if_neg c1] at h
    exact Or.inr h
theorem fin_or {f : Int32} (h : ¬ xFiN f = 0) : f = -1 ∨ ¬ xRange f 100 = 0 := by
  unfold xFiN at h
  by_cases c1 : f = -1
  · exact Or.inl c1
  · rw [if_neg c1] at h
    exact Or.inr h
