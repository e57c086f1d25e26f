/-! a tenth that goes by: plainly -/
section TICK
/-- whom an end hears in the next tenth -/
def hB (s : TS) (n e from' : Nat) : Bool := decide (from' < n ∧ ¬ from' = e ∧ s (30 + from') (Nn (s 7 (4 * from' + e))) = 1)
/-- listened: the first j ends -/
def LIS (s : TS) (H : Nat → Nat → Bool) (j : Nat) : TS := fun c i => if c = 0 ∧ i = 1 then s 0 1 + 1 else if c = 5 ∧ i < j ∧ ¬ bN (H i) = 0 then low4 (H i) else if c = 6 ∧ i < j ∧ ¬ bN (H i) = 0 then s 0 1 + 1 else s c i
/-- names of an end, plainly -/
def nmS (g : Nat → Int32) (s : TS) (e : Nat) : Nat → Int32 := nmF g e (s 0 0) (s 18 e) (s 19 e)
/-- one that speaks -/
def aS (g : Nat → Int32) (VS : (Nat → Int32) → Int32 → Int32) (hr : Bool) (s : TS) (e : Nat) : TS :=
  if ¬ VS (nmS g s e) (tw g 1 e) = 0 ∧ (if hr = true then s 4 e + 1 else 0) = VS (nmS g s e) (tw g 1 e) then cls (up s 4 e (if hr = true then s 4 e + 1 else 0)) e (Nn (s 21 e)) (s 0 1) 2
  else if s 23 e < s 22 e then up (up s 4 e (if hr = true then s 4 e + 1 else 0)) 23 e (s 23 e + 1)
  else cls (up s 4 e (if hr = true then s 4 e + 1 else 0)) e (Nn (s 21 e)) (s 0 1) 1
/-- patience, of a wait and a draw -/
def pat (s : TS) (n e : Nat) (v : Int32) : Int32 :=
  if s 0 0 = 1 then v + 10 * nI e
  else if s 0 0 = 2 then (if e = 0 ∨ (¬ s 6 e = -1 ∧ ¬ s 6 e < s 20 e) then v else 9999)
  else if s 0 0 = 3 then (if ¬ s 5 e = -1 ∧ (s 5 e + 1) - (s 5 e + 1) / nI n * nI n = nI e then 0 else 3 * v)
  else v
def nxX (x : Int32) : Int32 := x * 197 + 113 - (x * 197 + 113) / 30091 * 30091
/-- patience found anew -/
def aP (g : Nat → Int32) (VW : (Nat → Int32) → Int32 → Int32) (n : Nat) (s : TS) (e : Nat) : TS :=
  if s 2 e = 0 then
    (if g (12 + 4 * e + 1) = 0 then up s 3 e (pat s n e (VW (nmS g s e) (tw g 0 e)))
     else up (up s 0 2 (nxX (s 0 2))) 3 e (pat s n e (VW (nmS g s e) (tw g 0 e) + (s 0 2 - s 0 2 / (g (12 + 4 * e + 1) + 1) * (g (12 + 4 * e + 1) + 1)))))
  else s
/-- one that is silent -/
def aQ (g : Nat → Int32) (VW VL : (Nat → Int32) → Int32 → Int32) (m n : Nat) (hr : Bool) (s : TS) (e : Nat) : TS :=
  if hr = true then up s 2 e 0
  else if (aP g VW n s e) 3 e < (aP g VW n s e) 2 e + 1 then
    (if m = 0 ∧ s 0 3 = 90 then aP g VW n s e
     else opn (up (aP g VW n s e) 2 e (s 2 e + 1)) e (Nn (s 0 3)) (s 0 1) (VL (nmS g s e) (tw g 2 e)) 1)
  else up (aP g VW n s e) 2 e (s 2 e + 1)
/-- an end, in the tenth -/
def ACT (g : Nat → Int32) (VW VS VL : (Nat → Int32) → Int32 → Int32) (m n : Nat) (H : Nat → Nat → Bool) (e : Nat) (s : TS) : TS :=
  if s 1 e = 1 then (if aS g VS (decide (¬ bN (H e) = 0)) s e 1 e = 1 then aS g VS (decide (¬ bN (H e) = 0)) s e else aQ g VW VL m n (decide (¬ bN (H e) = 0)) (aS g VS (decide (¬ bN (H e) = 0)) s e) e)
  else aQ g VW VL m n (decide (¬ bN (H e) = 0)) s e
/-- counted: the first j ends, of which it went through from' -/
def clrB (s : TS) (H : Nat → Nat → Bool) (e : Nat) : Bool := one4 (H e) && decide (¬ s 1 e = 1)
def CNT (s : TS) (H : Nat → Nat → Bool) (j : Nat) : TS := fun c i =>
  if c = 8 then (if i < 16 ∧ i % 4 < j ∧ H (i % 4) (i / 4) = true ∧ clrB s H (i % 4) = true then s 8 i + 1 else s 8 i)
  else if c = 9 then (if i < 16 ∧ i % 4 < j ∧ H (i % 4) (i / 4) = true ∧ ¬ clrB s H (i % 4) = true then s 9 i + 1 else s 9 i)
  else if 30 ≤ c ∧ c < 34 ∧ c < 30 + j then (if i = 0 then s 1 (c - 30) else s c (i - 1))
  else s c i
/-- a tenth -/
def TK (g : Nat → Int32) (VW VS VL : (Nat → Int32) → Int32 → Int32) (m n : Nat) (s : TS) : TS :=
  CNT (itr (ACT g VW VS VL m n (hB s n)) 0 n (LIS s (hB s n) n)) (hB s n) n
end TICK
