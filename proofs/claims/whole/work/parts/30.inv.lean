/-! what both sides keep: the relation between the one side's cells and the other's row of numbers -/
section INV
abbrev TS : Type := Nat → Nat → Int32
def up (s : TS) (c i : Nat) (v : Int32) : TS := fun c' i' => if c' = c ∧ i' = i then v else s c' i'
/-- a row at b of the numbers g, column by column: 0 (rule, tenth, x, turns, yeses), 1 speaking, 2 quiet, 3 patience, 4 pressed, 5 heard last, 6 heard in, 7 delays, 8 clear, 9 lost, 10 .. 14 the turns, 15 .. 17 the yeses -/
def dec (g : Nat → Int32) (b : Nat) : TS := fun c i => match c with
  | 0 => if i = 0 then g b else if i = 1 then g (b + 1) else if i = 2 then g (b + 2) else if i = 3 then g (b + 75) else if i = 4 then g (b + 526) else 0
  | 1 => if i < 4 then g (b + 3 + i) else 0
  | 2 => if i < 4 then g (b + 7 + i) else 0
  | 3 => if i < 4 then g (b + 11 + i) else 0
  | 4 => if i < 4 then g (b + 15 + i) else 0
  | 5 => if i < 4 then g (b + 19 + i) else 0
  | 6 => if i < 4 then g (b + 23 + i) else 0
  | 7 => if i < 16 then g (b + 27 + i) else 0
  | 8 => if i < 16 then g (b + 43 + i) else 0
  | 9 => if i < 16 then g (b + 59 + i) else 0
  | 10 => if i < 90 then g (b + 76 + 5 * i) else 0
  | 11 => if i < 90 then g (b + 76 + 5 * i + 1) else 0
  | 12 => if i < 90 then g (b + 76 + 5 * i + 2) else 0
  | 13 => if i < 90 then g (b + 76 + 5 * i + 3) else 0
  | 14 => if i < 90 then g (b + 76 + 5 * i + 4) else 0
  | 15 => if i < 40 then g (b + 527 + 3 * i) else 0
  | 16 => if i < 40 then g (b + 527 + 3 * i + 1) else 0
  | 17 => if i < 40 then g (b + 527 + 3 * i + 2) else 0
  | _ => 0
theorem dec_congr {g g' : Nat → Int32} {b b' : Nat} (k : ∀ j, j < 647 → g (b + j) = g' (b' + j)) : dec g b = dec g' b' := by
  have k2 : ∀ x y, x = b + (x - b) → y = b' + (x - b) → x - b < 647 → g x = g' y := by
    intro x y e1 e2 e3
    rw [e1, e2]; exact k _ e3
  funext c i
  unfold dec
  split
  · repeat' split
    all_goals first | rfl | (apply k2 <;> omega)
  all_goals first | rfl | (split <;> first | rfl | (apply k2 <;> omega))
section
variable {g : Nat → Int32} {b i : Nat}
theorem dec_0 : dec g b 0 0 = g b := rfl
theorem dec_1 : dec g b 0 1 = g (b + 1) := rfl
theorem dec_2 : dec g b 0 2 = g (b + 2) := rfl
theorem dec_3 : dec g b 0 3 = g (b + 75) := rfl
theorem dec_4 : dec g b 0 4 = g (b + 526) := rfl
theorem dec_c1 (h : i < 4) : dec g b 1 i = g (b + 3 + i) := if_pos h
theorem dec_c2 (h : i < 4) : dec g b 2 i = g (b + 7 + i) := if_pos h
theorem dec_c3 (h : i < 4) : dec g b 3 i = g (b + 11 + i) := if_pos h
theorem dec_c4 (h : i < 4) : dec g b 4 i = g (b + 15 + i) := if_pos h
theorem dec_c5 (h : i < 4) : dec g b 5 i = g (b + 19 + i) := if_pos h
theorem dec_c6 (h : i < 4) : dec g b 6 i = g (b + 23 + i) := if_pos h
theorem dec_c7 (h : i < 16) : dec g b 7 i = g (b + 27 + i) := if_pos h
theorem dec_c8 (h : i < 16) : dec g b 8 i = g (b + 43 + i) := if_pos h
theorem dec_c9 (h : i < 16) : dec g b 9 i = g (b + 59 + i) := if_pos h
theorem dec_c10 (h : i < 90) : dec g b 10 i = g (b + 76 + 5 * i) := if_pos h
theorem dec_c11 (h : i < 90) : dec g b 11 i = g (b + 76 + 5 * i + 1) := if_pos h
theorem dec_c12 (h : i < 90) : dec g b 12 i = g (b + 76 + 5 * i + 2) := if_pos h
theorem dec_c13 (h : i < 90) : dec g b 13 i = g (b + 76 + 5 * i + 3) := if_pos h
theorem dec_c14 (h : i < 90) : dec g b 14 i = g (b + 76 + 5 * i + 4) := if_pos h
theorem dec_c15 (h : i < 40) : dec g b 15 i = g (b + 527 + 3 * i) := if_pos h
theorem dec_c16 (h : i < 40) : dec g b 16 i = g (b + 527 + 3 * i + 1) := if_pos h
theorem dec_c17 (h : i < 40) : dec g b 17 i = g (b + 527 + 3 * i + 2) := if_pos h
end
def Nn (v : Int32) : Nat := v.toNatClampNeg
/-- how many turns of an end, of a kind -/
def cn (s : TS) (e : Nat) (k : Int32) : Int32 := itr (fun i a => a + (if s 10 i = nI e ∧ (k = -1 ∨ s 14 i = k) then 1 else 0)) 0 (Nn (s 0 3)) 0
/-- when the last spoken turn of an end ended -/
def lend (s : TS) (e : Nat) : Int32 := itr (fun i a => if s 10 i = nI e ∧ ¬ s 13 i = -1 ∧ s 11 i < s 13 i then s 13 i else a) 0 (Nn (s 0 3)) (-1)
/-- an end speaks in a tenth -/
def spk (s : TS) (e : Nat) (z : Int) : Prop := ∃ i, i < Nn (s 0 3) ∧ s 10 i = nI e ∧ (s 11 i).toInt ≤ z ∧ (s 13 i = -1 ∨ z < (s 13 i).toInt)
/-- an end's cell -/
def rEn (I : Nat → Nat → Int32) (J : Nat → Nat → Int64) (q e : Nat) (s : TS) : Prop :=
  I q 0 = s 1 e ∧ I q 1 = s 2 e ∧ I q 2 = s 3 e ∧ I q 3 = s 4 e ∧ I q 5 = s 5 e ∧ I q 6 = s 6 e ∧ I q 10 = cn s e (-1) ∧ I q 11 = cn s e 2 ∧ I q 12 = lend s e
  ∧ (s 1 e = 1 → ∀ i, i < Nn (s 0 3) → s 10 i = nI e → s 13 i = -1 → I q 7 = nI i ∧ I q 8 = s 12 i ∧ I q 9 = s 0 1 + 1 - s 11 i)
  ∧ ∀ k, k < 64 → ((J q 13).toBitVec.getLsbD k = true ↔ ((k : Int) ≤ (s 0 1).toInt ∧ spk s e ((s 0 1).toInt - k)))
/-- a line's cells -/
def rLn (I : Nat → Nat → Int32) (J : Nat → Nat → Int64) (p : Nat) (s : TS) : Prop :=
  I p 0 = s 0 1 ∧ I p 1 = s 0 0 ∧ I p 2 = s 0 2 ∧ I p 3 = s 0 3 ∧ I p 4 = s 0 4
  ∧ (∀ k, k < 16 → I (p + 1) k = s 7 k ∧ I (p + 2) k = s 8 k ∧ I (p + 3) k = s 9 k)
  ∧ ∀ e, e < 4 → rEn I J (p + 5 + e) e s
/-- the rows of turns and yeses -/
def rBk (I : Nat → Nat → Int32) (o : Nat) (s : TS) : Prop :=
  (∀ i, i < Nn (s 0 3) → I (17 + o) i = s 10 i ∧ I (18 + o) i = s 11 i ∧ I (19 + o) i = s 12 i ∧ I (20 + o) i = s 13 i ∧ I (21 + o) i = s 14 i)
  ∧ ∀ i, i < Nn (s 0 4) → I (22 + o) i = s 15 i ∧ I (23 + o) i = s 16 i ∧ I (24 + o) i = s 17 i
/-- what was told of the ends -/
def rTo (I : Nat → Nat → Int32) (o : Nat) (g : Nat → Int32) : Prop :=
  I (2 + o) 4 = g 0 ∧ ∀ e, e < Nn (g 0) → I (3 + o) e = g (12 + 4 * e) ∧ I (4 + o) e = g (12 + 4 * e + 1) ∧ I (5 + o) e = g (12 + 4 * e + 2) ∧ I (6 + o) e = g (12 + 4 * e + 3)
/-- texts, which one rules, prices, refusals -/
def rMs (I : Nat → Nat → Int32) (o : Nat) (g : Nat → Int32) : Prop :=
  I (1 + o) 6 = g 1 ∧ I (1 + o) 7 = g 2 ∧ I (1 + o) 9 = g 6 ∧ I (1 + o) 10 = g 7 ∧ I (1 + o) 11 = g 8 ∧ I (26 + o) 0 = g 9 ∧ I (26 + o) 1 = g 10 ∧ I (26 + o) 2 = g 11
/-- what was agreed on -/
def rAg (I : Nat → Nat → Int32) (o : Nat) (g : Nat → Int32) : Prop :=
  I (27 + o) 3 = g 4 ∧ ∀ k, k < Nn (g 4) → I (28 + o) k = g (30 + 3 * k) ∧ I (29 + o) k = g (30 + 3 * k + 1) ∧ I (30 + o) k = g (30 + 3 * k + 2)
/-- what was heard of answers -/
def rHd (I : Nat → Nat → Int32) (o : Nat) (g : Nat → Int32) : Prop :=
  I (31 + o) 2 = g 5 ∧ ∀ k, k < Nn (g 5) → I (32 + o) k = g (54 + 4 * k + 1) - g (54 + 4 * k) - g (54 + 4 * k + 3) ∧ I (33 + o) k = g (54 + 4 * k + 1) - g (54 + 4 * k) - g (54 + 4 * k + 2)
/-- the steps: a ring of lines -/
def rSt (I : Nat → Nat → Int32) (J : Nat → Nat → Int64) (R : Nat → Nat → Option Nat) (o : Nat) (g : Nat → Int32) : Prop :=
  I (1 + o) 4 = g 3 ∧ (∃ k, k < 30 ∧ I (1 + o) 5 = nI k ∧ ∀ j, j < Nn (g 3) → ∃ p, R (25 + o) ((k + 30 - Nn (g 3) + j) % 30) = some p ∧ rLn I J p (dec g (740 + 647 * j)))
  ∧ ∀ i p, i < 30 → R (25 + o) i = some p → ∀ e, e < 4 → I (p + 5 + e) 0 = 0 ∨ I (p + 5 + e) 0 = 1
def bt (lo : Int) (v : Int32) (hi : Int) : Prop := lo ≤ v.toInt ∧ v.toInt ≤ hi
/-- what holds of a turn's row, with n ends -/
def wTn (n : Nat) (s : TS) (i : Nat) : Prop :=
  bt 0 (s 10 i) (n - 1) ∧ bt 0 (s 11 i) ((s 0 1).toInt + 1) ∧ bt 1 (s 12 i) 99
  ∧ ((s 13 i = -1 ∧ s 14 i = 0 ∧ s 1 (Nn (s 10 i)) = 1) ∨ (bt (s 11 i).toInt (s 13 i) ((s 0 1).toInt + 1) ∧ (s 14 i = 2 ∨ s 14 i = 3 ∨ (s 14 i = 1 ∧ (s 11 i).toInt < (s 13 i).toInt))))
def wS (n : Nat) (s : TS) : Prop :=
  bt 0 (s 0 0) 3 ∧ bt 0 (s 0 1) 9000 ∧ bt 0 (s 0 3) 90 ∧ bt 0 (s 0 4) 40
  ∧ (∀ e, e < 4 → (s 1 e = 0 ∨ s 1 e = 1) ∧ bt (-1) (s 5 e) (n - 1) ∧ bt (-1) (s 6 e) (s 0 1).toInt)
  ∧ (∀ k, k < 16 → bt 0 (s 7 k) 60)
  ∧ (∀ i, i < Nn (s 0 3) → wTn n s i)
  ∧ (∀ e, e < 4 → s 1 e = 1 → ∃ i, i < Nn (s 0 3) ∧ s 10 i = nI e ∧ s 13 i = -1)
  ∧ (∀ i j, i < j → j < Nn (s 0 3) → s 10 i = s 10 j → ¬ s 13 i = -1 ∧ (s 13 i).toInt ≤ (s 11 j).toInt)
  ∧ ∀ i, i < Nn (s 0 4) → bt 0 (s 15 i) (n - 1) ∧ bt 0 (s 16 i) (s 0 1).toInt ∧ bt (-1) (s 17 i) ((s 0 3).toInt - 1) ∧ (s 17 i = -1 ∨ ¬ s 10 (Nn (s 17 i)) = s 15 i)
/-- s is what s' once was -/
def wOld (s s' : TS) : Prop :=
  Nn (s 0 3) ≤ Nn (s' 0 3) ∧ Nn (s 0 4) ≤ Nn (s' 0 4)
  ∧ (∀ i, i < Nn (s 0 3) → s 10 i = s' 10 i ∧ s 11 i = s' 11 i ∧ s 12 i = s' 12 i ∧ ((s 13 i = -1 ∧ s 14 i = 0) ∨ (s 13 i = s' 13 i ∧ s 14 i = s' 14 i)))
  ∧ ∀ i, i < Nn (s 0 4) → s 15 i = s' 15 i ∧ s 16 i = s' 16 i ∧ s 17 i = s' 17 i
/-- what holds of the first numbers -/
def wG (g : Nat → Int32) : Prop :=
  bt 0 (g 0) 4 ∧ bt 0 (g 1) 4 ∧ bt (-1) (g 2) ((g 1).toInt - 1) ∧ bt 0 (g 3) 30 ∧ bt 0 (g 4) 8 ∧ bt 0 (g 5) 8 ∧ bt 0 (g 6) 99 ∧ bt 0 (g 7) 99 ∧ bt 0 (g 8) 99
  ∧ (∀ e, e < Nn (g 0) → bt 0 (g (12 + 4 * e)) 99 ∧ bt 0 (g (12 + 4 * e + 1)) 24 ∧ bt 0 (g (12 + 4 * e + 2)) 99 ∧ bt 1 (g (12 + 4 * e + 3)) 99)
  ∧ (∀ k, k < Nn (g 4) → bt 1 (g (30 + 3 * k)) 99 ∧ bt 0 (g (30 + 3 * k + 1)) 99 ∧ bt 0 (g (30 + 3 * k + 2)) 255)
  ∧ (∀ k, k < Nn (g 5) → bt 0 (g (54 + 4 * k)) 9000 ∧ bt (g (54 + 4 * k)).toInt (g (54 + 4 * k + 1)) 9000 ∧ bt 0 (g (54 + 4 * k + 2)) 99 ∧ bt (g (54 + 4 * k + 2)).toInt (g (54 + 4 * k + 3)) 99)
/-- what holds of the row now and of the steps -/
def wH (g : Nat → Int32) : Prop :=
  wS (Nn (g 0)) (dec g 90)
  ∧ ∀ j, j < Nn (g 3) → wS (Nn (g 0)) (dec g (740 + 647 * j)) ∧ wOld (dec g (740 + 647 * j)) (dec g 90) ∧ ∀ j', j' < j → wOld (dec g (740 + 647 * j')) (dec g (740 + 647 * j))
/-- a state's cells stand for a row of numbers -/
def rC (I : Nat → Nat → Int32) (J : Nat → Nat → Int64) (R : Nat → Nat → Option Nat) (o : Nat) (g : Nat → Int32) : Prop :=
  (rTo I o g ∧ rMs I o g ∧ rAg I o g ∧ rHd I o g ∧ wG g) ∧ (rLn I J (7 + o) (dec g 90) ∧ rBk I o (dec g 90) ∧ rSt I J R o g ∧ wH g)
/-- the shape of a line -/
def shL (t : Nat → Nat × Nat) (r : Nat → Nat → Option Nat) (p : Nat) : Prop :=
  t p = (5, 9) ∧ t (p + 1) = (20, 16) ∧ t (p + 2) = (20, 16) ∧ t (p + 3) = (20, 16) ∧ t (p + 4) = (23, 4) ∧ (∀ e, e < 4 → t (p + 5 + e) = (3, 14) ∧ r (p + 4) e = some (p + 5 + e))
  ∧ r p 5 = some (p + 1) ∧ r p 6 = some (p + 2) ∧ r p 7 = some (p + 3) ∧ r p 8 = some (p + 4)
/-- the cells that are made later: lines of steps -/
def shD (n : Nat) (t : Nat → Nat × Nat) (r : Nat → Nat → Option Nat) : Prop :=
  177 ≤ n
  ∧ (∀ o i p, (o = 0 ∨ o = 33) → i < 30 → r (25 + o) i = some p → 177 ≤ p ∧ p + 9 ≤ n ∧ shL t r p)
  ∧ (∀ o i p o' i' p', (o = 0 ∨ o = 33) → (o' = 0 ∨ o' = 33) → i < 30 → i' < 30 → r (25 + o) i = some p → r (25 + o') i' = some p' → ¬ (o = o' ∧ i = i') → p + 9 ≤ p' ∨ p' + 9 ≤ p)
abbrev PX : Type := Nat → (Nat → Nat → Int32) → (Nat → Nat × Nat) → (Nat → Nat → Option Nat) → Prop
/-- two fresh ends, if they were made: sixteen cells, apart from the lines of steps -/
def rPr (X : PX) (n : Nat) (t : Nat → Nat × Nat) (I : Nat → Nat → Int32) (r : Nat → Nat → Option Nat) : Prop :=
  r 0 7 = none ∨ ∃ q, r 0 7 = some q ∧ 177 ≤ q ∧ q + 16 ≤ n
    ∧ (∀ o i p, (o = 0 ∨ o = 33) → i < 30 → r (25 + o) i = some p → p + 9 ≤ q ∨ q + 16 ≤ p)
    ∧ X q (fun k j => if k < 16 then I (q + k) j else 0) (fun k => if k < 16 then t (q + k) else (0, 0)) (fun k j => if k < 16 then r (q + k) j else none)
/-- the tape, and the latest fault -/
def rTp (I : Nat → Nat → Int32) : Prop :=
  I 86 1 = I 126 3 ∧ bt 0 (I 126 3) 300 ∧ I 86 2 = I 126 4 ∧ I 86 3 = I 126 5 ∧ ∀ k, k < Nn (I 126 3) → bt 0 (I 87 k) 255 ∧ I 129 k = (I 87 k).toInt8.toInt32
/-- a word of the one side's code and an order of the other's: what they do (0 put, 1 name, 2 go to, 3 go to unless, then the signs), and with what -/
def oOf (op : Nat) : Int32 := match op with
  | 0 => 400
  | 1 => 401
  | 2 => 404
  | 3 => 403
  | 4 => 402
  | 5 => 405
  | 6 => 43
  | 7 => 45
  | 8 => 42
  | 9 => 47
  | 10 => 60
  | 11 => 300
  | 12 => 62
  | 13 => 301
  | 14 => 61
  | 15 => 35
  | 16 => 406
  | _ => 407
/-- what a word does to the kinds of what is piled (true: a truth): from where to where -/
def tyStep (ty : Nat → List Bool) (i op a : Nat) : Prop := match op with
  | 0 => a ≤ 9999 ∧ ty (i + 1) = false :: ty i
  | 1 => a < 11 ∧ ty (i + 1) = false :: ty i
  | 2 => i < a ∧ ty a = ty i
  | 3 => i < a ∧ ty i = true :: ty (i + 1) ∧ ty a = ty (i + 1)
  | 4 => ∃ l, ty i = false :: l ∧ ty (i + 1) = false :: l
  | 5 => ∃ l, ty i = true :: l ∧ ty (i + 1) = true :: l
  | 6 => ∃ l, ty i = false :: false :: l ∧ ty (i + 1) = false :: l
  | 7 => ∃ l, ty i = false :: false :: l ∧ ty (i + 1) = false :: l
  | 8 => ∃ l, ty i = false :: false :: l ∧ ty (i + 1) = false :: l
  | 9 => ∃ l, ty i = false :: false :: l ∧ ty (i + 1) = false :: l
  | 16 => ∃ l, ty i = true :: true :: l ∧ ty (i + 1) = true :: l
  | 17 => ∃ l, ty i = true :: true :: l ∧ ty (i + 1) = true :: l
  | _ => ∃ l, ty i = false :: false :: l ∧ ty (i + 1) = true :: l
/-- the names that may stand in a law -/
def okN (w a : Nat) : Prop := if w = 3 then a < 3 ∨ a = 9 else if w = 4 then a < 3 ∨ a = 10 else a < 9
/-- a law: n words from f on in the code at c, orders from x on -/
def rLaw (I : Nat → Nat → Int32) (w c f n x : Nat) : Prop :=
  I 136 (x + n) = 408 ∧ ∃ (op a : Nat → Nat) (ty : Nat → List Bool), ty 0 = [] ∧ ty n = [false] ∧ (∀ i, (ty i).length ≤ 64)
    ∧ ∀ i, i < n → op i < 18 ∧ a i ≤ 9999 ∧ (op i = 1 → okN w (a i)) ∧ I 136 (x + i) = oOf (op i) ∧ tyStep ty i (op i) (a i)
      ∧ (if op i = 2 ∨ op i = 3 then a i ≤ n ∧ I c (f + i) = nI ((f + a i) * 32 + op i) ∧ I 137 (x + i) = nI (x + a i)
         else I c (f + i) = nI (a i * 32 + op i) ∧ I 137 (x + i) = nI (a i))
/-- a text: the one side's cells from q on, the other's t-th rows -/
def rTx (I : Nat → Nat → Int32) (t : Nat) : Prop :=
  I (94 + 8 * t) 4 = I 130 t ∧ bt 0 (I 130 t) 24
  ∧ (∀ k, k < Nn (I 130 t) → I (94 + 8 * t + 1) k = I 131 (24 * t + k) ∧ bt 0 (I 131 (24 * t + k)) 10
      ∧ (5 ≤ (I 131 (24 * t + k)).toInt → I (94 + 8 * t + 2) k = I 133 (24 * t + k))
      ∧ (I 131 (24 * t + k) = 5 ∨ I 131 (24 * t + k) = 9 → I (94 + 8 * t + 3) k = I 134 (24 * t + k))
      ∧ (I 131 (24 * t + k) = 9 → I (94 + 8 * t + 4) k = I 135 (24 * t + k)))
  ∧ ∀ w, w < 5 → (I (94 + 8 * t + 5) w = -1 ∧ ∀ k, k < Nn (I 130 t) → ¬ I 131 (24 * t + k) = nI w)
      ∨ ∃ k f n x, k < Nn (I 130 t) ∧ I 131 (24 * t + k) = nI w ∧ (∀ j, j < Nn (I 130 t) → I 131 (24 * t + j) = nI w → j = k)
          ∧ f + n ≤ 300 ∧ x + n < 400 ∧ I (94 + 8 * t + 5) w = nI f ∧ I (94 + 8 * t + 6) w = nI (f + n) ∧ I 132 (24 * t + k) = nI (400 * t + x) ∧ rLaw I w (94 + 8 * t + 7) f n (400 * t + x)
/-- how many lines of steps were not made yet -/
def nul (r : Nat → Nat → Option Nat) : Nat := itr (fun i a => a + (if r 25 i = none then 1 else 0) + (if r 58 i = none then 1 else 0)) 0 30 0
/-- the room -/
def rRm (n z : Nat) (r : Nat → Nat → Option Nat) : Prop := n + 9 * nul r + (if r 0 7 = none then 16 else 0) ≤ 800 ∧ z + 200 * nul r + (if r 0 7 = none then 10000 else 0) ≤ 100000
/-- all that holds between two calls -/
def Inv (X : PX) (h : am_h) : Prop :=
  (sh_C (a_t h) (a_r h) ∧ sh_R (a_t h) (a_r h) ∧ shD (a_n h) (a_t h) (a_r h) ∧ rPr X (a_n h) (a_t h) (a_i h) (a_r h) ∧ rRm (a_n h) (a_z h) (a_r h))
  ∧ rC (a_i h) (a_l h) (a_r h) 0 (a_i h 127) ∧ rC (a_i h) (a_l h) (a_r h) 33 (a_i h 128)
  ∧ rTp (a_i h) ∧ (a_i h 128 1).toInt ≤ (a_i h 127 1).toInt ∧ ∀ t, t < Nn (a_i h 127 1) → rTx (a_i h) t
end INV
