/-! sets of four, as bits of a number -/
section BITS4
def bN (f : Nat → Bool) : Nat := (if f 0 = true then 1 else 0) + (if f 1 = true then 2 else 0) + (if f 2 = true then 4 else 0) + (if f 3 = true then 8 else 0)
variable {f g : Nat → Bool} {e : Nat}
theorem bN_c (k : ∀ i, i < 4 → f i = g i) : bN f = bN g := by
  unfold bN
  rw [k 0 (by omega), k 1 (by omega), k 2 (by omega), k 3 (by omega)]
theorem bN_l : bN f < 16 := by
  unfold bN
  repeat' split
  all_goals omega
theorem bN_0 (k : ∀ i, i < 4 → f i = false) : bN f = 0 := by
  unfold bN
  simp [k 0 (by omega), k 1 (by omega), k 2 (by omega), k 3 (by omega)]
theorem bN_z : (nI (bN f) = 0) = (∀ i, i < 4 → f i = false) := by
  have l := bN_l (f := f)
  rw [nI_e0 (by omega)]
  apply propext
  constructor
  · intro h i hi
    have : i = 0 ∨ i = 1 ∨ i = 2 ∨ i = 3 := by omega
    unfold bN at h
    rcases this with rfl | rfl | rfl | rfl
    · cases c : f 0 with
      | false => rfl
      | true => rw [c] at h; simp at h
    · cases c : f 1 with
      | false => rfl
      | true => rw [c] at h; simp at h
    · cases c : f 2 with
      | false => rfl
      | true => rw [c] at h; simp at h
    · cases c : f 3 with
      | false => rfl
      | true => rw [c] at h; simp at h
  · exact bN_0
def q4 (a0 a1 a2 a3 : Bool) : Nat := (if a0 = true then 1 else 0) + (if a1 = true then 2 else 0) + (if a2 = true then 4 else 0) + (if a3 = true then 8 else 0)
theorem q4_or : ∀ a0 a1 a2 a3 : Bool, ∀ e, e < 4 → nI (q4 a0 a1 a2 a3) ||| (1 : Int32) <<< (nI e &&& 31) = nI (q4 (a0 || decide (0 = e)) (a1 || decide (1 = e)) (a2 || decide (2 = e)) (a3 || decide (3 = e))) := by decide +kernel
theorem bN_or (he : e < 4) : nI (bN f) ||| (1 : Int32) <<< (nI e &&& 31) = nI (bN (fun i => f i || decide (i = e))) := q4_or (f 0) (f 1) (f 2) (f 3) e he
theorem bN_bit (he : e < 4) : nI (bN f) >>> (nI e &&& 31) &&& 1 = if f e = true then 1 else 0 := by
  unfold bN
  have : e = 0 ∨ e = 1 ∨ e = 2 ∨ e = 3 := by omega
  rcases this with rfl | rfl | rfl | rfl <;> cases f 0 <;> cases f 1 <;> cases f 2 <;> cases f 3 <;> decide +kernel
/-- just one of four -/
def one4 (f : Nat → Bool) : Bool := decide (bN f = 1 ∨ bN f = 2 ∨ bN f = 4 ∨ bN f = 8)
theorem one4_c (k : ∀ i, i < 4 → f i = g i) : one4 f = one4 g := by
  unfold one4
  rw [bN_c k]
/-- alone, as the class asks: one bit at most -/
theorem bN_al (h : ¬ bN f = 0) : (nI (bN f) &&& (nI (bN f) - 1) = 0) = (one4 f = true) := by
  unfold one4
  have l := bN_l (f := f)
  generalize bN f = b at *
  have : b = 1 ∨ b = 2 ∨ b = 3 ∨ b = 4 ∨ b = 5 ∨ b = 6 ∨ b = 7 ∨ b = 8 ∨ b = 9 ∨ b = 10 ∨ b = 11 ∨ b = 12 ∨ b = 13 ∨ b = 14 ∨ b = 15 := by omega
  rcases this with rfl | rfl | rfl | rfl | rfl | rfl | rfl | rfl | rfl | rfl | rfl | rfl | rfl | rfl | rfl <;> decide +kernel
/-- as the other side asks: just this bit -/
theorem bN_eq (he : e < 4) (h : f e = true) : (nI (bN f) = (1 : Int32) <<< (nI e &&& 31)) = (one4 f = true) := by
  unfold one4 bN
  have : e = 0 ∨ e = 1 ∨ e = 2 ∨ e = 3 := by omega
  rcases this with rfl | rfl | rfl | rfl <;> rw [h] <;> first
    | (cases f 1 <;> cases f 2 <;> cases f 3 <;> decide +kernel)
    | (cases f 0 <;> cases f 2 <;> cases f 3 <;> decide +kernel)
    | (cases f 0 <;> cases f 1 <;> cases f 3 <;> decide +kernel)
    | (cases f 0 <;> cases f 1 <;> cases f 2 <;> decide +kernel)
/-- the lowest of four; none -/
def low4 (f : Nat → Bool) : Int32 := if f 0 = true then 0 else if f 1 = true then 1 else if f 2 = true then 2 else if f 3 = true then 3 else -1
theorem low4_c (k : ∀ i, i < 4 → f i = g i) : low4 f = low4 g := by
  unfold low4
  rw [k 0 (by omega), k 1 (by omega), k 2 (by omega), k 3 (by omega)]
theorem low4_i (he : e < 4) (h : f e = true) (k : ∀ i, i < e → f i = false) : low4 f = nI e := by
  unfold low4
  have : e = 0 ∨ e = 1 ∨ e = 2 ∨ e = 3 := by omega
  rcases this with rfl | rfl | rfl | rfl
  · rw [if_pos h]; rfl
  · rw [if_neg (by rw [k 0 (by omega)]; decide), if_pos h]; rfl
  · rw [if_neg (by rw [k 0 (by omega)]; decide), if_neg (by rw [k 1 (by omega)]; decide), if_pos h]; rfl
  · rw [if_neg (by rw [k 0 (by omega)]; decide), if_neg (by rw [k 1 (by omega)]; decide), if_neg (by rw [k 2 (by omega)]; decide), if_pos h]; rfl
theorem low4_b {n : Nat} (hn : n ≤ 4) (k : ∀ i, f i = true → i < n) : bt (-1) (low4 f) (n - 1) := by
  unfold low4
  have e0 : (0 : Int32).toInt = 0 := rfl
  have e1 : (1 : Int32).toInt = 1 := rfl
  have e2 : (2 : Int32).toInt = 2 := rfl
  have e3 : (3 : Int32).toInt = 3 := rfl
  have e4 : (-1 : Int32).toInt = -1 := rfl
  unfold bt
  by_cases c0 : f 0 = true
  · rw [if_pos c0]; have := k _ c0; omega
  · rw [if_neg c0]
    by_cases c1 : f 1 = true
    · rw [if_pos c1]; have := k _ c1; omega
    · rw [if_neg c1]
      by_cases c2 : f 2 = true
      · rw [if_pos c2]; have := k _ c2; omega
      · rw [if_neg c2]
        by_cases c3 : f 3 = true
        · rw [if_pos c3]; have := k _ c3; omega
        · rw [if_neg c3]; omega
end BITS4
