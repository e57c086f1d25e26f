/-! laws: a word of two values, the other side -/
section LAWS2
variable {d : Nat} {h : am_h} {Q : Option Value → am_h → Prop} {x y : Int32}
theorem mil_id {z : Int64} (k : -1000000 ≤ z.toInt ∧ z.toInt ≤ 1000000) : mil z = z := by
  have c1 : (1000000 : Int64).toInt = 1000000 := by decide
  have c2 : (-1000000 : Int64).toInt = -1000000 := by decide
  rw [← mil_e]
  rw [if_neg (by rw [l_lt, c1]; omega), if_neg (by rw [l_lt, c2]; omega)]
theorem div_b {X Y : Int64} (k : -1000000 ≤ X.toInt ∧ X.toInt ≤ 1000000) : -1000000 ≤ (X / Y).toInt ∧ (X / Y).toInt ≤ 1000000 := by
  have a := Int.natAbs_tdiv_le_natAbs X.toInt Y.toInt
  rw [Int64.toInt_div, Int.bmod_eq_of_le (by omega) (by omega)]
  omega
theorem b64 {b : Bool} : (bI b).toInt64 = if b = true then 1 else 0 := by cases b <;> decide
set_option maxRecDepth 20000 in
set_option maxHeartbeats 2000000 in
theorem q_worked {op : Nat} (hR : sh_R (a_t h) (a_r h)) (ho : 6 ≤ op ∧ op < 18) (hx : inM x) (hb : op = 16 ∨ op = 17 → (x = 0 ∨ x = 1) ∧ (y = 0 ∨ y = 1)) : Cal (d + 1) mX12_worked [.int (oOf op), .long x.toInt64, .long y.toInt64] h Q = Q (some (.long (valF op x y).toInt64)) h := by
  have hX : -1000000 ≤ x.toInt64.toInt ∧ x.toInt64.toInt ≤ 1000000 := by rw [Int32.toInt_toInt64]; exact hx
  rw [q_X12_worked (eq_true hR)]
  simp only [lc_pos, lc_neg, lc_eq]
  have B : ∀ z : Int64, (if (1000000 : Int64) < z then Q (some (Value.long 1000000)) h else if z < -1000000 then Q (some (Value.long (-1000000))) h else Q (some (Value.long z)) h) = Q (some (.long (mil z).toInt32.toInt64)) h := by
    intro z
    rw [i64_32 mil_b, ← mil_e]
    by_cases a : (1000000 : Int64) < z
    · rw [if_pos a, if_pos a]
    · rw [if_neg a, if_neg a]
      by_cases b : z < -1000000
      · rw [if_pos b, if_pos b]
      · rw [if_neg b, if_neg b]
  have : op = 6 ∨ op = 7 ∨ op = 8 ∨ op = 9 ∨ op = 10 ∨ op = 11 ∨ op = 12 ∨ op = 13 ∨ op = 14 ∨ op = 15 ∨ op = 16 ∨ op = 17 := by omega
  rcases this with rfl | rfl | rfl | rfl | rfl | rfl | rfl | rfl | rfl | rfl | rfl | rfl
  · simp only [oOf, valF, rkF, B, show ((43 : Int32) = 35) = False from eq_false (by decide), show ((43 : Int32) = 42) = False from eq_false (by decide), show ((43 : Int32) = 45) = False from eq_false (by decide), show ((43 : Int32) = 47) = False from eq_false (by decide), show ((43 : Int32) = 60) = False from eq_false (by decide), show ((43 : Int32) = 61) = False from eq_false (by decide), show ((43 : Int32) = 62) = False from eq_false (by decide), show ((43 : Int32) = 300) = False from eq_false (by decide), show ((43 : Int32) = 301) = False from eq_false (by decide), show ((43 : Int32) = 406) = False from eq_false (by decide), if_false, if_true, Nat.reduceLT]
  · simp only [oOf, valF, rkF, B, show ((45 : Int32) = 35) = False from eq_false (by decide), show ((45 : Int32) = 42) = False from eq_false (by decide), show ((45 : Int32) = 43) = False from eq_false (by decide), show ((45 : Int32) = 47) = False from eq_false (by decide), show ((45 : Int32) = 60) = False from eq_false (by decide), show ((45 : Int32) = 61) = False from eq_false (by decide), show ((45 : Int32) = 62) = False from eq_false (by decide), show ((45 : Int32) = 300) = False from eq_false (by decide), show ((45 : Int32) = 301) = False from eq_false (by decide), show ((45 : Int32) = 406) = False from eq_false (by decide), if_false, if_true, Nat.reduceLT]
  · simp only [oOf, valF, rkF, B, show ((42 : Int32) = 35) = False from eq_false (by decide), show ((42 : Int32) = 43) = False from eq_false (by decide), show ((42 : Int32) = 45) = False from eq_false (by decide), show ((42 : Int32) = 47) = False from eq_false (by decide), show ((42 : Int32) = 60) = False from eq_false (by decide), show ((42 : Int32) = 61) = False from eq_false (by decide), show ((42 : Int32) = 62) = False from eq_false (by decide), show ((42 : Int32) = 300) = False from eq_false (by decide), show ((42 : Int32) = 301) = False from eq_false (by decide), show ((42 : Int32) = 406) = False from eq_false (by decide), if_false, if_true, Nat.reduceLT]
  · simp only [oOf, valF, rkF, show ((47 : Int32) = 35) = False from eq_false (by decide), show ((47 : Int32) = 42) = False from eq_false (by decide), show ((47 : Int32) = 43) = False from eq_false (by decide), show ((47 : Int32) = 45) = False from eq_false (by decide), show ((47 : Int32) = 60) = False from eq_false (by decide), show ((47 : Int32) = 61) = False from eq_false (by decide), show ((47 : Int32) = 62) = False from eq_false (by decide), show ((47 : Int32) = 300) = False from eq_false (by decide), show ((47 : Int32) = 301) = False from eq_false (by decide), show ((47 : Int32) = 406) = False from eq_false (by decide), if_false, if_true, Nat.reduceLT]
    rw [i64_32 mil_b]
    by_cases c : y.toInt64 = 0
    · rw [if_pos c, if_pos c, mil_id (by decide)]
    · rw [if_neg c, if_neg c, mil_id (div_b hX)]
      simp [c]
  · simp only [oOf, valF, askF, show ((60 : Int32) = 35) = False from eq_false (by decide), show ((60 : Int32) = 42) = False from eq_false (by decide), show ((60 : Int32) = 43) = False from eq_false (by decide), show ((60 : Int32) = 45) = False from eq_false (by decide), show ((60 : Int32) = 47) = False from eq_false (by decide), show ((60 : Int32) = 61) = False from eq_false (by decide), show ((60 : Int32) = 62) = False from eq_false (by decide), show ((60 : Int32) = 300) = False from eq_false (by decide), show ((60 : Int32) = 301) = False from eq_false (by decide), show ((60 : Int32) = 406) = False from eq_false (by decide), if_false, if_true, Nat.reduceLT, l32_lt, b64]
    by_cases c : x < y <;> simp [c]
  · simp only [oOf, valF, askF, show ((300 : Int32) = 35) = False from eq_false (by decide), show ((300 : Int32) = 42) = False from eq_false (by decide), show ((300 : Int32) = 43) = False from eq_false (by decide), show ((300 : Int32) = 45) = False from eq_false (by decide), show ((300 : Int32) = 47) = False from eq_false (by decide), show ((300 : Int32) = 60) = False from eq_false (by decide), show ((300 : Int32) = 61) = False from eq_false (by decide), show ((300 : Int32) = 62) = False from eq_false (by decide), show ((300 : Int32) = 301) = False from eq_false (by decide), show ((300 : Int32) = 406) = False from eq_false (by decide), if_false, if_true, Nat.reduceLT, l32_lt, b64]
    by_cases c : y < x <;> simp [c]
  · simp only [oOf, valF, askF, show ((62 : Int32) = 35) = False from eq_false (by decide), show ((62 : Int32) = 42) = False from eq_false (by decide), show ((62 : Int32) = 43) = False from eq_false (by decide), show ((62 : Int32) = 45) = False from eq_false (by decide), show ((62 : Int32) = 47) = False from eq_false (by decide), show ((62 : Int32) = 60) = False from eq_false (by decide), show ((62 : Int32) = 61) = False from eq_false (by decide), show ((62 : Int32) = 300) = False from eq_false (by decide), show ((62 : Int32) = 301) = False from eq_false (by decide), show ((62 : Int32) = 406) = False from eq_false (by decide), if_false, if_true, Nat.reduceLT, l32_lt, b64]
    by_cases c : y < x <;> simp [c]
  · simp only [oOf, valF, askF, show ((301 : Int32) = 35) = False from eq_false (by decide), show ((301 : Int32) = 42) = False from eq_false (by decide), show ((301 : Int32) = 43) = False from eq_false (by decide), show ((301 : Int32) = 45) = False from eq_false (by decide), show ((301 : Int32) = 47) = False from eq_false (by decide), show ((301 : Int32) = 60) = False from eq_false (by decide), show ((301 : Int32) = 61) = False from eq_false (by decide), show ((301 : Int32) = 62) = False from eq_false (by decide), show ((301 : Int32) = 300) = False from eq_false (by decide), show ((301 : Int32) = 406) = False from eq_false (by decide), if_false, if_true, Nat.reduceLT, l32_lt, b64]
    by_cases c : x < y <;> simp [c]
  · simp only [oOf, valF, askF, show ((61 : Int32) = 35) = False from eq_false (by decide), show ((61 : Int32) = 42) = False from eq_false (by decide), show ((61 : Int32) = 43) = False from eq_false (by decide), show ((61 : Int32) = 45) = False from eq_false (by decide), show ((61 : Int32) = 47) = False from eq_false (by decide), show ((61 : Int32) = 60) = False from eq_false (by decide), show ((61 : Int32) = 62) = False from eq_false (by decide), show ((61 : Int32) = 300) = False from eq_false (by decide), show ((61 : Int32) = 301) = False from eq_false (by decide), show ((61 : Int32) = 406) = False from eq_false (by decide), if_false, if_true, Nat.reduceLT, l32_eq, b64]
    by_cases c : x = y <;> simp [c]
  · simp only [oOf, valF, askF, show ((35 : Int32) = 42) = False from eq_false (by decide), show ((35 : Int32) = 43) = False from eq_false (by decide), show ((35 : Int32) = 45) = False from eq_false (by decide), show ((35 : Int32) = 47) = False from eq_false (by decide), show ((35 : Int32) = 60) = False from eq_false (by decide), show ((35 : Int32) = 61) = False from eq_false (by decide), show ((35 : Int32) = 62) = False from eq_false (by decide), show ((35 : Int32) = 300) = False from eq_false (by decide), show ((35 : Int32) = 301) = False from eq_false (by decide), show ((35 : Int32) = 406) = False from eq_false (by decide), if_false, if_true, Nat.reduceLT, l32_eq, b64]
    by_cases c : x = y <;> simp [c]
  · obtain ⟨h1, h2⟩ := hb (Or.inl rfl)
    simp only [oOf, valF, askF, show ((406 : Int32) = 35) = False from eq_false (by decide), show ((406 : Int32) = 42) = False from eq_false (by decide), show ((406 : Int32) = 43) = False from eq_false (by decide), show ((406 : Int32) = 45) = False from eq_false (by decide), show ((406 : Int32) = 47) = False from eq_false (by decide), show ((406 : Int32) = 60) = False from eq_false (by decide), show ((406 : Int32) = 61) = False from eq_false (by decide), show ((406 : Int32) = 62) = False from eq_false (by decide), show ((406 : Int32) = 300) = False from eq_false (by decide), show ((406 : Int32) = 301) = False from eq_false (by decide), if_false, if_true, Nat.reduceLT]
    rcases h1 with rfl | rfl <;> rcases h2 with rfl | rfl <;> rfl
  · obtain ⟨h1, h2⟩ := hb (Or.inr rfl)
    simp only [oOf, valF, askF, show ((407 : Int32) = 35) = False from eq_false (by decide), show ((407 : Int32) = 42) = False from eq_false (by decide), show ((407 : Int32) = 43) = False from eq_false (by decide), show ((407 : Int32) = 45) = False from eq_false (by decide), show ((407 : Int32) = 47) = False from eq_false (by decide), show ((407 : Int32) = 60) = False from eq_false (by decide), show ((407 : Int32) = 61) = False from eq_false (by decide), show ((407 : Int32) = 62) = False from eq_false (by decide), show ((407 : Int32) = 300) = False from eq_false (by decide), show ((407 : Int32) = 301) = False from eq_false (by decide), show ((407 : Int32) = 406) = False from eq_false (by decide), if_false, if_true, Nat.reduceLT]
    rcases h1 with rfl | rfl <;> rcases h2 with rfl | rfl
    · rw [if_neg (by decide)]; rfl
    · rw [if_pos (by decide)]; rfl
    · rw [if_pos (by decide)]; rfl
    · rw [if_pos (by decide)]; rfl
end LAWS2
