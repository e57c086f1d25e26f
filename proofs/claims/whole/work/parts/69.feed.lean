/-! feed -/
section FEED
theorem emod_bmod {a b : Int} (k : a % 256 = b % 256) : Int.bmod a 256 = Int.bmod b 256 := by
  unfold Int.bmod
  have k2 : a % ((256 : Nat) : Int) = b % ((256 : Nat) : Int) := k
  rw [k2]
theorem and255 (x : Int32) : (x &&& 255).toInt = ((x.toBitVec.toNat % 256 : Nat) : Int) := by
  have e : (x &&& 255).toBitVec.toNat = x.toBitVec.toNat % 256 := by
    show (x.toBitVec &&& 255#32).toNat = _
    rw [BitVec.toNat_and]
    show x.toBitVec.toNat &&& (2 ^ 8 - 1) = _
    rw [Nat.and_two_pow_sub_one_eq_mod]
  have e2 : (x &&& 255).toInt = ((x &&& 255).toBitVec.toNat : Int) := by
    show (x &&& 255).toBitVec.toInt = _
    rw [BitVec.toInt_eq_toNat_cond, if_pos (by rw [e]; omega)]
  rw [e2, e]
/-- a byte as the one side takes it, and as the other keeps it -/
theorem byt {v s : Int32} {k : Nat} (h1 : ((s.toUInt32 &&& Int32.toUInt32 31).toBitVec % 32).toNat = k) (h2 : ((s &&& 31).toBitVec.smod 32).toNat = k) (hk : k = 24 ∨ k = 16 ∨ k = 8 ∨ k = 0) : bt 0 ((v.toUInt32 >>> (s.toUInt32 &&& Int32.toUInt32 31)).toInt32 &&& 255) 255 ∧ (v >>> (s &&& 31)).toInt8.toInt32.toInt8.toInt32 = ((v.toUInt32 >>> (s.toUInt32 &&& Int32.toUInt32 31)).toInt32 &&& 255).toInt8.toInt32 := by
  have u := pk_ushr v s k h1
  have a := and255 (v.toUInt32 >>> (s.toUInt32 &&& Int32.toUInt32 31)).toInt32
  rw [u] at a
  have sg := pk_shr v (s &&& 31) k h2
  refine ⟨?_, ?_⟩
  · unfold bt
    rw [a]
    omega
  · have q : (v >>> (s &&& 31)).toInt8.toInt32.toInt8 = (v >>> (s &&& 31)).toInt8 := by simp
    rw [q]
    congr 1
    apply Int8.toInt_inj.mp
    rw [Int32.toInt_toInt8, Int32.toInt_toInt8]
    refine emod_bmod ?_
    rw [sg, a]
    have w : v.toInt = if 2 * v.toBitVec.toNat < 2 ^ 32 then (v.toBitVec.toNat : Int) else (v.toBitVec.toNat : Int) - (2 ^ 32 : Nat) := by
      show v.toBitVec.toInt = _
      rw [BitVec.toInt_eq_toNat_cond]
    rw [Int.shiftRight_eq_div_pow, w]
    generalize v.toBitVec.toNat = m
    rcases hk with rfl | rfl | rfl | rfl <;> simp only [Nat.reducePow] <;> split <;> omega
end FEED
