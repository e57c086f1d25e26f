/-! least -/
section LEAST
variable {X : PX} {d n S : Nat} {h : am_h}
theorem and1 (x : Int32) : x &&& 1 = 0 ∨ x &&& 1 = 1 := by
  have e : (x &&& 1).toBitVec.toNat = x.toBitVec.toNat % 2 := by
    show (x.toBitVec &&& 1#32).toNat = _
    rw [BitVec.toNat_and]
    show x.toBitVec.toNat &&& (2 ^ 1 - 1) = _
    rw [Nat.and_two_pow_sub_one_eq_mod]
  have e2 : (x &&& 1).toInt = ((x.toBitVec.toNat % 2 : Nat) : Int) := by
    show (x &&& 1).toBitVec.toInt = _
    rw [BitVec.toInt_eq_toNat_cond, if_pos (by rw [e]; omega), e]
  rcases Nat.mod_two_eq_zero_or_one x.toBitVec.toNat with q | q
  · left
    apply Int32.toInt_inj.mp
    rw [e2, q]; rfl
  · right
    apply Int32.toInt_inj.mp
    rw [e2, q]; rfl
def bz (S k : Nat) : Int32 := (nI S >>> (nI k &&& 31)) &&& 1
theorem bz_o (S k : Nat) : bz S k = 0 ∨ bz S k = 1 := and1 _
def fS (f : Nat → Int32) (S k : Nat) (s : Int32) : Int32 := if bz S k = 0 then s else s + f k
def fA (f : Nat → Int32) (S k : Nat) (b : Bool) : Bool := b && (decide (bz S k = 0) || decide (f k &&& ~~~(nI S) = 0))
def fN (S k : Nat) (c : Nat) : Nat := if bz S k = 0 then c else c + 1
def us (x k : Int32) : Int32 := (x.toUInt32 >>> (k.toUInt32 &&& Int32.toUInt32 31)).toInt32
def bc1 (x : Int32) : Int32 := x - (us x 1 &&& 1431655765)
def bc2 (x : Int32) : Int32 := (x &&& 858993459) + (us x 2 &&& 858993459)
def bc3 (x : Int32) : Int32 := (x + us x 4) &&& 252645135
def bc4 (x : Int32) : Int32 := x + us x 8
def bc5 (x : Int32) : Int32 := x + us x 16
def bcF (x : Int32) : Int32 := bc5 (bc4 (bc3 (bc2 (bc1 x)))) &&& 63
set_option maxRecDepth 20000 in
set_option maxHeartbeats 1000000 in
theorem bcF_e : ∀ n, n < 9 → ∀ S, S < 2 ^ n → bcF (nI S) = nI (itr (fN S) 0 n 0) := by decide +kernel
set_option maxRecDepth 20000 in
set_option maxHeartbeats 1000000 in
theorem q_bitCount {Q : Option Value → am_h → Prop} {x : Int32} : Cal d mJ6_bitCount_0f7a4 [.int x] h Q = Q (some (.int (bcF x))) h := by
  unfold Cal
  rw [l_J6_bitCount_0f7a4]
  simp only [am_en, am_ag, ct_i, ct_r, ct_l, List.length_cons, List.length_nil, List.replicate]
  simp [w_iload_n0 (M := mJ6_bitCount_0f7a4) dJ6_bitCount_0f7a4_0, w_iload_n0 (M := mJ6_bitCount_0f7a4) dJ6_bitCount_0f7a4_1, w_iconst (M := mJ6_bitCount_0f7a4) (v := 1) dJ6_bitCount_0f7a4_2 rfl, w_iushr (M := mJ6_bitCount_0f7a4) dJ6_bitCount_0f7a4_3, w_ldcw (M := mJ6_bitCount_0f7a4) dJ6_bitCount_0f7a4_4 k_26_265, w_iand (M := mJ6_bitCount_0f7a4) dJ6_bitCount_0f7a4_7, w_isub (M := mJ6_bitCount_0f7a4) dJ6_bitCount_0f7a4_8, w_istore_n (M := mJ6_bitCount_0f7a4) (i := 0) dJ6_bitCount_0f7a4_9 rfl (by decide), w_iload_n0 (M := mJ6_bitCount_0f7a4) dJ6_bitCount_0f7a4_10, w_ldcw (M := mJ6_bitCount_0f7a4) dJ6_bitCount_0f7a4_11 k_26_266, w_iand (M := mJ6_bitCount_0f7a4) dJ6_bitCount_0f7a4_14, w_iload_n0 (M := mJ6_bitCount_0f7a4) dJ6_bitCount_0f7a4_15, w_iconst (M := mJ6_bitCount_0f7a4) (v := 2) dJ6_bitCount_0f7a4_16 rfl, w_iushr (M := mJ6_bitCount_0f7a4) dJ6_bitCount_0f7a4_17, w_ldcw (M := mJ6_bitCount_0f7a4) dJ6_bitCount_0f7a4_18 k_26_266, w_iand (M := mJ6_bitCount_0f7a4) dJ6_bitCount_0f7a4_21, w_iadd (M := mJ6_bitCount_0f7a4) dJ6_bitCount_0f7a4_22, w_istore_n (M := mJ6_bitCount_0f7a4) (i := 0) dJ6_bitCount_0f7a4_23 rfl (by decide), w_iload_n0 (M := mJ6_bitCount_0f7a4) dJ6_bitCount_0f7a4_24, w_iload_n0 (M := mJ6_bitCount_0f7a4) dJ6_bitCount_0f7a4_25, w_iconst (M := mJ6_bitCount_0f7a4) (v := 4) dJ6_bitCount_0f7a4_26 rfl, w_iushr (M := mJ6_bitCount_0f7a4) dJ6_bitCount_0f7a4_27, w_iadd (M := mJ6_bitCount_0f7a4) dJ6_bitCount_0f7a4_28, w_ldcw (M := mJ6_bitCount_0f7a4) dJ6_bitCount_0f7a4_29 k_26_267, w_iand (M := mJ6_bitCount_0f7a4) dJ6_bitCount_0f7a4_32, w_istore_n (M := mJ6_bitCount_0f7a4) (i := 0) dJ6_bitCount_0f7a4_33 rfl (by decide), w_iload_n0 (M := mJ6_bitCount_0f7a4) dJ6_bitCount_0f7a4_34, w_iload_n0 (M := mJ6_bitCount_0f7a4) dJ6_bitCount_0f7a4_35, w_bipush (M := mJ6_bitCount_0f7a4) (v := 8) dJ6_bitCount_0f7a4_36 rfl, w_iushr (M := mJ6_bitCount_0f7a4) dJ6_bitCount_0f7a4_38, w_iadd (M := mJ6_bitCount_0f7a4) dJ6_bitCount_0f7a4_39, w_istore_n (M := mJ6_bitCount_0f7a4) (i := 0) dJ6_bitCount_0f7a4_40 rfl (by decide), w_iload_n0 (M := mJ6_bitCount_0f7a4) dJ6_bitCount_0f7a4_41, w_iload_n0 (M := mJ6_bitCount_0f7a4) dJ6_bitCount_0f7a4_42, w_bipush (M := mJ6_bitCount_0f7a4) (v := 16) dJ6_bitCount_0f7a4_43 rfl, w_iushr (M := mJ6_bitCount_0f7a4) dJ6_bitCount_0f7a4_45, w_iadd (M := mJ6_bitCount_0f7a4) dJ6_bitCount_0f7a4_46, w_istore_n (M := mJ6_bitCount_0f7a4) (i := 0) dJ6_bitCount_0f7a4_47 rfl (by decide), w_iload_n0 (M := mJ6_bitCount_0f7a4) dJ6_bitCount_0f7a4_48, w_bipush (M := mJ6_bitCount_0f7a4) (v := 63) dJ6_bitCount_0f7a4_49 rfl, w_iand (M := mJ6_bitCount_0f7a4) dJ6_bitCount_0f7a4_51, w_iret (M := mJ6_bitCount_0f7a4) dJ6_bitCount_0f7a4_52 rfl, Kn_v_, Kn_n_, kl_i_, kl_a_, kl_l_, kl_n_, s1_0_, s2_0_, s1_1, s1_2, s1_3, s1_4, s1_5, s1_6, s1_7, s1_8, s1_9, s1_10, s1_11, s1_12, s1_13, s1_14, s2_1, s2_2, s2_3, s2_4, s2_5, s2_6, s2_7, s2_8, s2_9, s2_10, s2_11, s2_12, s2_13, s2_14, List.map_nil, List.map_cons, List.sum_nil, List.sum_cons, ct_i_, ct_r_, ct_l_, t_si_, t_sl_, t_sr_, n_si_, n_sl_, n_sr_, i_si_, i_sl_, i_sr_, l_si_, l_sl_, l_sr_, r_si_, r_sl_, r_sr_, vr_s_, vr_n_, nz_0_, nz_1_, bcF, bc5, bc4, bc3, bc2, bc1, us]
end LEAST
