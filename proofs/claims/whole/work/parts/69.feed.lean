/-! feed -/
section FEED
theorem emod_bmod {a b : Int} (k : a % 256 = b % 256) : Int.bmod a 256 = Int.bmod b 256 := by
  unfold Int.bmod
  have k2 : a % ((256 : Nat) : Int) = b % ((256 : Nat) : Int) := k
  rw [k2]
theorem and255 (x : Int32) : (x &&& 255).toInt = ((x.toBitVec.toNat % 256 : Nat) : Int) := by
  have e : (x &&& 255).toBitVec.toNat = x.toBitVec.toNat % 256 := by
    show (x.toBitVec &&& 255#32).toNat = _
    rw [BitVec.toNat_and]
    show x.toBitVec.toNat &&& (2 ^ 8 - 1) = _
    rw [Nat.and_two_pow_sub_one_eq_mod]
  have e2 : (x &&& 255).toInt = ((x &&& 255).toBitVec.toNat : Int) := by
    show (x &&& 255).toBitVec.toInt = _
    rw [BitVec.toInt_eq_toNat_cond, if_pos (by rw [e]; omega)]
  rw [e2, e]
/-- a byte as the one side takes it, and as the other keeps it -/
theorem byt {v s : Int32} {k : Nat} (h1 : ((s.toUInt32 &&& Int32.toUInt32 31).toBitVec % 32).toNat = k) (h2 : ((s &&& 31).toBitVec.smod 32).toNat = k) (hk : k = 24 ∨ k = 16 ∨ k = 8 ∨ k = 0) : bt 0 ((v.toUInt32 >>> (s.toUInt32 &&& Int32.toUInt32 31)).toInt32 &&& 255) 255 ∧ (v >>> (s &&& 31)).toInt8.toInt32.toInt8.toInt32 = ((v.toUInt32 >>> (s.toUInt32 &&& Int32.toUInt32 31)).toInt32 &&& 255).toInt8.toInt32 := by
  have u := pk_ushr v s k h1
  have a := and255 (v.toUInt32 >>> (s.toUInt32 &&& Int32.toUInt32 31)).toInt32
  rw [u] at a
  have sg := pk_shr v (s &&& 31) k h2
  refine ⟨?_, ?_⟩
  · unfold bt
    rw [a]
    omega
  · have q : (v >>> (s &&& 31)).toInt8.toInt32.toInt8 = (v >>> (s &&& 31)).toInt8 := by simp
    rw [q]
    congr 1
    apply Int8.toInt_inj.mp
    rw [Int32.toInt_toInt8, Int32.toInt_toInt8]
    refine emod_bmod ?_
    rw [sg, a]
    have w : v.toInt = if 2 * v.toBitVec.toNat < 2 ^ 32 then (v.toBitVec.toNat : Int) else (v.toBitVec.toNat : Int) - (2 ^ 32 : Nat) := by
      show v.toBitVec.toInt = _
      rw [BitVec.toInt_eq_toNat_cond]
    rw [Int.shiftRight_eq_div_pow, w]
    generalize v.toBitVec.toNat = m
    rcases hk with rfl | rfl | rfl | rfl <;> simp only [Nat.reducePow] <;> split <;> omega
def shf (i : Nat) : Int32 := match i with
  | 0 => 24
  | 1 => 16
  | 2 => 8
  | 3 => 0
  | _ => -8
theorem shf_s {i : Nat} (hi : i < 4) : shf i + -8 = shf (i + 1) ∧ shf i - 8 = shf (i + 1) ∧ ¬ shf i < 0 := by
  have : i = 0 ∨ i = 1 ∨ i = 2 ∨ i = 3 := by omega
  rcases this with rfl | rfl | rfl | rfl <;> decide
theorem shf_b {v : Int32} {i : Nat} (hi : i < 4) : bt 0 ((v.toUInt32 >>> ((shf i).toUInt32 &&& Int32.toUInt32 31)).toInt32 &&& 255) 255 ∧ (v >>> (shf i &&& 31)).toInt8.toInt32.toInt8.toInt32 = ((v.toUInt32 >>> ((shf i).toUInt32 &&& Int32.toUInt32 31)).toInt32 &&& 255).toInt8.toInt32 := by
  have : i = 0 ∨ i = 1 ∨ i = 2 ∨ i = 3 := by omega
  rcases this with rfl | rfl | rfl | rfl
  · exact byt (k := 24) (by decide) (by decide) (by omega)
  · exact byt (k := 16) (by decide) (by decide) (by omega)
  · exact byt (k := 8) (by decide) (by decide) (by omega)
  · exact byt (k := 0) (by decide) (by decide) (by omega)
variable {X : PX} {d L : Nat} {h : am_h} {v : Int32}
/-- i bytes of four were put: at a row p, their count in (q, r) -/
def fdP (h s : am_h) (p q r L : Nat) (B : Nat → Int32) (i : Nat) : Prop := sm h s ∧ a_l s = a_l h ∧ ∀ x j, a_i s x j = if x = p ∧ L ≤ j ∧ j < L + i then B (j - L) else if x = q ∧ j = r then nI (L + i) else a_i h x j
theorem fdP_s {s s' : am_h} {p q r i : Nat} {B : Nat → Int32} (k : fdP h s p q r L B i) (ne : ¬ p = q) (e : s' = s_i (s_i s p (L + i) (B i)) q r (nI (L + (i + 1)))) : fdP h s' p q r L B (i + 1) := by
  subst e
  obtain ⟨k1, k2, k3⟩ := k
  refine ⟨k1, k2, fun x j => ?_⟩
  by_cases c1 : x = q ∧ j = r
  · rw [ieq c1.1 c1.2, if_neg (by omega), if_pos c1]
  · rw [ine c1]
    by_cases c2 : x = p ∧ j = L + i
    · rw [ieq c2.1 c2.2, if_pos (by omega), show j - L = i by omega]
    · rw [ine c2, k3]
      by_cases c3 : x = p ∧ L ≤ j ∧ j < L + i
      · rw [if_pos c3, if_pos (by omega)]
      · rw [if_neg c3, if_neg c1, if_neg (by omega), if_neg c1]
set_option maxRecDepth 20000 in
set_option maxHeartbeats 1000000 in
theorem q_X7_take (hC : sh_C (a_t h) (a_r h)) (hL : a_i h 86 1 = nI L) (hL2 : L + 4 ≤ 300) : ∃ h', (∀ Q, Cal d mX7_take [.ref 86, .int v] h Q = Q none h') ∧ fdP h h' 87 86 1 L (fun j => (v.toUInt32 >>> ((shf j).toUInt32 &&& Int32.toUInt32 31)).toInt32 &&& 255) 4 := by
  have key := lp (n := 4) (W := fun i (s : am_h) Q => WP d mX7_take 3 [some (.ref 86), some (.int v), some (.int (shf i))] [] s Q) (P := fun i (s : am_h) => fdP h s 87 86 1 L (fun j => (v.toUInt32 >>> ((shf j).toUInt32 &&& Int32.toUInt32 31)).toInt32 &&& 255) i) (fun i s hi hs => ?_) 4 0 h (by omega) ⟨⟨rfl, rfl, rfl⟩, rfl, fun x j => ?_⟩
  · obtain ⟨h', a, b⟩ := key
    refine ⟨h', fun Q => ?_, b⟩
    unfold Cal
    rw [l_X7_take]
    simp only [am_en, am_ag, ct_i, ct_r, ct_l, List.length_cons, List.length_nil, List.replicate]
    simp [w_bipush (M := mX7_take) (v := 24) dX7_take_0 rfl, w_istore_n (M := mX7_take) (i := 2) dX7_take_2 rfl (by decide), w_if_lt (M := mX7_take) (tgt := 49) dX7_take_4 (by decide), w_aload_n0 (M := mX7_take) dX7_take_7, w_getI (M := mX7_take) dX7_take_8 f_7_31 rfl (by decide) (by decide), w_sipush (M := mX7_take) (v := 300) dX7_take_11 rfl, w_ic_ge (M := mX7_take) (tgt := 49) dX7_take_14 (by decide), w_aload_n0 (M := mX7_take) dX7_take_17, w_getA (M := mX7_take) dX7_take_18 f_7_9 rfl (by decide) (by decide), w_aload_n0 (M := mX7_take) dX7_take_21, w_getI (M := mX7_take) dX7_take_22 f_7_31 rfl (by decide) (by decide), w_iload_n1 (M := mX7_take) dX7_take_25, w_iload_n2 (M := mX7_take) dX7_take_26, w_iushr (M := mX7_take) dX7_take_27, w_sipush (M := mX7_take) (v := 255) dX7_take_28 rfl, w_iand (M := mX7_take) dX7_take_31, w_iastore (M := mX7_take) dX7_take_32, w_aload_n0 (M := mX7_take) dX7_take_33, w_dup_int (M := mX7_take) dX7_take_34, w_dup_ref (M := mX7_take) dX7_take_34, w_getI (M := mX7_take) dX7_take_35 f_7_31 rfl (by decide) (by decide), w_iconst (M := mX7_take) (v := 1) dX7_take_38 rfl, w_iadd (M := mX7_take) dX7_take_39, w_putI (M := mX7_take) dX7_take_40 f_7_31 rfl (Or.inl rfl), w_iinc2 (M := mX7_take) (v := (-8)) dX7_take_43 rfl (by decide), w_goto (M := mX7_take) (tgt := 3) dX7_take_46 (by decide), w_vret (M := mX7_take) dX7_take_49 rfl, Kn_v_, Kn_n_, kl_i_, kl_a_, kl_l_, kl_n_, s1_0_, s2_0_, s1_1, s1_2, s1_3, s1_4, s1_5, s1_6, s1_7, s1_8, s1_9, s1_10, s1_11, s1_12, s1_13, s1_14, s2_1, s2_2, s2_3, s2_4, s2_5, s2_6, s2_7, s2_8, s2_9, s2_10, s2_11, s2_12, s2_13, s2_14, List.map_nil, List.map_cons, List.sum_nil, List.sum_cons, ct_i_, ct_r_, ct_l_, t_si_, t_sl_, t_sr_, n_si_, n_sl_, n_sr_, i_si_, i_sl_, i_sr_, l_si_, l_sl_, l_sr_, r_si_, r_sl_, r_sr_, vr_s_, vr_n_, nz_0_, nz_1_]
    refine Eq.to_iff (Eq.trans (a Q) ?_)
    rw [w_iload_n2 (M := mX7_take) dX7_take_3]
    simp [w_bipush (M := mX7_take) (v := 24) dX7_take_0 rfl, w_istore_n (M := mX7_take) (i := 2) dX7_take_2 rfl (by decide), w_if_lt (M := mX7_take) (tgt := 49) dX7_take_4 (by decide), w_aload_n0 (M := mX7_take) dX7_take_7, w_getI (M := mX7_take) dX7_take_8 f_7_31 rfl (by decide) (by decide), w_sipush (M := mX7_take) (v := 300) dX7_take_11 rfl, w_ic_ge (M := mX7_take) (tgt := 49) dX7_take_14 (by decide), w_aload_n0 (M := mX7_take) dX7_take_17, w_getA (M := mX7_take) dX7_take_18 f_7_9 rfl (by decide) (by decide), w_aload_n0 (M := mX7_take) dX7_take_21, w_getI (M := mX7_take) dX7_take_22 f_7_31 rfl (by decide) (by decide), w_iload_n1 (M := mX7_take) dX7_take_25, w_iload_n2 (M := mX7_take) dX7_take_26, w_iushr (M := mX7_take) dX7_take_27, w_sipush (M := mX7_take) (v := 255) dX7_take_28 rfl, w_iand (M := mX7_take) dX7_take_31, w_iastore (M := mX7_take) dX7_take_32, w_aload_n0 (M := mX7_take) dX7_take_33, w_dup_int (M := mX7_take) dX7_take_34, w_dup_ref (M := mX7_take) dX7_take_34, w_getI (M := mX7_take) dX7_take_35 f_7_31 rfl (by decide) (by decide), w_iconst (M := mX7_take) (v := 1) dX7_take_38 rfl, w_iadd (M := mX7_take) dX7_take_39, w_putI (M := mX7_take) dX7_take_40 f_7_31 rfl (Or.inl rfl), w_iinc2 (M := mX7_take) (v := (-8)) dX7_take_43 rfl (by decide), w_goto (M := mX7_take) (tgt := 3) dX7_take_46 (by decide), w_vret (M := mX7_take) dX7_take_49 rfl, Kn_v_, Kn_n_, kl_i_, kl_a_, kl_l_, kl_n_, s1_0_, s2_0_, s1_1, s1_2, s1_3, s1_4, s1_5, s1_6, s1_7, s1_8, s1_9, s1_10, s1_11, s1_12, s1_13, s1_14, s2_1, s2_2, s2_3, s2_4, s2_5, s2_6, s2_7, s2_8, s2_9, s2_10, s2_11, s2_12, s2_13, s2_14, List.map_nil, List.map_cons, List.sum_nil, List.sum_cons, ct_i_, ct_r_, ct_l_, t_si_, t_sl_, t_sr_, n_si_, n_sl_, n_sr_, i_si_, i_sl_, i_sr_, l_si_, l_sl_, l_sr_, r_si_, r_sl_, r_sr_, vr_s_, vr_n_, nz_0_, nz_1_, show shf 4 < 0 from by decide]
  · have hCs : sh_C (a_t s) (a_r s) := by rw [hs.1.1, hs.1.2.1]; exact hC
    have sl : a_i s 86 1 = nI (L + i) := by rw [hs.2.2, if_neg (by omega), if_pos ⟨rfl, rfl⟩]
    have sf := shf_s hi
    refine ⟨s_i (s_i s 87 (L + i) ((v.toUInt32 >>> ((shf i).toUInt32 &&& Int32.toUInt32 31)).toInt32 &&& 255)) 86 1 (nI (L + (i + 1))), fun Q => ?_, fdP_s hs (by omega) rfl⟩
    rw [w_iload_n2 (M := mX7_take) dX7_take_3]
    simp [w_bipush (M := mX7_take) (v := 24) dX7_take_0 rfl, w_istore_n (M := mX7_take) (i := 2) dX7_take_2 rfl (by decide), w_if_lt (M := mX7_take) (tgt := 49) dX7_take_4 (by decide), w_aload_n0 (M := mX7_take) dX7_take_7, w_getI (M := mX7_take) dX7_take_8 f_7_31 rfl (by decide) (by decide), w_sipush (M := mX7_take) (v := 300) dX7_take_11 rfl, w_ic_ge (M := mX7_take) (tgt := 49) dX7_take_14 (by decide), w_aload_n0 (M := mX7_take) dX7_take_17, w_getA (M := mX7_take) dX7_take_18 f_7_9 rfl (by decide) (by decide), w_aload_n0 (M := mX7_take) dX7_take_21, w_getI (M := mX7_take) dX7_take_22 f_7_31 rfl (by decide) (by decide), w_iload_n1 (M := mX7_take) dX7_take_25, w_iload_n2 (M := mX7_take) dX7_take_26, w_iushr (M := mX7_take) dX7_take_27, w_sipush (M := mX7_take) (v := 255) dX7_take_28 rfl, w_iand (M := mX7_take) dX7_take_31, w_iastore (M := mX7_take) dX7_take_32, w_aload_n0 (M := mX7_take) dX7_take_33, w_dup_int (M := mX7_take) dX7_take_34, w_dup_ref (M := mX7_take) dX7_take_34, w_getI (M := mX7_take) dX7_take_35 f_7_31 rfl (by decide) (by decide), w_iconst (M := mX7_take) (v := 1) dX7_take_38 rfl, w_iadd (M := mX7_take) dX7_take_39, w_putI (M := mX7_take) dX7_take_40 f_7_31 rfl (Or.inl rfl), w_iinc2 (M := mX7_take) (v := (-8)) dX7_take_43 rfl (by decide), w_goto (M := mX7_take) (tgt := 3) dX7_take_46 (by decide), w_vret (M := mX7_take) dX7_take_49 rfl, Kn_v_, Kn_n_, kl_i_, kl_a_, kl_l_, kl_n_, s1_0_, s2_0_, s1_1, s1_2, s1_3, s1_4, s1_5, s1_6, s1_7, s1_8, s1_9, s1_10, s1_11, s1_12, s1_13, s1_14, s2_1, s2_2, s2_3, s2_4, s2_5, s2_6, s2_7, s2_8, s2_9, s2_10, s2_11, s2_12, s2_13, s2_14, List.map_nil, List.map_cons, List.sum_nil, List.sum_cons, ct_i_, ct_r_, ct_l_, t_si_, t_sl_, t_sr_, n_si_, n_sl_, n_sr_, i_si_, i_sl_, i_sr_, l_si_, l_sl_, l_sr_, r_si_, r_sl_, r_sr_, vr_s_, vr_n_, nz_0_, nz_1_, hCs.e, sl, sf.1, sf.2.2, show (nI (L + i) < 300) = True from nI_ltT (b := 300) (by omega) (by omega), in1_n (k := L + i) (n := 300) (by omega), show L + i < 300 by omega, nI_c (a := L + i) (by omega), nI_s, Nat.add_assoc]
  · rw [if_neg (by omega)]
    by_cases c : x = 86 ∧ j = 1
    · rw [if_pos c, c.1, c.2]; exact hL
    · rw [if_neg c]
set_option maxRecDepth 20000 in
set_option maxHeartbeats 1000000 in
theorem q_X12_put (hR : sh_R (a_t h) (a_r h)) (hL : a_i h 126 3 = nI L) (hL2 : L + 4 ≤ 300) : ∃ h', (∀ Q, Cal d mX12_put [.ref 126, .int v] h Q = Q none h') ∧ fdP h h' 129 126 3 L (fun j => (v >>> (shf j &&& 31)).toInt8.toInt32.toInt8.toInt32) 4 := by
  have key := lp (n := 4) (W := fun i (s : am_h) Q => WP d mX12_put 3 [some (.ref 126), some (.int v), some (.int (shf i))] [] s Q) (P := fun i (s : am_h) => fdP h s 129 126 3 L (fun j => (v >>> (shf j &&& 31)).toInt8.toInt32.toInt8.toInt32) i) (fun i s hi hs => ?_) 4 0 h (by omega) ⟨⟨rfl, rfl, rfl⟩, rfl, fun x j => ?_⟩
  · obtain ⟨h', a, b⟩ := key
    refine ⟨h', fun Q => ?_, b⟩
    unfold Cal
    rw [l_X12_put]
    simp only [am_en, am_ag, ct_i, ct_r, ct_l, List.length_cons, List.length_nil, List.replicate]
    simp [w_bipush (M := mX12_put) (v := 24) dX12_put_0 rfl, w_istore_n (M := mX12_put) (i := 2) dX12_put_2 rfl (by decide), w_if_lt (M := mX12_put) (tgt := 38) dX12_put_4 (by decide), w_aload_n0 (M := mX12_put) dX12_put_7, w_getA (M := mX12_put) dX12_put_8 f_12_16 rfl (by decide) (by decide), w_aload_n0 (M := mX12_put) dX12_put_11, w_getI (M := mX12_put) dX12_put_12 f_12_194 rfl (by decide) (by decide), w_iload_n1 (M := mX12_put) dX12_put_15, w_iload_n2 (M := mX12_put) dX12_put_16, w_ishr (M := mX12_put) dX12_put_17, w_i2b (M := mX12_put) dX12_put_18, w_bastore (M := mX12_put) dX12_put_19, w_aload_n0 (M := mX12_put) dX12_put_20, w_dup_int (M := mX12_put) dX12_put_21, w_dup_ref (M := mX12_put) dX12_put_21, w_getI (M := mX12_put) dX12_put_22 f_12_194 rfl (by decide) (by decide), w_iconst (M := mX12_put) (v := 1) dX12_put_25 rfl, w_iadd (M := mX12_put) dX12_put_26, w_putI (M := mX12_put) dX12_put_27 f_12_194 rfl (Or.inl rfl), w_iload_n2 (M := mX12_put) dX12_put_30, w_bipush (M := mX12_put) (v := 8) dX12_put_31 rfl, w_isub (M := mX12_put) dX12_put_33, w_istore_n (M := mX12_put) (i := 2) dX12_put_34 rfl (by decide), w_goto (M := mX12_put) (tgt := 3) dX12_put_35 (by decide), w_vret (M := mX12_put) dX12_put_38 rfl, Kn_v_, Kn_n_, kl_i_, kl_a_, kl_l_, kl_n_, s1_0_, s2_0_, s1_1, s1_2, s1_3, s1_4, s1_5, s1_6, s1_7, s1_8, s1_9, s1_10, s1_11, s1_12, s1_13, s1_14, s2_1, s2_2, s2_3, s2_4, s2_5, s2_6, s2_7, s2_8, s2_9, s2_10, s2_11, s2_12, s2_13, s2_14, List.map_nil, List.map_cons, List.sum_nil, List.sum_cons, ct_i_, ct_r_, ct_l_, t_si_, t_sl_, t_sr_, n_si_, n_sl_, n_sr_, i_si_, i_sl_, i_sr_, l_si_, l_sl_, l_sr_, r_si_, r_sl_, r_sr_, vr_s_, vr_n_, nz_0_, nz_1_]
    refine Eq.to_iff (Eq.trans (a Q) ?_)
    rw [w_iload_n2 (M := mX12_put) dX12_put_3]
    simp [w_bipush (M := mX12_put) (v := 24) dX12_put_0 rfl, w_istore_n (M := mX12_put) (i := 2) dX12_put_2 rfl (by decide), w_if_lt (M := mX12_put) (tgt := 38) dX12_put_4 (by decide), w_aload_n0 (M := mX12_put) dX12_put_7, w_getA (M := mX12_put) dX12_put_8 f_12_16 rfl (by decide) (by decide), w_aload_n0 (M := mX12_put) dX12_put_11, w_getI (M := mX12_put) dX12_put_12 f_12_194 rfl (by decide) (by decide), w_iload_n1 (M := mX12_put) dX12_put_15, w_iload_n2 (M := mX12_put) dX12_put_16, w_ishr (M := mX12_put) dX12_put_17, w_i2b (M := mX12_put) dX12_put_18, w_bastore (M := mX12_put) dX12_put_19, w_aload_n0 (M := mX12_put) dX12_put_20, w_dup_int (M := mX12_put) dX12_put_21, w_dup_ref (M := mX12_put) dX12_put_21, w_getI (M := mX12_put) dX12_put_22 f_12_194 rfl (by decide) (by decide), w_iconst (M := mX12_put) (v := 1) dX12_put_25 rfl, w_iadd (M := mX12_put) dX12_put_26, w_putI (M := mX12_put) dX12_put_27 f_12_194 rfl (Or.inl rfl), w_iload_n2 (M := mX12_put) dX12_put_30, w_bipush (M := mX12_put) (v := 8) dX12_put_31 rfl, w_isub (M := mX12_put) dX12_put_33, w_istore_n (M := mX12_put) (i := 2) dX12_put_34 rfl (by decide), w_goto (M := mX12_put) (tgt := 3) dX12_put_35 (by decide), w_vret (M := mX12_put) dX12_put_38 rfl, Kn_v_, Kn_n_, kl_i_, kl_a_, kl_l_, kl_n_, s1_0_, s2_0_, s1_1, s1_2, s1_3, s1_4, s1_5, s1_6, s1_7, s1_8, s1_9, s1_10, s1_11, s1_12, s1_13, s1_14, s2_1, s2_2, s2_3, s2_4, s2_5, s2_6, s2_7, s2_8, s2_9, s2_10, s2_11, s2_12, s2_13, s2_14, List.map_nil, List.map_cons, List.sum_nil, List.sum_cons, ct_i_, ct_r_, ct_l_, t_si_, t_sl_, t_sr_, n_si_, n_sl_, n_sr_, i_si_, i_sl_, i_sr_, l_si_, l_sl_, l_sr_, r_si_, r_sl_, r_sr_, vr_s_, vr_n_, nz_0_, nz_1_, show shf 4 < 0 from by decide]
  · have hRs : sh_R (a_t s) (a_r s) := by rw [hs.1.1, hs.1.2.1]; exact hR
    have sl : a_i s 126 3 = nI (L + i) := by rw [hs.2.2, if_neg (by omega), if_pos ⟨rfl, rfl⟩]
    have sf := shf_s hi
    refine ⟨s_i (s_i s 129 (L + i) ((v >>> (shf i &&& 31)).toInt8.toInt32.toInt8.toInt32)) 126 3 (nI (L + (i + 1))), fun Q => ?_, fdP_s hs (by omega) rfl⟩
    rw [w_iload_n2 (M := mX12_put) dX12_put_3]
    simp [w_bipush (M := mX12_put) (v := 24) dX12_put_0 rfl, w_istore_n (M := mX12_put) (i := 2) dX12_put_2 rfl (by decide), w_if_lt (M := mX12_put) (tgt := 38) dX12_put_4 (by decide), w_aload_n0 (M := mX12_put) dX12_put_7, w_getA (M := mX12_put) dX12_put_8 f_12_16 rfl (by decide) (by decide), w_aload_n0 (M := mX12_put) dX12_put_11, w_getI (M := mX12_put) dX12_put_12 f_12_194 rfl (by decide) (by decide), w_iload_n1 (M := mX12_put) dX12_put_15, w_iload_n2 (M := mX12_put) dX12_put_16, w_ishr (M := mX12_put) dX12_put_17, w_i2b (M := mX12_put) dX12_put_18, w_bastore (M := mX12_put) dX12_put_19, w_aload_n0 (M := mX12_put) dX12_put_20, w_dup_int (M := mX12_put) dX12_put_21, w_dup_ref (M := mX12_put) dX12_put_21, w_getI (M := mX12_put) dX12_put_22 f_12_194 rfl (by decide) (by decide), w_iconst (M := mX12_put) (v := 1) dX12_put_25 rfl, w_iadd (M := mX12_put) dX12_put_26, w_putI (M := mX12_put) dX12_put_27 f_12_194 rfl (Or.inl rfl), w_iload_n2 (M := mX12_put) dX12_put_30, w_bipush (M := mX12_put) (v := 8) dX12_put_31 rfl, w_isub (M := mX12_put) dX12_put_33, w_istore_n (M := mX12_put) (i := 2) dX12_put_34 rfl (by decide), w_goto (M := mX12_put) (tgt := 3) dX12_put_35 (by decide), w_vret (M := mX12_put) dX12_put_38 rfl, Kn_v_, Kn_n_, kl_i_, kl_a_, kl_l_, kl_n_, s1_0_, s2_0_, s1_1, s1_2, s1_3, s1_4, s1_5, s1_6, s1_7, s1_8, s1_9, s1_10, s1_11, s1_12, s1_13, s1_14, s2_1, s2_2, s2_3, s2_4, s2_5, s2_6, s2_7, s2_8, s2_9, s2_10, s2_11, s2_12, s2_13, s2_14, List.map_nil, List.map_cons, List.sum_nil, List.sum_cons, ct_i_, ct_r_, ct_l_, t_si_, t_sl_, t_sr_, n_si_, n_sl_, n_sr_, i_si_, i_sl_, i_sr_, l_si_, l_sl_, l_sr_, r_si_, r_sl_, r_sr_, vr_s_, vr_n_, nz_0_, nz_1_, hRs.e, sl, sf.2.1, sf.2.2, in1_n (k := L + i) (n := 300) (by omega), show L + i < 300 by omega, nI_c (a := L + i) (by omega), nI_s, Nat.add_assoc]
  · rw [if_neg (by omega)]
    by_cases c : x = 126 ∧ j = 3
    · rw [if_pos c, c.1, c.2]; exact hL
    · rw [if_neg c]
end FEED
