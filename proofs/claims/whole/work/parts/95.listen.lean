/-! a tenth: listening, the class -/
section LISTEN
theorem sh64 : ∀ k, k < 64 → ((nI k).toInt64.toUInt64 &&& Int64.toUInt64 63) = UInt64.ofNat k := by decide +kernel
theorem ago {x : Int64} {k : Nat} (hk : k < 64) : (lg_cmp ((x.toUInt64 >>> ((nI k).toInt64.toUInt64 &&& Int64.toUInt64 63)).toInt64 &&& 1) 0 = 0) = (x.toBitVec.getLsbD k = false) := by
  rw [lc_eq, sh64 k hk]
  have hb : ((x.toUInt64 >>> UInt64.ofNat k).toInt64).toBitVec = x.toBitVec >>> k := by
    rw [UInt64.toBitVec_toInt64, UInt64.toBitVec_shiftRight, Int64.toBitVec_toUInt64, BitVec.ushiftRight_eq']
    congr 1
    show (BitVec.ofNat 64 k % 64).toNat = k
    rw [BitVec.toNat_umod, BitVec.toNat_ofNat]
    show k % 2 ^ 64 % 64 = k
    omega
  apply propext
  rw [← Int64.toBitVec_inj, Int64.toBitVec_and, hb]
  constructor
  · intro h
    have h2 := congrArg (fun b : BitVec 64 => b.getLsbD 0) h
    have h3 : (x.toBitVec.getLsbD (k + 0) && true) = false := by
      have : ((x.toBitVec >>> k &&& (1 : BitVec 64)).getLsbD 0) = false := h2
      rw [BitVec.getLsbD_and, BitVec.getLsbD_ushiftRight] at this
      exact this
    simpa using h3
  · intro h
    apply BitVec.eq_of_getLsbD_eq
    intro i hi
    rw [BitVec.getLsbD_and, BitVec.getLsbD_ushiftRight]
    show (x.toBitVec.getLsbD (k + i) && (1#64).getLsbD i) = (0#64).getLsbD i
    rw [BitVec.getLsbD_one, BitVec.getLsbD_zero]
    by_cases c : i = 0
    · subst c
      rw [Nat.add_zero, h]
      rfl
    · simp [c]
theorem shl1 {x : Int64} {b : Bool} {k : Nat} (hk : k < 64) : (x <<< (1 : Int64) ||| (if b = true then 1 else 0)).toBitVec.getLsbD k = if k = 0 then b else x.toBitVec.getLsbD (k - 1) := by
  rw [Int64.toBitVec_or]
  have e1 : (x <<< (1 : Int64)).toBitVec = x.toBitVec <<< 1 := by
    rw [Int64.toBitVec_shiftLeft]
    rfl
  rw [e1, BitVec.getLsbD_or, BitVec.getLsbD_shiftLeft]
  by_cases c : k = 0
  · subst c
    cases b <;> rfl
  · rw [if_neg c]
    have z : ((if b = true then (1 : Int64) else 0).toBitVec).getLsbD k = false := by
      cases b
      · show (0#64).getLsbD k = false
        simp
      · show (1#64).getLsbD k = false
        rw [BitVec.getLsbD_one]
        simp [c]
    rw [z]
    have c1 : ¬ k < 1 := by omega
    simp [hk, c1]
variable {d n e p f : Nat} {h : am_h} {Q : Option Value → am_h → Prop}
theorem nI_f4 {f e : Nat} (hf : f < 4) (he : e < 4) : nI f * 4 + nI e = nI (4 * f + e) := by
  rw [show (4 : Int32) = nI 4 from rfl, nI_m, nI_a, Nat.mul_comm]
set_option maxRecDepth 20000 in
theorem q_delayOf (hp : shL (a_t h) (a_r h) p) (hf : f < 4) (he : e < 4) : Cal d mX5_delayOf [.ref p, .int (nI f), .int (nI e)] h Q = Q (some (.int (a_i h (p + 1) (4 * f + e)))) h := by
  obtain ⟨p1, p2, p3, p4, p5, p6, p7, p8, p9, p10⟩ := hp
  unfold Cal
  rw [l_X5_delayOf]
  simp only [am_en, am_ag, ct_i, ct_r, ct_l, List.length_cons, List.length_nil, List.replicate]
  simp [w_aload_n0 (M := mX5_delayOf) dX5_delayOf_0, w_getA (M := mX5_delayOf) dX5_delayOf_1 f_5_15 rfl (by decide) (by decide), w_iload_n1 (M := mX5_delayOf) dX5_delayOf_4, w_iconst (M := mX5_delayOf) (v := 4) dX5_delayOf_5 rfl, w_imul (M := mX5_delayOf) dX5_delayOf_6, w_iload_n2 (M := mX5_delayOf) dX5_delayOf_7, w_iadd (M := mX5_delayOf) dX5_delayOf_8, w_iaload (M := mX5_delayOf) dX5_delayOf_9, w_iret (M := mX5_delayOf) dX5_delayOf_10 rfl, Kn_v_, Kn_n_, kl_i_, kl_a_, kl_l_, kl_n_, s1_0_, s2_0_, s1_1, s1_2, s1_3, s1_4, s1_5, s1_6, s1_7, s1_8, s1_9, s1_10, s1_11, s1_12, s1_13, s1_14, s2_1, s2_2, s2_3, s2_4, s2_5, s2_6, s2_7, s2_8, s2_9, s2_10, s2_11, s2_12, s2_13, s2_14, List.map_nil, List.map_cons, List.sum_nil, List.sum_cons, ct_i_, ct_r_, ct_l_, t_si_, t_sl_, t_sr_, n_si_, n_sl_, n_sr_, i_si_, i_sl_, i_sr_, l_si_, l_sl_, l_sr_, r_si_, r_sl_, r_sr_, vr_s_, vr_n_, nz_0_, nz_1_, p1, p7, p2, nI_f4 hf he, in1_n (k := 4 * f + e) (n := 16) (by omega), show 4 * f + e < 16 by omega, nI_c (a := 4 * f + e) (by omega)]
/-- whom it hears: those from j on -/
def gE (f : Nat → Bool) (j i : Nat) : Bool := f i && decide (j ≤ i)
theorem gE_s {f : Nat → Bool} {j : Nat} (h : f j = false) : bN (gE f j) = bN (gE f (j + 1)) ∧ low4 (gE f j) = low4 (gE f (j + 1)) := by
  have k : ∀ i, i < 4 → gE f j i = gE f (j + 1) i := by
    intro i hi
    unfold gE
    by_cases c : i = j
    · subst c; rw [h]; rfl
    · have : (j ≤ i) = (j + 1 ≤ i) := propext ⟨fun _ => by omega, fun _ => by omega⟩
      simp [this]
  exact ⟨bN_c k, low4_c k⟩
theorem gE_t {f : Nat → Bool} {j : Nat} (hj : j < 4) (h : f j = true) : nI (bN (gE f (j + 1))) ||| (1 : Int32) <<< (nI j &&& 31) = nI (bN (gE f j)) ∧ low4 (gE f j) = nI j := by
  constructor
  · rw [bN_or hj, bN_c (g := gE f j)]
    intro i hi
    unfold gE
    by_cases c : i = j
    · subst c; rw [h]; simp
    · have : (j ≤ i) = (j + 1 ≤ i) := propext ⟨fun _ => by omega, fun _ => by omega⟩
      simp [this, c]
  · refine low4_i hj ?_ ?_
    · unfold gE; rw [h]; simp
    · intro i hi
      unfold gE
      simp
      intro _
      omega
/-- an end's cell, having listened -/
def hLis (h : am_h) (q : Nat) (f : Nat → Bool) (t : Int32) : am_h := if bN f = 0 then s_i h q 4 0 else s_i (s_i (s_i h q 4 (nI (bN f))) q 5 (low4 f)) q 6 t
set_option maxRecDepth 20000 in
set_option maxHeartbeats 2000000 in
theorem q_listen (hp : shL (a_t h) (a_r h) p) (hn : n ≤ 4) (he : e < n) {H : Nat → Bool} (hd : ∀ f, f < n → ∃ k, k < 64 ∧ a_i h (p + 1) (4 * f + e) = nI k ∧ (¬ f = e → (a_l h (p + 5 + f) 13).toBitVec.getLsbD k = H f)) (hH : H e = false) (hH2 : ∀ f, n ≤ f → H f = false) : Cal (d + 1) mX5_listen [.ref p, .int (nI e), .int (nI n)] h Q = Q none (hLis h (p + 5 + e) H (a_i h p 0)) := by
  have hp' := hp
  obtain ⟨p1, p2, p3, p4, p5, p6, p7, p8, p9, p10⟩ := hp'
  have st : ∀ (i : Nat) (s : Int32 × Int32), i < n → s = (nI (bN (gE H (n - i))), low4 (gE H (n - i))) → ∃ s' : Int32 × Int32, (∀ Q, WP (d + 1) mX5_listen 10 [some (.ref p), some (.int (nI e)), some (.int (nI n)), some (.int s.1), some (.int s.2), some (.int (nI (n - i) - 1))] [] h Q = WP (d + 1) mX5_listen 10 [some (.ref p), some (.int (nI e)), some (.int (nI n)), some (.int s'.1), some (.int s'.2), some (.int (nI (n - (i + 1)) - 1))] [] h Q) ∧ s' = (nI (bN (gE H (n - (i + 1)))), low4 (gE H (n - (i + 1)))) := by
    intro i s hi hs
    subst hs
    refine ⟨_, fun Q => ?_, rfl⟩
    have j1 : n - i = n - (i + 1) + 1 := by omega
    generalize n - (i + 1) = j at j1
    rw [j1]
    have e1 : nI (j + 1) - 1 = nI j := nI_sb (b := 1) (by omega)
    have e2 : nI j + -1 = nI j - 1 := by rw [Int32.sub_eq_add_neg]
    have e3 : (nI j < 0) = False := eq_false (Int32.not_lt.mpr (nI_pos' (by omega)))
    have e4 : (nI j = nI e) = (j = e) := nI_inj (by omega) (by omega)
    obtain ⟨k, k1, k2, k3⟩ := hd j (by omega)
    obtain ⟨q1, q2⟩ := p6 j (by omega)
    have dl := fun d Q => q_delayOf (d := d) (Q := Q) hp (f := j) (e := e) (by omega) (by omega)
    rw [w_iload5 (M := mX5_listen) dX5_listen_10]
    by_cases c : j = e
    · obtain ⟨g1, g2⟩ := gE_s (f := H) (j := j) (by rw [c]; exact hH)
      subst c
      simp [w_if_lt (M := mX5_listen) (tgt := 58) dX5_listen_12 (by decide), w_iload5 (M := mX5_listen) dX5_listen_15, w_iload_n1 (M := mX5_listen) dX5_listen_17, w_ic_eq (M := mX5_listen) (tgt := 52) dX5_listen_18 (by decide), w_aload_n0 (M := mX5_listen) dX5_listen_21, w_getA (M := mX5_listen) dX5_listen_22 f_5_27 rfl (by decide) (by decide), w_iload5 (M := mX5_listen) dX5_listen_25, w_aaload (M := mX5_listen) dX5_listen_27, w_aload_n0 (M := mX5_listen) dX5_listen_28, w_iload5 (M := mX5_listen) dX5_listen_29, w_iload_n1 (M := mX5_listen) dX5_listen_31, c_5_48 (M := mX5_listen) dX5_listen_32 rfl, c_5_79 (M := mX5_listen) dX5_listen_35 rfl, w_if_eq (M := mX5_listen) (tgt := 52) dX5_listen_38 (by decide), w_iload_n3 (M := mX5_listen) dX5_listen_41, w_iconst (M := mX5_listen) (v := 1) dX5_listen_42 rfl, w_iload5 (M := mX5_listen) dX5_listen_43, w_ishl (M := mX5_listen) dX5_listen_45, w_ior (M := mX5_listen) dX5_listen_46, w_istore_n (M := mX5_listen) (i := 3) dX5_listen_47 rfl (by decide), w_iload5 (M := mX5_listen) dX5_listen_48, w_istore (M := mX5_listen) dX5_listen_50 (by decide), w_iinc5 (M := mX5_listen) (v := (-1)) dX5_listen_52 rfl (by decide), w_goto (M := mX5_listen) (tgt := 10) dX5_listen_55 (by decide), Kn_v_, Kn_n_, kl_i_, kl_a_, kl_l_, kl_n_, s1_0_, s2_0_, s1_1, s1_2, s1_3, s1_4, s1_5, s1_6, s1_7, s1_8, s1_9, s1_10, s1_11, s1_12, s1_13, s1_14, s2_1, s2_2, s2_3, s2_4, s2_5, s2_6, s2_7, s2_8, s2_9, s2_10, s2_11, s2_12, s2_13, s2_14, List.map_nil, List.map_cons, List.sum_nil, List.sum_cons, ct_i_, ct_r_, ct_l_, t_si_, t_sl_, t_sr_, n_si_, n_sl_, n_sr_, i_si_, i_sl_, i_sr_, l_si_, l_sl_, l_sr_, r_si_, r_sl_, r_sr_, vr_s_, vr_n_, nz_0_, nz_1_, e1, e2, e3, e4, g1, g2]
    · have k3 := k3 c
      cases hb : H j with
      | false =>
        obtain ⟨g1, g2⟩ := gE_s (f := H) (j := j) hb
        rw [hb] at k3
        simp [w_if_lt (M := mX5_listen) (tgt := 58) dX5_listen_12 (by decide), w_iload5 (M := mX5_listen) dX5_listen_15, w_iload_n1 (M := mX5_listen) dX5_listen_17, w_ic_eq (M := mX5_listen) (tgt := 52) dX5_listen_18 (by decide), w_aload_n0 (M := mX5_listen) dX5_listen_21, w_getA (M := mX5_listen) dX5_listen_22 f_5_27 rfl (by decide) (by decide), w_iload5 (M := mX5_listen) dX5_listen_25, w_aaload (M := mX5_listen) dX5_listen_27, w_aload_n0 (M := mX5_listen) dX5_listen_28, w_iload5 (M := mX5_listen) dX5_listen_29, w_iload_n1 (M := mX5_listen) dX5_listen_31, c_5_48 (M := mX5_listen) dX5_listen_32 rfl, c_5_79 (M := mX5_listen) dX5_listen_35 rfl, w_if_eq (M := mX5_listen) (tgt := 52) dX5_listen_38 (by decide), w_iload_n3 (M := mX5_listen) dX5_listen_41, w_iconst (M := mX5_listen) (v := 1) dX5_listen_42 rfl, w_iload5 (M := mX5_listen) dX5_listen_43, w_ishl (M := mX5_listen) dX5_listen_45, w_ior (M := mX5_listen) dX5_listen_46, w_istore_n (M := mX5_listen) (i := 3) dX5_listen_47 rfl (by decide), w_iload5 (M := mX5_listen) dX5_listen_48, w_istore (M := mX5_listen) dX5_listen_50 (by decide), w_iinc5 (M := mX5_listen) (v := (-1)) dX5_listen_52 rfl (by decide), w_goto (M := mX5_listen) (tgt := 10) dX5_listen_55 (by decide), Kn_v_, Kn_n_, kl_i_, kl_a_, kl_l_, kl_n_, s1_0_, s2_0_, s1_1, s1_2, s1_3, s1_4, s1_5, s1_6, s1_7, s1_8, s1_9, s1_10, s1_11, s1_12, s1_13, s1_14, s2_1, s2_2, s2_3, s2_4, s2_5, s2_6, s2_7, s2_8, s2_9, s2_10, s2_11, s2_12, s2_13, s2_14, List.map_nil, List.map_cons, List.sum_nil, List.sum_cons, ct_i_, ct_r_, ct_l_, t_si_, t_sl_, t_sr_, n_si_, n_sl_, n_sr_, i_si_, i_sl_, i_sr_, l_si_, l_sl_, l_sr_, r_si_, r_sl_, r_sr_, vr_s_, vr_n_, nz_0_, nz_1_, e1, e2, e3, e4, c, p1, p5, p10, q1, q2, dl, q_X3_spokeAgo, k2, ago k1, k3, in1_n (k := j) (n := 4) (by omega), show j < 4 by omega, nI_c (a := j) (by omega), g1, g2]
      | true =>
        obtain ⟨g1, g2⟩ := gE_t (f := H) (j := j) (by omega) hb
        rw [hb] at k3
        simp [w_if_lt (M := mX5_listen) (tgt := 58) dX5_listen_12 (by decide), w_iload5 (M := mX5_listen) dX5_listen_15, w_iload_n1 (M := mX5_listen) dX5_listen_17, w_ic_eq (M := mX5_listen) (tgt := 52) dX5_listen_18 (by decide), w_aload_n0 (M := mX5_listen) dX5_listen_21, w_getA (M := mX5_listen) dX5_listen_22 f_5_27 rfl (by decide) (by decide), w_iload5 (M := mX5_listen) dX5_listen_25, w_aaload (M := mX5_listen) dX5_listen_27, w_aload_n0 (M := mX5_listen) dX5_listen_28, w_iload5 (M := mX5_listen) dX5_listen_29, w_iload_n1 (M := mX5_listen) dX5_listen_31, c_5_48 (M := mX5_listen) dX5_listen_32 rfl, c_5_79 (M := mX5_listen) dX5_listen_35 rfl, w_if_eq (M := mX5_listen) (tgt := 52) dX5_listen_38 (by decide), w_iload_n3 (M := mX5_listen) dX5_listen_41, w_iconst (M := mX5_listen) (v := 1) dX5_listen_42 rfl, w_iload5 (M := mX5_listen) dX5_listen_43, w_ishl (M := mX5_listen) dX5_listen_45, w_ior (M := mX5_listen) dX5_listen_46, w_istore_n (M := mX5_listen) (i := 3) dX5_listen_47 rfl (by decide), w_iload5 (M := mX5_listen) dX5_listen_48, w_istore (M := mX5_listen) dX5_listen_50 (by decide), w_iinc5 (M := mX5_listen) (v := (-1)) dX5_listen_52 rfl (by decide), w_goto (M := mX5_listen) (tgt := 10) dX5_listen_55 (by decide), Kn_v_, Kn_n_, kl_i_, kl_a_, kl_l_, kl_n_, s1_0_, s2_0_, s1_1, s1_2, s1_3, s1_4, s1_5, s1_6, s1_7, s1_8, s1_9, s1_10, s1_11, s1_12, s1_13, s1_14, s2_1, s2_2, s2_3, s2_4, s2_5, s2_6, s2_7, s2_8, s2_9, s2_10, s2_11, s2_12, s2_13, s2_14, List.map_nil, List.map_cons, List.sum_nil, List.sum_cons, ct_i_, ct_r_, ct_l_, t_si_, t_sl_, t_sr_, n_si_, n_sl_, n_sr_, i_si_, i_sl_, i_sr_, l_si_, l_sl_, l_sr_, r_si_, r_sl_, r_sr_, vr_s_, vr_n_, nz_0_, nz_1_, e1, e2, e3, e4, c, p1, p5, p10, q1, q2, dl, q_X3_spokeAgo, k2, ago k1, k3, in1_n (k := j) (n := 4) (by omega), show j < 4 by omega, nI_c (a := j) (by omega), g1, g2]
  obtain ⟨s', a1, a2⟩ := lp (W := fun i (s : Int32 × Int32) Q => WP (d + 1) mX5_listen 10 [some (.ref p), some (.int (nI e)), some (.int (nI n)), some (.int s.1), some (.int s.2), some (.int (nI (n - i) - 1))] [] h Q) (P := fun i s => s = (nI (bN (gE H (n - i))), low4 (gE H (n - i)))) st n 0 (0, -1) (by omega) (by
    have k : ∀ i, i < 4 → gE H (n - 0) i = false := by
      intro i hi
      unfold gE
      by_cases c : n ≤ i
      · rw [hH2 i c]; rfl
      · simp [c]
    rw [bN_0 k]
    unfold low4
    rw [k 0 (by omega), k 1 (by omega), k 2 (by omega), k 3 (by omega)]
    rfl)
  have a3 := a1 Q
  subst a2
  have b0 : bN (gE H 0) = bN H := bN_c (fun i hi => by unfold gE; simp)
  have b1 : low4 (gE H 0) = low4 H := low4_c (fun i hi => by unfold gE; simp)
  simp only [b0, b1, Nat.sub_self, Nat.sub_zero] at a3
  obtain ⟨q1, q2⟩ := p6 e (by omega)
  unfold Cal
  rw [l_X5_listen]
  simp only [am_en, am_ag, ct_i, ct_r, ct_l, List.length_cons, List.length_nil, List.replicate]
  simp [w_iconst (M := mX5_listen) (v := 0) dX5_listen_0 rfl, w_istore_n (M := mX5_listen) (i := 3) dX5_listen_1 rfl (by decide), w_iconst (M := mX5_listen) (v := (-1)) dX5_listen_2 rfl, w_istore (M := mX5_listen) dX5_listen_3 (by decide), w_iload_n2 (M := mX5_listen) dX5_listen_5, w_iconst (M := mX5_listen) (v := 1) dX5_listen_6 rfl, w_isub (M := mX5_listen) dX5_listen_7, w_istore (M := mX5_listen) dX5_listen_8 (by decide), Kn_v_, Kn_n_, kl_i_, kl_a_, kl_l_, kl_n_, s1_0_, s2_0_, s1_1, s1_2, s1_3, s1_4, s1_5, s1_6, s1_7, s1_8, s1_9, s1_10, s1_11, s1_12, s1_13, s1_14, s2_1, s2_2, s2_3, s2_4, s2_5, s2_6, s2_7, s2_8, s2_9, s2_10, s2_11, s2_12, s2_13, s2_14, List.map_nil, List.map_cons, List.sum_nil, List.sum_cons, ct_i_, ct_r_, ct_l_, t_si_, t_sl_, t_sr_, n_si_, n_sl_, n_sr_, i_si_, i_sl_, i_sr_, l_si_, l_sl_, l_sr_, r_si_, r_sl_, r_sr_, vr_s_, vr_n_, nz_0_, nz_1_]
  refine Eq.to_iff (Eq.trans a3 ?_)
  rw [w_iload5 (M := mX5_listen) dX5_listen_10]
  have z1 : (nI 0 - 1 < 0) = True := eq_true (by decide)
  have z2 : (nI (bN H) = 0) = (bN H = 0) := nI_e0 (by have := bN_l (f := H); omega)
  unfold hLis
  by_cases c : bN H = 0
  · simp [w_if_lt (M := mX5_listen) (tgt := 58) dX5_listen_12 (by decide), w_iload5 (M := mX5_listen) dX5_listen_15, w_iload_n1 (M := mX5_listen) dX5_listen_17, w_ic_eq (M := mX5_listen) (tgt := 52) dX5_listen_18 (by decide), w_aload_n0 (M := mX5_listen) dX5_listen_21, w_getA (M := mX5_listen) dX5_listen_22 f_5_27 rfl (by decide) (by decide), w_iload5 (M := mX5_listen) dX5_listen_25, w_aaload (M := mX5_listen) dX5_listen_27, w_aload_n0 (M := mX5_listen) dX5_listen_28, w_iload5 (M := mX5_listen) dX5_listen_29, w_iload_n1 (M := mX5_listen) dX5_listen_31, c_5_48 (M := mX5_listen) dX5_listen_32 rfl, c_5_79 (M := mX5_listen) dX5_listen_35 rfl, w_if_eq (M := mX5_listen) (tgt := 52) dX5_listen_38 (by decide), w_iload_n3 (M := mX5_listen) dX5_listen_41, w_iconst (M := mX5_listen) (v := 1) dX5_listen_42 rfl, w_iload5 (M := mX5_listen) dX5_listen_43, w_ishl (M := mX5_listen) dX5_listen_45, w_ior (M := mX5_listen) dX5_listen_46, w_istore_n (M := mX5_listen) (i := 3) dX5_listen_47 rfl (by decide), w_iload5 (M := mX5_listen) dX5_listen_48, w_istore (M := mX5_listen) dX5_listen_50 (by decide), w_iinc5 (M := mX5_listen) (v := (-1)) dX5_listen_52 rfl (by decide), w_goto (M := mX5_listen) (tgt := 10) dX5_listen_55 (by decide), w_aload_n0 (M := mX5_listen) dX5_listen_58, w_getA (M := mX5_listen) dX5_listen_59 f_5_27 rfl (by decide) (by decide), w_iload_n1 (M := mX5_listen) dX5_listen_62, w_aaload (M := mX5_listen) dX5_listen_63, w_iload_n3 (M := mX5_listen) dX5_listen_64, w_putI (M := mX5_listen) dX5_listen_65 f_5_83 rfl (Or.inl rfl), w_iload_n3 (M := mX5_listen) dX5_listen_68, w_if_eq (M := mX5_listen) (tgt := 96) dX5_listen_69 (by decide), w_aload_n0 (M := mX5_listen) dX5_listen_72, w_getA (M := mX5_listen) dX5_listen_73 f_5_27 rfl (by decide) (by decide), w_iload_n1 (M := mX5_listen) dX5_listen_76, w_aaload (M := mX5_listen) dX5_listen_77, w_iload4 (M := mX5_listen) dX5_listen_78, w_putI (M := mX5_listen) dX5_listen_80 f_5_86 rfl (Or.inl rfl), w_aload_n0 (M := mX5_listen) dX5_listen_83, w_getA (M := mX5_listen) dX5_listen_84 f_5_27 rfl (by decide) (by decide), w_iload_n1 (M := mX5_listen) dX5_listen_87, w_aaload (M := mX5_listen) dX5_listen_88, w_aload_n0 (M := mX5_listen) dX5_listen_89, w_getI (M := mX5_listen) dX5_listen_90 f_5_32 rfl (by decide) (by decide), w_putI (M := mX5_listen) dX5_listen_93 f_5_89 rfl (Or.inl rfl), w_vret (M := mX5_listen) dX5_listen_96 rfl, Kn_v_, Kn_n_, kl_i_, kl_a_, kl_l_, kl_n_, s1_0_, s2_0_, s1_1, s1_2, s1_3, s1_4, s1_5, s1_6, s1_7, s1_8, s1_9, s1_10, s1_11, s1_12, s1_13, s1_14, s2_1, s2_2, s2_3, s2_4, s2_5, s2_6, s2_7, s2_8, s2_9, s2_10, s2_11, s2_12, s2_13, s2_14, List.map_nil, List.map_cons, List.sum_nil, List.sum_cons, ct_i_, ct_r_, ct_l_, t_si_, t_sl_, t_sr_, n_si_, n_sl_, n_sr_, i_si_, i_sl_, i_sr_, l_si_, l_sl_, l_sr_, r_si_, r_sl_, r_sr_, vr_s_, vr_n_, nz_0_, nz_1_, z1, z2, c, p1, p5, p10, q1, q2, in1_n (k := e) (n := 4) (by omega), show e < 4 by omega, nI_c (a := e) (by omega), show nI 0 = 0 from rfl]
  · simp [w_if_lt (M := mX5_listen) (tgt := 58) dX5_listen_12 (by decide), w_iload5 (M := mX5_listen) dX5_listen_15, w_iload_n1 (M := mX5_listen) dX5_listen_17, w_ic_eq (M := mX5_listen) (tgt := 52) dX5_listen_18 (by decide), w_aload_n0 (M := mX5_listen) dX5_listen_21, w_getA (M := mX5_listen) dX5_listen_22 f_5_27 rfl (by decide) (by decide), w_iload5 (M := mX5_listen) dX5_listen_25, w_aaload (M := mX5_listen) dX5_listen_27, w_aload_n0 (M := mX5_listen) dX5_listen_28, w_iload5 (M := mX5_listen) dX5_listen_29, w_iload_n1 (M := mX5_listen) dX5_listen_31, c_5_48 (M := mX5_listen) dX5_listen_32 rfl, c_5_79 (M := mX5_listen) dX5_listen_35 rfl, w_if_eq (M := mX5_listen) (tgt := 52) dX5_listen_38 (by decide), w_iload_n3 (M := mX5_listen) dX5_listen_41, w_iconst (M := mX5_listen) (v := 1) dX5_listen_42 rfl, w_iload5 (M := mX5_listen) dX5_listen_43, w_ishl (M := mX5_listen) dX5_listen_45, w_ior (M := mX5_listen) dX5_listen_46, w_istore_n (M := mX5_listen) (i := 3) dX5_listen_47 rfl (by decide), w_iload5 (M := mX5_listen) dX5_listen_48, w_istore (M := mX5_listen) dX5_listen_50 (by decide), w_iinc5 (M := mX5_listen) (v := (-1)) dX5_listen_52 rfl (by decide), w_goto (M := mX5_listen) (tgt := 10) dX5_listen_55 (by decide), w_aload_n0 (M := mX5_listen) dX5_listen_58, w_getA (M := mX5_listen) dX5_listen_59 f_5_27 rfl (by decide) (by decide), w_iload_n1 (M := mX5_listen) dX5_listen_62, w_aaload (M := mX5_listen) dX5_listen_63, w_iload_n3 (M := mX5_listen) dX5_listen_64, w_putI (M := mX5_listen) dX5_listen_65 f_5_83 rfl (Or.inl rfl), w_iload_n3 (M := mX5_listen) dX5_listen_68, w_if_eq (M := mX5_listen) (tgt := 96) dX5_listen_69 (by decide), w_aload_n0 (M := mX5_listen) dX5_listen_72, w_getA (M := mX5_listen) dX5_listen_73 f_5_27 rfl (by decide) (by decide), w_iload_n1 (M := mX5_listen) dX5_listen_76, w_aaload (M := mX5_listen) dX5_listen_77, w_iload4 (M := mX5_listen) dX5_listen_78, w_putI (M := mX5_listen) dX5_listen_80 f_5_86 rfl (Or.inl rfl), w_aload_n0 (M := mX5_listen) dX5_listen_83, w_getA (M := mX5_listen) dX5_listen_84 f_5_27 rfl (by decide) (by decide), w_iload_n1 (M := mX5_listen) dX5_listen_87, w_aaload (M := mX5_listen) dX5_listen_88, w_aload_n0 (M := mX5_listen) dX5_listen_89, w_getI (M := mX5_listen) dX5_listen_90 f_5_32 rfl (by decide) (by decide), w_putI (M := mX5_listen) dX5_listen_93 f_5_89 rfl (Or.inl rfl), w_vret (M := mX5_listen) dX5_listen_96 rfl, Kn_v_, Kn_n_, kl_i_, kl_a_, kl_l_, kl_n_, s1_0_, s2_0_, s1_1, s1_2, s1_3, s1_4, s1_5, s1_6, s1_7, s1_8, s1_9, s1_10, s1_11, s1_12, s1_13, s1_14, s2_1, s2_2, s2_3, s2_4, s2_5, s2_6, s2_7, s2_8, s2_9, s2_10, s2_11, s2_12, s2_13, s2_14, List.map_nil, List.map_cons, List.sum_nil, List.sum_cons, ct_i_, ct_r_, ct_l_, t_si_, t_sl_, t_sr_, n_si_, n_sl_, n_sr_, i_si_, i_sl_, i_sr_, l_si_, l_sl_, l_sr_, r_si_, r_sl_, r_sr_, vr_s_, vr_n_, nz_0_, nz_1_, z1, z2, c, p1, p5, p10, q1, q2, in1_n (k := e) (n := 4) (by omega), show e < 4 by omega, nI_c (a := e) (by omega), show (p = p + 5 + e) = False from eq_false (by omega)]
end LISTEN
