/-! two fresh ends: change, settled -/
section PAIR3
variable {d : Nat} {y : am_h} {q e o n no nr T u : Nat} {bg en kd bo eo ko : Nat → Nat} {m : FMo}
set_option maxRecDepth 20000 in
set_option maxHeartbeats 2000000 in
theorem q_X6_isJudgedTo (sP : shP (a_t y) (a_r y) q) (he : e < 2) (D : rPD y q e n bg en kd) {x : Nat} (hx : x ≤ 2000) (pu : a_i y (q + 14) e = nI u) (hu : u ≤ n) : ∃ b : Bool, (∀ Q, Cal d mX6_isJudgedTo [.ref q, .int (nI e), .int (nI x)] y Q = Q (some (.int (bI b))) y) ∧ (b = true ↔ u = n ∨ x ≤ bg u) := by
  obtain ⟨D1, D2, D3, D4⟩ := D
  obtain ⟨w1, w2, w3, w4, w5, w6⟩ := sP.2.2.2.2.2.2.2.2.2.2.1 e he
  have g1 : (nI u < nI n) = (u < n) := nI_lI (by omega) (by omega)
  unfold shP at sP
  by_cases c : u = n
  · refine ⟨true, fun Q => ?_, fun _ => Or.inl c, fun _ => rfl⟩
    have c' : ¬ u < n := by omega
    unfold Cal
    rw [l_X6_isJudgedTo]
    simp only [am_en, am_ag, ct_i, ct_r, ct_l, List.length_cons, List.length_nil, List.replicate]
    simp [w_aload_n0 (M := mX6_isJudgedTo) dX6_isJudgedTo_0, w_getA (M := mX6_isJudgedTo) dX6_isJudgedTo_1 f_6_35 rfl (by decide) (by decide), w_iload_n1 (M := mX6_isJudgedTo) dX6_isJudgedTo_4, w_iaload (M := mX6_isJudgedTo) dX6_isJudgedTo_5, w_aload_n0 (M := mX6_isJudgedTo) dX6_isJudgedTo_6, w_getA (M := mX6_isJudgedTo) dX6_isJudgedTo_7 f_6_29 rfl (by decide) (by decide), w_iload_n1 (M := mX6_isJudgedTo) dX6_isJudgedTo_10, w_iaload (M := mX6_isJudgedTo) dX6_isJudgedTo_11, w_ic_ge (M := mX6_isJudgedTo) (tgt := 32) dX6_isJudgedTo_12 (by decide), w_aload_n0 (M := mX6_isJudgedTo) dX6_isJudgedTo_15, w_getA (M := mX6_isJudgedTo) dX6_isJudgedTo_16 f_6_20 rfl (by decide) (by decide), w_iload_n1 (M := mX6_isJudgedTo) dX6_isJudgedTo_19, w_aaload (M := mX6_isJudgedTo) dX6_isJudgedTo_20, w_aload_n0 (M := mX6_isJudgedTo) dX6_isJudgedTo_21, w_getA (M := mX6_isJudgedTo) dX6_isJudgedTo_22 f_6_35 rfl (by decide) (by decide), w_iload_n1 (M := mX6_isJudgedTo) dX6_isJudgedTo_25, w_iaload (M := mX6_isJudgedTo) dX6_isJudgedTo_26, w_iaload (M := mX6_isJudgedTo) dX6_isJudgedTo_27, w_iload_n2 (M := mX6_isJudgedTo) dX6_isJudgedTo_28, w_ic_lt (M := mX6_isJudgedTo) (tgt := 36) dX6_isJudgedTo_29 (by decide), w_iconst (M := mX6_isJudgedTo) (v := 1) dX6_isJudgedTo_32 rfl, w_goto (M := mX6_isJudgedTo) (tgt := 37) dX6_isJudgedTo_33 (by decide), w_iconst (M := mX6_isJudgedTo) (v := 0) dX6_isJudgedTo_36 rfl, w_ireturn (M := mX6_isJudgedTo) dX6_isJudgedTo_37 rfl, Kn_v_, Kn_n_, kl_i_, kl_a_, kl_l_, kl_n_, s1_0_, s2_0_, s1_1, s1_2, s1_3, s1_4, s1_5, s1_6, s1_7, s1_8, s1_9, s1_10, s1_11, s1_12, s1_13, s1_14, s2_1, s2_2, s2_3, s2_4, s2_5, s2_6, s2_7, s2_8, s2_9, s2_10, s2_11, s2_12, s2_13, s2_14, List.map_nil, List.map_cons, List.sum_nil, List.sum_cons, ct_i_, ct_r_, ct_l_, t_si_, t_sl_, t_sr_, n_si_, n_sl_, n_sr_, i_si_, i_sl_, i_sr_, l_si_, l_sl_, l_sr_, r_si_, r_sl_, r_sr_, vr_s_, vr_n_, nz_0_, nz_1_, sP, in1_n (k := e) (n := 2) (by omega), he, nI_c (a := e) (by omega), D3, pu, g1, c', bI_t]
  · obtain ⟨z1, z2, z3, z4, z5⟩ := D4 u (by omega)
    have c' : u < n := by omega
    have g2 : (nI (bg u) < nI x) = (bg u < x) := nI_lI (by omega) (by omega)
    by_cases c2 : bg u < x
    · refine ⟨false, fun Q => ?_, fun h => (by cases h), fun h => by omega⟩
      unfold Cal
      rw [l_X6_isJudgedTo]
      simp only [am_en, am_ag, ct_i, ct_r, ct_l, List.length_cons, List.length_nil, List.replicate]
      simp [w_aload_n0 (M := mX6_isJudgedTo) dX6_isJudgedTo_0, w_getA (M := mX6_isJudgedTo) dX6_isJudgedTo_1 f_6_35 rfl (by decide) (by decide), w_iload_n1 (M := mX6_isJudgedTo) dX6_isJudgedTo_4, w_iaload (M := mX6_isJudgedTo) dX6_isJudgedTo_5, w_aload_n0 (M := mX6_isJudgedTo) dX6_isJudgedTo_6, w_getA (M := mX6_isJudgedTo) dX6_isJudgedTo_7 f_6_29 rfl (by decide) (by decide), w_iload_n1 (M := mX6_isJudgedTo) dX6_isJudgedTo_10, w_iaload (M := mX6_isJudgedTo) dX6_isJudgedTo_11, w_ic_ge (M := mX6_isJudgedTo) (tgt := 32) dX6_isJudgedTo_12 (by decide), w_aload_n0 (M := mX6_isJudgedTo) dX6_isJudgedTo_15, w_getA (M := mX6_isJudgedTo) dX6_isJudgedTo_16 f_6_20 rfl (by decide) (by decide), w_iload_n1 (M := mX6_isJudgedTo) dX6_isJudgedTo_19, w_aaload (M := mX6_isJudgedTo) dX6_isJudgedTo_20, w_aload_n0 (M := mX6_isJudgedTo) dX6_isJudgedTo_21, w_getA (M := mX6_isJudgedTo) dX6_isJudgedTo_22 f_6_35 rfl (by decide) (by decide), w_iload_n1 (M := mX6_isJudgedTo) dX6_isJudgedTo_25, w_iaload (M := mX6_isJudgedTo) dX6_isJudgedTo_26, w_iaload (M := mX6_isJudgedTo) dX6_isJudgedTo_27, w_iload_n2 (M := mX6_isJudgedTo) dX6_isJudgedTo_28, w_ic_lt (M := mX6_isJudgedTo) (tgt := 36) dX6_isJudgedTo_29 (by decide), w_iconst (M := mX6_isJudgedTo) (v := 1) dX6_isJudgedTo_32 rfl, w_goto (M := mX6_isJudgedTo) (tgt := 37) dX6_isJudgedTo_33 (by decide), w_iconst (M := mX6_isJudgedTo) (v := 0) dX6_isJudgedTo_36 rfl, w_ireturn (M := mX6_isJudgedTo) dX6_isJudgedTo_37 rfl, Kn_v_, Kn_n_, kl_i_, kl_a_, kl_l_, kl_n_, s1_0_, s2_0_, s1_1, s1_2, s1_3, s1_4, s1_5, s1_6, s1_7, s1_8, s1_9, s1_10, s1_11, s1_12, s1_13, s1_14, s2_1, s2_2, s2_3, s2_4, s2_5, s2_6, s2_7, s2_8, s2_9, s2_10, s2_11, s2_12, s2_13, s2_14, List.map_nil, List.map_cons, List.sum_nil, List.sum_cons, ct_i_, ct_r_, ct_l_, t_si_, t_sl_, t_sr_, n_si_, n_sl_, n_sr_, i_si_, i_sl_, i_sr_, l_si_, l_sl_, l_sr_, r_si_, r_sl_, r_sr_, vr_s_, vr_n_, nz_0_, nz_1_, sP, in1_n (k := e) (n := 2) (by omega), he, nI_c (a := e) (by omega), D3, pu, g1, c', w1, w4, in1_n (k := u) (n := 1001) (by omega), show u < 1001 by omega, nI_c (a := u) (by omega), z3, g2, c2, bI_f]
    · refine ⟨true, fun Q => ?_, fun _ => Or.inr (by omega), fun _ => rfl⟩
      unfold Cal
      rw [l_X6_isJudgedTo]
      simp only [am_en, am_ag, ct_i, ct_r, ct_l, List.length_cons, List.length_nil, List.replicate]
      simp [w_aload_n0 (M := mX6_isJudgedTo) dX6_isJudgedTo_0, w_getA (M := mX6_isJudgedTo) dX6_isJudgedTo_1 f_6_35 rfl (by decide) (by decide), w_iload_n1 (M := mX6_isJudgedTo) dX6_isJudgedTo_4, w_iaload (M := mX6_isJudgedTo) dX6_isJudgedTo_5, w_aload_n0 (M := mX6_isJudgedTo) dX6_isJudgedTo_6, w_getA (M := mX6_isJudgedTo) dX6_isJudgedTo_7 f_6_29 rfl (by decide) (by decide), w_iload_n1 (M := mX6_isJudgedTo) dX6_isJudgedTo_10, w_iaload (M := mX6_isJudgedTo) dX6_isJudgedTo_11, w_ic_ge (M := mX6_isJudgedTo) (tgt := 32) dX6_isJudgedTo_12 (by decide), w_aload_n0 (M := mX6_isJudgedTo) dX6_isJudgedTo_15, w_getA (M := mX6_isJudgedTo) dX6_isJudgedTo_16 f_6_20 rfl (by decide) (by decide), w_iload_n1 (M := mX6_isJudgedTo) dX6_isJudgedTo_19, w_aaload (M := mX6_isJudgedTo) dX6_isJudgedTo_20, w_aload_n0 (M := mX6_isJudgedTo) dX6_isJudgedTo_21, w_getA (M := mX6_isJudgedTo) dX6_isJudgedTo_22 f_6_35 rfl (by decide) (by decide), w_iload_n1 (M := mX6_isJudgedTo) dX6_isJudgedTo_25, w_iaload (M := mX6_isJudgedTo) dX6_isJudgedTo_26, w_iaload (M := mX6_isJudgedTo) dX6_isJudgedTo_27, w_iload_n2 (M := mX6_isJudgedTo) dX6_isJudgedTo_28, w_ic_lt (M := mX6_isJudgedTo) (tgt := 36) dX6_isJudgedTo_29 (by decide), w_iconst (M := mX6_isJudgedTo) (v := 1) dX6_isJudgedTo_32 rfl, w_goto (M := mX6_isJudgedTo) (tgt := 37) dX6_isJudgedTo_33 (by decide), w_iconst (M := mX6_isJudgedTo) (v := 0) dX6_isJudgedTo_36 rfl, w_ireturn (M := mX6_isJudgedTo) dX6_isJudgedTo_37 rfl, Kn_v_, Kn_n_, kl_i_, kl_a_, kl_l_, kl_n_, s1_0_, s2_0_, s1_1, s1_2, s1_3, s1_4, s1_5, s1_6, s1_7, s1_8, s1_9, s1_10, s1_11, s1_12, s1_13, s1_14, s2_1, s2_2, s2_3, s2_4, s2_5, s2_6, s2_7, s2_8, s2_9, s2_10, s2_11, s2_12, s2_13, s2_14, List.map_nil, List.map_cons, List.sum_nil, List.sum_cons, ct_i_, ct_r_, ct_l_, t_si_, t_sl_, t_sr_, n_si_, n_sl_, n_sr_, i_si_, i_sl_, i_sr_, l_si_, l_sl_, l_sr_, r_si_, r_sl_, r_sr_, vr_s_, vr_n_, nz_0_, nz_1_, sP, in1_n (k := e) (n := 2) (by omega), he, nI_c (a := e) (by omega), D3, pu, g1, c', w1, w4, in1_n (k := u) (n := 1001) (by omega), show u < 1001 by omega, nI_c (a := u) (by omega), z3, g2, c2, bI_t]
set_option maxRecDepth 20000 in
set_option maxHeartbeats 2000000 in
theorem q_X6_isSettled (sP : shP (a_t y) (a_r y) q) {n0 n1 u0 u1 b : Nat} {b0 e0 k0 b1 e1 k1 : Nat → Nat} (D0 : rPD y q 0 n0 b0 e0 k0) (D1 : rPD y q 1 n1 b1 e1 k1) (p0 : a_i y (q + 14) 0 = nI u0) (p1 : a_i y (q + 14) 1 = nI u1) (h0 : u0 ≤ n0) (h1 : u1 ≤ n1) (hb : b ≤ 2000) (pb : a_i y q 10 = bsB b) : ∃ r : Bool, (∀ Q, Cal (d + 1) mX6_isSettled [.ref q] y Q = Q (some (.int (bI r))) y) ∧ (r = true → ¬ b = 0 ∧ (u0 = n0 ∨ b - 1 ≤ b0 u0) ∧ (u1 = n1 ∨ b - 1 ≤ b1 u1)) := by
  have sP2 := sP
  unfold shP at sP2
  by_cases c : b = 0
  · rw [c, bsB_0] at pb
    refine ⟨false, fun Q => ?_, fun h => (by cases h)⟩
    unfold Cal
    rw [l_X6_isSettled]
    simp only [am_en, am_ag, ct_i, ct_r, ct_l, List.length_cons, List.length_nil, List.replicate]
    simp [w_aload_n0 (M := mX6_isSettled) dX6_isSettled_0, w_getI (M := mX6_isSettled) dX6_isSettled_1 f_6_55 rfl (by decide) (by decide), w_iconst (M := mX6_isSettled) (v := (-1)) dX6_isSettled_4 rfl, w_ic_eq (M := mX6_isSettled) (tgt := 36) dX6_isSettled_5 (by decide), w_aload_n0 (M := mX6_isSettled) dX6_isSettled_8, w_iconst (M := mX6_isSettled) (v := 0) dX6_isSettled_9 rfl, w_aload_n0 (M := mX6_isSettled) dX6_isSettled_10, w_getI (M := mX6_isSettled) dX6_isSettled_11 f_6_55 rfl (by decide) (by decide), c_6_101 (M := mX6_isSettled) dX6_isSettled_14 rfl, w_if_eq (M := mX6_isSettled) (tgt := 36) dX6_isSettled_17 (by decide), w_aload_n0 (M := mX6_isSettled) dX6_isSettled_20, w_iconst (M := mX6_isSettled) (v := 1) dX6_isSettled_21 rfl, w_aload_n0 (M := mX6_isSettled) dX6_isSettled_22, w_getI (M := mX6_isSettled) dX6_isSettled_23 f_6_55 rfl (by decide) (by decide), c_6_101 (M := mX6_isSettled) dX6_isSettled_26 rfl, w_if_eq (M := mX6_isSettled) (tgt := 36) dX6_isSettled_29 (by decide), w_iconst (M := mX6_isSettled) (v := 1) dX6_isSettled_32 rfl, w_goto (M := mX6_isSettled) (tgt := 37) dX6_isSettled_33 (by decide), w_iconst (M := mX6_isSettled) (v := 0) dX6_isSettled_36 rfl, w_ireturn (M := mX6_isSettled) dX6_isSettled_37 rfl, Kn_v_, Kn_n_, kl_i_, kl_a_, kl_l_, kl_n_, s1_0_, s2_0_, s1_1, s1_2, s1_3, s1_4, s1_5, s1_6, s1_7, s1_8, s1_9, s1_10, s1_11, s1_12, s1_13, s1_14, s2_1, s2_2, s2_3, s2_4, s2_5, s2_6, s2_7, s2_8, s2_9, s2_10, s2_11, s2_12, s2_13, s2_14, List.map_nil, List.map_cons, List.sum_nil, List.sum_cons, ct_i_, ct_r_, ct_l_, t_si_, t_sl_, t_sr_, n_si_, n_sl_, n_sr_, i_si_, i_sl_, i_sr_, l_si_, l_sl_, l_sr_, r_si_, r_sl_, r_sr_, vr_s_, vr_n_, nz_0_, nz_1_, sP2, pb, bI_f]
  · rw [bsB_n c] at pb
    have g1 : (nI (b - 1) = -1) = False := nI_n1 (by omega)
    obtain ⟨r0, a0, a1⟩ := q_X6_isJudgedTo (d := d) sP (e := 0) (by omega) D0 (x := b - 1) (by omega) p0 h0
    obtain ⟨r1, c0, c1⟩ := q_X6_isJudgedTo (d := d) sP (e := 1) (by omega) D1 (x := b - 1) (by omega) p1 h1
    rw [show nI 0 = 0 from rfl] at a0
    rw [show nI 1 = 1 from rfl] at c0
    refine ⟨r0 && r1, fun Q => ?_, fun h => ?_⟩
    · unfold Cal
      rw [l_X6_isSettled]
      simp only [am_en, am_ag, ct_i, ct_r, ct_l, List.length_cons, List.length_nil, List.replicate]
      cases r0 <;> cases r1 <;> simp [w_aload_n0 (M := mX6_isSettled) dX6_isSettled_0, w_getI (M := mX6_isSettled) dX6_isSettled_1 f_6_55 rfl (by decide) (by decide), w_iconst (M := mX6_isSettled) (v := (-1)) dX6_isSettled_4 rfl, w_ic_eq (M := mX6_isSettled) (tgt := 36) dX6_isSettled_5 (by decide), w_aload_n0 (M := mX6_isSettled) dX6_isSettled_8, w_iconst (M := mX6_isSettled) (v := 0) dX6_isSettled_9 rfl, w_aload_n0 (M := mX6_isSettled) dX6_isSettled_10, w_getI (M := mX6_isSettled) dX6_isSettled_11 f_6_55 rfl (by decide) (by decide), c_6_101 (M := mX6_isSettled) dX6_isSettled_14 rfl, w_if_eq (M := mX6_isSettled) (tgt := 36) dX6_isSettled_17 (by decide), w_aload_n0 (M := mX6_isSettled) dX6_isSettled_20, w_iconst (M := mX6_isSettled) (v := 1) dX6_isSettled_21 rfl, w_aload_n0 (M := mX6_isSettled) dX6_isSettled_22, w_getI (M := mX6_isSettled) dX6_isSettled_23 f_6_55 rfl (by decide) (by decide), c_6_101 (M := mX6_isSettled) dX6_isSettled_26 rfl, w_if_eq (M := mX6_isSettled) (tgt := 36) dX6_isSettled_29 (by decide), w_iconst (M := mX6_isSettled) (v := 1) dX6_isSettled_32 rfl, w_goto (M := mX6_isSettled) (tgt := 37) dX6_isSettled_33 (by decide), w_iconst (M := mX6_isSettled) (v := 0) dX6_isSettled_36 rfl, w_ireturn (M := mX6_isSettled) dX6_isSettled_37 rfl, Kn_v_, Kn_n_, kl_i_, kl_a_, kl_l_, kl_n_, s1_0_, s2_0_, s1_1, s1_2, s1_3, s1_4, s1_5, s1_6, s1_7, s1_8, s1_9, s1_10, s1_11, s1_12, s1_13, s1_14, s2_1, s2_2, s2_3, s2_4, s2_5, s2_6, s2_7, s2_8, s2_9, s2_10, s2_11, s2_12, s2_13, s2_14, List.map_nil, List.map_cons, List.sum_nil, List.sum_cons, ct_i_, ct_r_, ct_l_, t_si_, t_sl_, t_sr_, n_si_, n_sl_, n_sr_, i_si_, i_sl_, i_sr_, l_si_, l_sl_, l_sr_, r_si_, r_sl_, r_sr_, vr_s_, vr_n_, nz_0_, nz_1_, sP2, pb, g1, a0, c0, bI_f, bI_t]
    · rw [Bool.and_eq_true] at h
      exact ⟨c, a1.mp h.1, c1.mp h.2⟩
set_option maxRecDepth 20000 in
set_option maxHeartbeats 2000000 in
theorem q_X6_change_b (sP : shP (a_t y) (a_r y) q) (he : e < 2) (D : rPD y q e n bg en kd) (hn : n ≤ 1000) (z : ¬ en (n - 1) = 0) {v : Int32} {Q : Option Value → am_h → Prop} : Cal (d + 1) mX6_change [.ref q, .int (nI e), .int v] y Q = Q none (s_i (s_i (s_i (s_i y (q + 4 + e) n v) (q + 7 + e) n (-1)) (q + 10 + e) n 0) (q + 12) e (nI (n + 1))) := by
  have k1 : ∀ Q, Cal d mX6_isSpeaking [.ref q, .int (nI e)] y Q = Q (some (.int 0)) y := fun Q => by
    rw [q_X6_isSpeaking sP he D, decide_eq_false z]; rfl
  have k2 : ∀ Q, Cal d mX6_begin [.ref q, .int (nI e), .int v] y Q = Q none (s_i (s_i (s_i (s_i y (q + 4 + e) n v) (q + 7 + e) n (-1)) (q + 10 + e) n 0) (q + 12) e (nI (n + 1))) := fun Q => q_X6_begin sP he hn D.2.2.1
  unfold Cal
  rw [l_X6_change]
  simp only [am_en, am_ag, ct_i, ct_r, ct_l, List.length_cons, List.length_nil, List.replicate]
  unfold shP at sP
  simp [w_aload_n0 (M := mX6_change) dX6_change_0, w_iload_n1 (M := mX6_change) dX6_change_1, c_6_81 (M := mX6_change) dX6_change_2 rfl, w_if_ne (M := mX6_change) (tgt := 15) dX6_change_5 (by decide), w_aload_n0 (M := mX6_change) dX6_change_8, w_iload_n1 (M := mX6_change) dX6_change_9, w_iload_n2 (M := mX6_change) dX6_change_10, c_6_58 (M := mX6_change) dX6_change_11 rfl, w_vret (M := mX6_change) dX6_change_14 rfl, w_aload_n0 (M := mX6_change) dX6_change_15, w_getA (M := mX6_change) dX6_change_16 f_6_29 rfl (by decide) (by decide), w_iload_n1 (M := mX6_change) dX6_change_19, w_iaload (M := mX6_change) dX6_change_20, w_iconst (M := mX6_change) (v := 1) dX6_change_21 rfl, w_isub (M := mX6_change) dX6_change_22, w_istore_n (M := mX6_change) (i := 3) dX6_change_23 rfl (by decide), w_aload_n0 (M := mX6_change) dX6_change_24, w_getA (M := mX6_change) dX6_change_25 f_6_26 rfl (by decide) (by decide), w_iload_n1 (M := mX6_change) dX6_change_28, w_aaload (M := mX6_change) dX6_change_29, w_iload_n3 (M := mX6_change) dX6_change_30, w_aload_n0 (M := mX6_change) dX6_change_31, w_iload_n1 (M := mX6_change) dX6_change_32, c_6_85 (M := mX6_change) dX6_change_33 rfl, w_iload_n2 (M := mX6_change) dX6_change_36, w_ic_ne (M := mX6_change) (tgt := 44) dX6_change_37 (by decide), w_iconst (M := mX6_change) (v := 2) dX6_change_40 rfl, w_goto (M := mX6_change) (tgt := 45) dX6_change_41 (by decide), w_iconst (M := mX6_change) (v := 1) dX6_change_44 rfl, w_iastore (M := mX6_change) dX6_change_45, w_aload_n0 (M := mX6_change) dX6_change_46, w_getA (M := mX6_change) dX6_change_47 f_6_23 rfl (by decide) (by decide), w_iload_n1 (M := mX6_change) dX6_change_50, w_aaload (M := mX6_change) dX6_change_51, w_iload_n3 (M := mX6_change) dX6_change_52, w_iload_n2 (M := mX6_change) dX6_change_53, w_iastore (M := mX6_change) dX6_change_54, w_vret (M := mX6_change) dX6_change_55 rfl, Kn_v_, Kn_n_, kl_i_, kl_a_, kl_l_, kl_n_, s1_0_, s2_0_, s1_1, s1_2, s1_3, s1_4, s1_5, s1_6, s1_7, s1_8, s1_9, s1_10, s1_11, s1_12, s1_13, s1_14, s2_1, s2_2, s2_3, s2_4, s2_5, s2_6, s2_7, s2_8, s2_9, s2_10, s2_11, s2_12, s2_13, s2_14, List.map_nil, List.map_cons, List.sum_nil, List.sum_cons, ct_i_, ct_r_, ct_l_, t_si_, t_sl_, t_sr_, n_si_, n_sl_, n_sr_, i_si_, i_sl_, i_sr_, l_si_, l_sl_, l_sr_, r_si_, r_sl_, r_sr_, vr_s_, vr_n_, nz_0_, nz_1_, sP, k1, k2]
set_option maxRecDepth 20000 in
set_option maxHeartbeats 2000000 in
theorem q_X6_change_e (sP : shP (a_t y) (a_r y) q) (he : e < 2) (eo' : o = 1 - e) (De : rPD y q e n bg en kd) (D : rPD y q o no bo eo ko) (z : en (n - 1) = 0) {S lg : Nat} (hS : S ≤ 99) (hl : lg ≤ 61) (pS : a_i y q 3 = nI S) (pl : a_i y (q + 2) o = nI lg) (pn : a_i y (q + 13) e = nI nr) (hn : nr ≤ no) (hT : T ≤ 1000) {Q : Option Value → am_h → Prop} : Cal (d + 1) mX6_change [.ref q, .int (nI e), .int (nI T)] y Q = Q none (s_i (s_i y (q + 10 + e) (n - 1) (nI (if yIn S lg no nr bo = T then 2 else 1))) (q + 7 + e) (n - 1) (nI T)) := by
  have k1 : ∀ Q, Cal d mX6_isSpeaking [.ref q, .int (nI e)] y Q = Q (some (.int 1)) y := fun Q => by
    rw [q_X6_isSpeaking sP he De, decide_eq_true z]; rfl
  have k2 : ∀ Q, Cal d mX6_yieldsIn [.ref q, .int (nI e)] y Q = Q (some (.int (nI (yIn S lg no nr bo)))) y := fun Q => q_X6_yieldsIn sP he eo' D hS hl pS pl pn hn
  obtain ⟨D1, D2, D3, D4⟩ := De
  obtain ⟨w1, w2, w3, w4, w5, w6⟩ := sP.2.2.2.2.2.2.2.2.2.2.1 e he
  have yb : yIn S lg no nr bo ≤ 2000 := by
    unfold yIn
    split
    · omega
    · have := (D.2.2.2 nr (by omega)).1; omega
  have g1 : (nI (yIn S lg no nr bo) = nI T) = (yIn S lg no nr bo = T) := nI_inj (by omega) (by omega)
  have g2 : nI n - 1 = nI (n - 1) := nI_sb (b := 1) D1
  unfold Cal
  rw [l_X6_change]
  simp only [am_en, am_ag, ct_i, ct_r, ct_l, List.length_cons, List.length_nil, List.replicate]
  unfold shP at sP
  by_cases c : yIn S lg no nr bo = T
  · rw [if_pos c]
    rw [c] at k2 g1
    simp [w_aload_n0 (M := mX6_change) dX6_change_0, w_iload_n1 (M := mX6_change) dX6_change_1, c_6_81 (M := mX6_change) dX6_change_2 rfl, w_if_ne (M := mX6_change) (tgt := 15) dX6_change_5 (by decide), w_aload_n0 (M := mX6_change) dX6_change_8, w_iload_n1 (M := mX6_change) dX6_change_9, w_iload_n2 (M := mX6_change) dX6_change_10, c_6_58 (M := mX6_change) dX6_change_11 rfl, w_vret (M := mX6_change) dX6_change_14 rfl, w_aload_n0 (M := mX6_change) dX6_change_15, w_getA (M := mX6_change) dX6_change_16 f_6_29 rfl (by decide) (by decide), w_iload_n1 (M := mX6_change) dX6_change_19, w_iaload (M := mX6_change) dX6_change_20, w_iconst (M := mX6_change) (v := 1) dX6_change_21 rfl, w_isub (M := mX6_change) dX6_change_22, w_istore_n (M := mX6_change) (i := 3) dX6_change_23 rfl (by decide), w_aload_n0 (M := mX6_change) dX6_change_24, w_getA (M := mX6_change) dX6_change_25 f_6_26 rfl (by decide) (by decide), w_iload_n1 (M := mX6_change) dX6_change_28, w_aaload (M := mX6_change) dX6_change_29, w_iload_n3 (M := mX6_change) dX6_change_30, w_aload_n0 (M := mX6_change) dX6_change_31, w_iload_n1 (M := mX6_change) dX6_change_32, c_6_85 (M := mX6_change) dX6_change_33 rfl, w_iload_n2 (M := mX6_change) dX6_change_36, w_ic_ne (M := mX6_change) (tgt := 44) dX6_change_37 (by decide), w_iconst (M := mX6_change) (v := 2) dX6_change_40 rfl, w_goto (M := mX6_change) (tgt := 45) dX6_change_41 (by decide), w_iconst (M := mX6_change) (v := 1) dX6_change_44 rfl, w_iastore (M := mX6_change) dX6_change_45, w_aload_n0 (M := mX6_change) dX6_change_46, w_getA (M := mX6_change) dX6_change_47 f_6_23 rfl (by decide) (by decide), w_iload_n1 (M := mX6_change) dX6_change_50, w_aaload (M := mX6_change) dX6_change_51, w_iload_n3 (M := mX6_change) dX6_change_52, w_iload_n2 (M := mX6_change) dX6_change_53, w_iastore (M := mX6_change) dX6_change_54, w_vret (M := mX6_change) dX6_change_55 rfl, Kn_v_, Kn_n_, kl_i_, kl_a_, kl_l_, kl_n_, s1_0_, s2_0_, s1_1, s1_2, s1_3, s1_4, s1_5, s1_6, s1_7, s1_8, s1_9, s1_10, s1_11, s1_12, s1_13, s1_14, s2_1, s2_2, s2_3, s2_4, s2_5, s2_6, s2_7, s2_8, s2_9, s2_10, s2_11, s2_12, s2_13, s2_14, List.map_nil, List.map_cons, List.sum_nil, List.sum_cons, ct_i_, ct_r_, ct_l_, t_si_, t_sl_, t_sr_, n_si_, n_sl_, n_sr_, i_si_, i_sl_, i_sr_, l_si_, l_sl_, l_sr_, r_si_, r_sl_, r_sr_, vr_s_, vr_n_, nz_0_, nz_1_, sP, k1, k2, in1_n (k := e) (n := 2) (by omega), he, nI_c (a := e) (by omega), D3, g2, w2, w3, w5, w6, in1_n (k := n - 1) (n := 1001) (by omega), show n - 1 < 1001 by omega, nI_c (a := n - 1) (by omega)]
    exact Iff.rfl
  · rw [if_neg c]
    simp [w_aload_n0 (M := mX6_change) dX6_change_0, w_iload_n1 (M := mX6_change) dX6_change_1, c_6_81 (M := mX6_change) dX6_change_2 rfl, w_if_ne (M := mX6_change) (tgt := 15) dX6_change_5 (by decide), w_aload_n0 (M := mX6_change) dX6_change_8, w_iload_n1 (M := mX6_change) dX6_change_9, w_iload_n2 (M := mX6_change) dX6_change_10, c_6_58 (M := mX6_change) dX6_change_11 rfl, w_vret (M := mX6_change) dX6_change_14 rfl, w_aload_n0 (M := mX6_change) dX6_change_15, w_getA (M := mX6_change) dX6_change_16 f_6_29 rfl (by decide) (by decide), w_iload_n1 (M := mX6_change) dX6_change_19, w_iaload (M := mX6_change) dX6_change_20, w_iconst (M := mX6_change) (v := 1) dX6_change_21 rfl, w_isub (M := mX6_change) dX6_change_22, w_istore_n (M := mX6_change) (i := 3) dX6_change_23 rfl (by decide), w_aload_n0 (M := mX6_change) dX6_change_24, w_getA (M := mX6_change) dX6_change_25 f_6_26 rfl (by decide) (by decide), w_iload_n1 (M := mX6_change) dX6_change_28, w_aaload (M := mX6_change) dX6_change_29, w_iload_n3 (M := mX6_change) dX6_change_30, w_aload_n0 (M := mX6_change) dX6_change_31, w_iload_n1 (M := mX6_change) dX6_change_32, c_6_85 (M := mX6_change) dX6_change_33 rfl, w_iload_n2 (M := mX6_change) dX6_change_36, w_ic_ne (M := mX6_change) (tgt := 44) dX6_change_37 (by decide), w_iconst (M := mX6_change) (v := 2) dX6_change_40 rfl, w_goto (M := mX6_change) (tgt := 45) dX6_change_41 (by decide), w_iconst (M := mX6_change) (v := 1) dX6_change_44 rfl, w_iastore (M := mX6_change) dX6_change_45, w_aload_n0 (M := mX6_change) dX6_change_46, w_getA (M := mX6_change) dX6_change_47 f_6_23 rfl (by decide) (by decide), w_iload_n1 (M := mX6_change) dX6_change_50, w_aaload (M := mX6_change) dX6_change_51, w_iload_n3 (M := mX6_change) dX6_change_52, w_iload_n2 (M := mX6_change) dX6_change_53, w_iastore (M := mX6_change) dX6_change_54, w_vret (M := mX6_change) dX6_change_55 rfl, Kn_v_, Kn_n_, kl_i_, kl_a_, kl_l_, kl_n_, s1_0_, s2_0_, s1_1, s1_2, s1_3, s1_4, s1_5, s1_6, s1_7, s1_8, s1_9, s1_10, s1_11, s1_12, s1_13, s1_14, s2_1, s2_2, s2_3, s2_4, s2_5, s2_6, s2_7, s2_8, s2_9, s2_10, s2_11, s2_12, s2_13, s2_14, List.map_nil, List.map_cons, List.sum_nil, List.sum_cons, ct_i_, ct_r_, ct_l_, t_si_, t_sl_, t_sr_, n_si_, n_sl_, n_sr_, i_si_, i_sl_, i_sr_, l_si_, l_sl_, l_sr_, r_si_, r_sl_, r_sr_, vr_s_, vr_n_, nz_0_, nz_1_, sP, k1, k2, in1_n (k := e) (n := 2) (by omega), he, nI_c (a := e) (by omega), D3, g1, g2, c, w2, w3, w5, w6, in1_n (k := n - 1) (n := 1001) (by omega), show n - 1 < 1001 by omega, nI_c (a := n - 1) (by omega)]
    exact Iff.rfl
theorem bsJ.bx {b b' : Nat} (k : bsJ m e n u bg en b) (l : ¬ b = 0 → ¬ b' = 0 ∧ b' ≤ b) : bsJ m e n u bg en b' := ⟨k.1, k.2.1, fun i hi c => by
  have a := k.2.2 i hi c
  have := l a.1
  omega⟩
theorem bsJ.enx {b v : Nat} (k : bsJ m e n u bg en b) (z : en (n - 1) = 0) : bsJ m e n u bg (un en (n - 1) v) b := ⟨k.1, fun i hi => by
  have a := k.2.1 i hi
  by_cases c : i = n - 1
  · rw [c] at a; exact absurd z a
  · rw [unn c]; exact a, k.2.2⟩
theorem bsJ.bgx {b v : Nat} (k : bsJ m e n u bg en b) : bsJ m e (n + 1) u (un bg n v) (un en n 0) b := ⟨by have := k.1; omega, fun i hi => by
  have := k.1
  rw [unn (by omega)]; exact k.2.1 i hi, fun i hi c => by
  have := k.1
  rw [unn (by omega)] at c ⊢
  exact k.2.2 i hi c⟩
theorem bsE.tx {b T' : Nat} (k : bsE m T b) (h : T ≤ T') : bsE m T' b := fun c => ⟨by have := (k c).1; omega, (k c).2⟩
def cntE (n : Nat) (en : Nat → Nat) : Nat := (n - 1) + (if en (n - 1) = 0 then n - 1 else n)
theorem stD.cnt (k : stD m e T n bg en kd) : n ≤ T + 1 ∧ cntE n en ≤ 2 * T + 1 := by
  obtain ⟨s, s1, s2, D⟩ := k.D
  have n1 := D.1
  have a := D.ge (n - 1) (by omega)
  have b := (D.2.2.1 (n - 1) (by omega)).1
  have : n ≤ T + 1 := by omega
  refine ⟨this, ?_⟩
  unfold cntE
  split <;> omega
end PAIR3
