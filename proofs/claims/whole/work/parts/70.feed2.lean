/-! feed, both sides -/
section FEED2
variable {X : PX} {d L : Nat} {h : am_h}
theorem fdP.o {h s : am_h} {p q r L i : Nat} {B : Nat → Int32} (k : fdP h s p q r L B i) {x j : Nat} (c1 : ¬ (x = p ∧ L ≤ j ∧ j < L + i)) (c2 : ¬ (x = q ∧ j = r)) : a_i s x j = a_i h x j := by rw [k.2.2, if_neg c1, if_neg c2]
theorem fdP.b {h s : am_h} {p q r L i : Nat} {B : Nat → Int32} (k : fdP h s p q r L B i) {j : Nat} (c1 : L ≤ j ∧ j < L + i) : a_i s p j = B (j - L) := by rw [k.2.2, if_pos ⟨rfl, c1⟩]
theorem fdP.n {h s : am_h} {p q r L i : Nat} {B : Nat → Int32} (k : fdP h s p q r L B i) (ne : ¬ q = p) : a_i s q r = nI (L + i) := by rw [k.2.2, if_neg (by omega), if_pos ⟨rfl, rfl⟩]
set_option maxRecDepth 20000 in
set_option maxHeartbeats 1000000 in
theorem op_feed (k : Inv X h) {v0 v1 v2 v3 v4 : Int32} : opS X (d + 1) mX11_feed mX12_feed [.ref 0, .int v0, .int v1, .int v2, .int v3, .int v4] [.ref 126, .int v0, .int v1, .int v2, .int v3, .int v4] h := by
  have hC := k.1.1
  have hR := k.1.2.1
  have tp := k.2.2.2.1
  have e1 : a_i h 86 1 = a_i h 126 3 := tp.1
  obtain ⟨L, l1, l2, l3⟩ := btn tp.2.1 (by omega) (by omega)
  have l4 : L ≤ 300 := by have := tp.2.1; unfold bt at this; omega
  rw [l1] at e1
  have f20 : nI L + 20 = nI (L + 20) := nI_a (b := 20)
  by_cases c : L + 20 ≤ 300
  · have f : (300 < nI (L + 20)) = False := by rw [show (300 : Int32) = nI 300 from rfl, nI_lI (by omega) (by omega)]; exact eq_false (by omega)
    obtain ⟨t0, r0, c0⟩ := q_X7_take (d := d) (v := v0) (h := h) (L := L + 0) hC e1 (by omega)
    have hC0 : sh_C (a_t t0) (a_r t0) := by rw [c0.1.1, c0.1.2.1]; exact hC
    have hR0 : sh_R (a_t t0) (a_r t0) := by rw [c0.1.1, c0.1.2.1]; exact hR
    obtain ⟨t1, r1, c1⟩ := q_X7_take (d := d) (v := v1) (h := t0) (L := L + 4) hC0 (c0.n (by omega)) (by omega)
    have hC1 : sh_C (a_t t1) (a_r t1) := by rw [c1.1.1, c1.1.2.1]; exact hC0
    have hR1 : sh_R (a_t t1) (a_r t1) := by rw [c1.1.1, c1.1.2.1]; exact hR0
    obtain ⟨t2, r2, c2⟩ := q_X7_take (d := d) (v := v2) (h := t1) (L := L + 8) hC1 (c1.n (by omega)) (by omega)
    have hC2 : sh_C (a_t t2) (a_r t2) := by rw [c2.1.1, c2.1.2.1]; exact hC1
    have hR2 : sh_R (a_t t2) (a_r t2) := by rw [c2.1.1, c2.1.2.1]; exact hR1
    obtain ⟨t3, r3, c3⟩ := q_X7_take (d := d) (v := v3) (h := t2) (L := L + 12) hC2 (c2.n (by omega)) (by omega)
    have hC3 : sh_C (a_t t3) (a_r t3) := by rw [c3.1.1, c3.1.2.1]; exact hC2
    have hR3 : sh_R (a_t t3) (a_r t3) := by rw [c3.1.1, c3.1.2.1]; exact hR2
    obtain ⟨t4, r4, c4⟩ := q_X7_take (d := d) (v := v4) (h := t3) (L := L + 16) hC3 (c3.n (by omega)) (by omega)
    have hC4 : sh_C (a_t t4) (a_r t4) := by rw [c4.1.1, c4.1.2.1]; exact hC3
    have hR4 : sh_R (a_t t4) (a_r t4) := by rw [c4.1.1, c4.1.2.1]; exact hR3
    have n3 : a_i t4 126 3 = nI L := by rw [c4.o (by omega) (by omega), c3.o (by omega) (by omega), c2.o (by omega) (by omega), c1.o (by omega) (by omega), c0.o (by omega) (by omega)]; exact l1
    obtain ⟨p0, s0, w0⟩ := q_X12_put (d := d) (v := v0) (h := t4) (L := L + 0) hR4 n3 (by omega)
    have hQ0 : sh_R (a_t p0) (a_r p0) := by rw [w0.1.1, w0.1.2.1]; exact hR4
    obtain ⟨p1, s1, w1⟩ := q_X12_put (d := d) (v := v1) (h := p0) (L := L + 4) hQ0 (w0.n (by omega)) (by omega)
    have hQ1 : sh_R (a_t p1) (a_r p1) := by rw [w1.1.1, w1.1.2.1]; exact hQ0
    obtain ⟨p2, s2, w2⟩ := q_X12_put (d := d) (v := v2) (h := p1) (L := L + 8) hQ1 (w1.n (by omega)) (by omega)
    have hQ2 : sh_R (a_t p2) (a_r p2) := by rw [w2.1.1, w2.1.2.1]; exact hQ1
    obtain ⟨p3, s3, w3⟩ := q_X12_put (d := d) (v := v3) (h := p2) (L := L + 12) hQ2 (w2.n (by omega)) (by omega)
    have hQ3 : sh_R (a_t p3) (a_r p3) := by rw [w3.1.1, w3.1.2.1]; exact hQ2
    obtain ⟨p4, s4, w4⟩ := q_X12_put (d := d) (v := v4) (h := p3) (L := L + 16) hQ3 (w3.n (by omega)) (by omega)
    have hQ4 : sh_R (a_t p4) (a_r p4) := by rw [w4.1.1, w4.1.2.1]; exact hQ3
    have cn : a_i t4 86 1 = nI (L + 20) := c4.n (by omega)
    have wn : a_i p4 126 3 = nI (L + 20) := w4.n (by omega)
    refine ⟨nI (L + 20), t4, p4, fun Q => ?_, fun Q => ?_, ?_⟩
    · unfold Cal
      rw [l_X11_feed]
      simp only [am_en, am_ag, ct_i, ct_r, ct_l, List.length_cons, List.length_nil, List.replicate]
      simp [w_aload_n0 (M := mX11_feed) dX11_feed_0, w_getO (M := mX11_feed) dX11_feed_1 f_11_44 rfl (by decide) (by decide), w_getI (M := mX11_feed) dX11_feed_4 f_11_155 rfl (by decide) (by decide), w_bipush (M := mX11_feed) (v := 20) dX11_feed_7 rfl, w_iadd (M := mX11_feed) dX11_feed_9, w_sipush (M := mX11_feed) (v := 300) dX11_feed_10 rfl, w_ic_le (M := mX11_feed) (tgt := 23) dX11_feed_13 (by decide), w_aload_n0 (M := mX11_feed) dX11_feed_16, w_iconst (M := mX11_feed) (v := 1) dX11_feed_17 rfl, w_iconst (M := mX11_feed) (v := (-1)) dX11_feed_18 rfl, c_11_60 (M := mX11_feed) dX11_feed_19 rfl, w_iret (M := mX11_feed) dX11_feed_22 rfl, w_aload_n0 (M := mX11_feed) dX11_feed_23, w_getO (M := mX11_feed) dX11_feed_24 f_11_44 rfl (by decide) (by decide), w_iload_n1 (M := mX11_feed) dX11_feed_27, c_11_158 (M := mX11_feed) dX11_feed_28 rfl, w_aload_n0 (M := mX11_feed) dX11_feed_31, w_getO (M := mX11_feed) dX11_feed_32 f_11_44 rfl (by decide) (by decide), w_iload_n2 (M := mX11_feed) dX11_feed_35, c_11_158 (M := mX11_feed) dX11_feed_36 rfl, w_aload_n0 (M := mX11_feed) dX11_feed_39, w_getO (M := mX11_feed) dX11_feed_40 f_11_44 rfl (by decide) (by decide), w_iload_n3 (M := mX11_feed) dX11_feed_43, c_11_158 (M := mX11_feed) dX11_feed_44 rfl, w_aload_n0 (M := mX11_feed) dX11_feed_47, w_getO (M := mX11_feed) dX11_feed_48 f_11_44 rfl (by decide) (by decide), w_iload4 (M := mX11_feed) dX11_feed_51, c_11_158 (M := mX11_feed) dX11_feed_53 rfl, w_aload_n0 (M := mX11_feed) dX11_feed_56, w_getO (M := mX11_feed) dX11_feed_57 f_11_44 rfl (by decide) (by decide), w_iload5 (M := mX11_feed) dX11_feed_60, c_11_158 (M := mX11_feed) dX11_feed_62 rfl, w_aload_n0 (M := mX11_feed) dX11_feed_65, w_getO (M := mX11_feed) dX11_feed_66 f_11_44 rfl (by decide) (by decide), w_getI (M := mX11_feed) dX11_feed_69 f_11_155 rfl (by decide) (by decide), w_iret (M := mX11_feed) dX11_feed_72 rfl, Kn_v_, Kn_n_, kl_i_, kl_a_, kl_l_, kl_n_, s1_0_, s2_0_, s1_1, s1_2, s1_3, s1_4, s1_5, s1_6, s1_7, s1_8, s1_9, s1_10, s1_11, s1_12, s1_13, s1_14, s2_1, s2_2, s2_3, s2_4, s2_5, s2_6, s2_7, s2_8, s2_9, s2_10, s2_11, s2_12, s2_13, s2_14, List.map_nil, List.map_cons, List.sum_nil, List.sum_cons, ct_i_, ct_r_, ct_l_, t_si_, t_sl_, t_sr_, n_si_, n_sl_, n_sr_, i_si_, i_sl_, i_sr_, l_si_, l_sl_, l_sr_, r_si_, r_sl_, r_sr_, vr_s_, vr_n_, nz_0_, nz_1_, hC.e, e1, f20, f, r0, r1, r2, r3, r4, hC0.e, hC1.e, hC2.e, hC3.e, hC4.e, cn]
    · unfold Cal
      rw [l_X12_feed]
      simp only [am_en, am_ag, ct_i, ct_r, ct_l, List.length_cons, List.length_nil, List.replicate]
      simp [w_aload_n0 (M := mX12_feed) dX12_feed_0, w_getI (M := mX12_feed) dX12_feed_1 f_12_194 rfl (by decide) (by decide), w_bipush (M := mX12_feed) (v := 20) dX12_feed_4 rfl, w_iadd (M := mX12_feed) dX12_feed_6, w_sipush (M := mX12_feed) (v := 300) dX12_feed_7 rfl, w_ic_le (M := mX12_feed) (tgt := 20) dX12_feed_10 (by decide), w_aload_n0 (M := mX12_feed) dX12_feed_13, w_iconst (M := mX12_feed) (v := 1) dX12_feed_14 rfl, w_iconst (M := mX12_feed) (v := (-1)) dX12_feed_15 rfl, c_12_177 (M := mX12_feed) dX12_feed_16 rfl, w_iret (M := mX12_feed) dX12_feed_19 rfl, w_aload_n0 (M := mX12_feed) dX12_feed_20, w_iload_n1 (M := mX12_feed) dX12_feed_21, c_12_197 (M := mX12_feed) dX12_feed_22 rfl, w_aload_n0 (M := mX12_feed) dX12_feed_25, w_iload_n2 (M := mX12_feed) dX12_feed_26, c_12_197 (M := mX12_feed) dX12_feed_27 rfl, w_aload_n0 (M := mX12_feed) dX12_feed_30, w_iload_n3 (M := mX12_feed) dX12_feed_31, c_12_197 (M := mX12_feed) dX12_feed_32 rfl, w_aload_n0 (M := mX12_feed) dX12_feed_35, w_iload4 (M := mX12_feed) dX12_feed_36, c_12_197 (M := mX12_feed) dX12_feed_38 rfl, w_aload_n0 (M := mX12_feed) dX12_feed_41, w_iload5 (M := mX12_feed) dX12_feed_42, c_12_197 (M := mX12_feed) dX12_feed_44 rfl, w_aload_n0 (M := mX12_feed) dX12_feed_47, w_getI (M := mX12_feed) dX12_feed_48 f_12_194 rfl (by decide) (by decide), w_iret (M := mX12_feed) dX12_feed_51 rfl, Kn_v_, Kn_n_, kl_i_, kl_a_, kl_l_, kl_n_, s1_0_, s2_0_, s1_1, s1_2, s1_3, s1_4, s1_5, s1_6, s1_7, s1_8, s1_9, s1_10, s1_11, s1_12, s1_13, s1_14, s2_1, s2_2, s2_3, s2_4, s2_5, s2_6, s2_7, s2_8, s2_9, s2_10, s2_11, s2_12, s2_13, s2_14, List.map_nil, List.map_cons, List.sum_nil, List.sum_cons, ct_i_, ct_r_, ct_l_, t_si_, t_sl_, t_sr_, n_si_, n_sl_, n_sr_, i_si_, i_sl_, i_sr_, l_si_, l_sl_, l_sr_, r_si_, r_sl_, r_sr_, vr_s_, vr_n_, nz_0_, nz_1_, hR4.e, n3, f20, f, s0, s1, s2, s3, s4, hQ0.e, hQ1.e, hQ2.e, hQ3.e, hQ4.e, wn]
    · have fr : ∀ q j, ¬ (86 ≤ q ∧ q ≤ 90) → ¬ q = 126 → ¬ q = 129 → a_i p4 q j = a_i h q j := by
        intro q j z1 z2 z3
        rw [w4.o (by omega) (by omega), w3.o (by omega) (by omega), w2.o (by omega) (by omega), w1.o (by omega) (by omega), w0.o (by omega) (by omega), c4.o (by omega) (by omega), c3.o (by omega) (by omega), c2.o (by omega) (by omega), c1.o (by omega) (by omega), c0.o (by omega) (by omega)]
      have pc : ∀ x j, ¬ x = 126 → ¬ x = 129 → a_i p4 x j = a_i t4 x j := by
        intro x j z1 z2
        rw [w4.o (by omega) (by omega), w3.o (by omega) (by omega), w2.o (by omega) (by omega), w1.o (by omega) (by omega), w0.o (by omega) (by omega)]
      have smA : sm h p4 := ((((((((c0.1.tr c1.1).tr c2.1).tr c3.1).tr c4.1).tr w0.1).tr w1.1).tr w2.1).tr w3.1).tr w4.1
      have lA : a_l p4 = a_l h := by rw [w4.2.1, w3.2.1, w2.2.1, w1.2.1, w0.2.1, c4.2.1, c3.2.1, c2.2.1, c1.2.1, c0.2.1]
      refine Inv_tp k smA fr lA ⟨?_, ?_, ?_, ?_, fun j hj => ?_⟩
      · rw [pc _ _ (by omega) (by omega), cn, wn]
      · rw [wn]
        unfold bt
        rw [nI_i (by omega)]
        omega
      · rw [pc _ _ (by omega) (by omega), w4.o (by omega) (by omega), w3.o (by omega) (by omega), w2.o (by omega) (by omega), w1.o (by omega) (by omega), w0.o (by omega) (by omega), c4.o (by omega) (by omega), c3.o (by omega) (by omega), c2.o (by omega) (by omega), c1.o (by omega) (by omega), c0.o (by omega) (by omega), c4.o (by omega) (by omega), c3.o (by omega) (by omega), c2.o (by omega) (by omega), c1.o (by omega) (by omega), c0.o (by omega) (by omega)]
        exact tp.2.2.1
      · rw [pc _ _ (by omega) (by omega), w4.o (by omega) (by omega), w3.o (by omega) (by omega), w2.o (by omega) (by omega), w1.o (by omega) (by omega), w0.o (by omega) (by omega), c4.o (by omega) (by omega), c3.o (by omega) (by omega), c2.o (by omega) (by omega), c1.o (by omega) (by omega), c0.o (by omega) (by omega), c4.o (by omega) (by omega), c3.o (by omega) (by omega), c2.o (by omega) (by omega), c1.o (by omega) (by omega), c0.o (by omega) (by omega)]
        exact tp.2.2.2.1
      · rw [wn, Nn_n (by omega)] at hj
        rw [pc _ _ (by omega) (by omega)]
        by_cases z0 : j < L
        · rw [w4.o (by omega) (by omega), w3.o (by omega) (by omega), w2.o (by omega) (by omega), w1.o (by omega) (by omega), w0.o (by omega) (by omega), c4.o (by omega) (by omega), c3.o (by omega) (by omega), c2.o (by omega) (by omega), c1.o (by omega) (by omega), c0.o (by omega) (by omega), c4.o (by omega) (by omega), c3.o (by omega) (by omega), c2.o (by omega) (by omega), c1.o (by omega) (by omega), c0.o (by omega) (by omega)]
          exact tp.2.2.2.2 j (by omega)
        · by_cases z1 : j < L + 4
          · rw [c4.o (by omega) (by omega), c3.o (by omega) (by omega), c2.o (by omega) (by omega), c1.o (by omega) (by omega), c0.b (by omega), w4.o (by omega) (by omega), w3.o (by omega) (by omega), w2.o (by omega) (by omega), w1.o (by omega) (by omega), w0.b (by omega)]
            exact shf_b (by omega)
          · by_cases z2 : j < L + 8
            · rw [c4.o (by omega) (by omega), c3.o (by omega) (by omega), c2.o (by omega) (by omega), c1.b (by omega), w4.o (by omega) (by omega), w3.o (by omega) (by omega), w2.o (by omega) (by omega), w1.b (by omega)]
              exact shf_b (by omega)
            · by_cases z3 : j < L + 12
              · rw [c4.o (by omega) (by omega), c3.o (by omega) (by omega), c2.b (by omega), w4.o (by omega) (by omega), w3.o (by omega) (by omega), w2.b (by omega)]
                exact shf_b (by omega)
              · by_cases z4 : j < L + 16
                · rw [c4.o (by omega) (by omega), c3.b (by omega), w4.o (by omega) (by omega), w3.b (by omega)]
                  exact shf_b (by omega)
                · rw [c4.b (by omega), w4.b (by omega)]
                  exact shf_b (by omega)
  · have f : (300 < nI (L + 20)) = True := by rw [show (300 : Int32) = nI 300 from rfl, nI_lI (by omega) (by omega)]; exact eq_true (by omega)
    refine opS_ref (r := 1) k (by omega) (ans := -1) (fun Q => ?_) (fun Q => ?_)
    · unfold Cal
      rw [l_X11_feed]
      simp only [am_en, am_ag, ct_i, ct_r, ct_l, List.length_cons, List.length_nil, List.replicate]
      simp [w_aload_n0 (M := mX11_feed) dX11_feed_0, w_getO (M := mX11_feed) dX11_feed_1 f_11_44 rfl (by decide) (by decide), w_getI (M := mX11_feed) dX11_feed_4 f_11_155 rfl (by decide) (by decide), w_bipush (M := mX11_feed) (v := 20) dX11_feed_7 rfl, w_iadd (M := mX11_feed) dX11_feed_9, w_sipush (M := mX11_feed) (v := 300) dX11_feed_10 rfl, w_ic_le (M := mX11_feed) (tgt := 23) dX11_feed_13 (by decide), w_aload_n0 (M := mX11_feed) dX11_feed_16, w_iconst (M := mX11_feed) (v := 1) dX11_feed_17 rfl, w_iconst (M := mX11_feed) (v := (-1)) dX11_feed_18 rfl, c_11_60 (M := mX11_feed) dX11_feed_19 rfl, w_iret (M := mX11_feed) dX11_feed_22 rfl, w_aload_n0 (M := mX11_feed) dX11_feed_23, w_getO (M := mX11_feed) dX11_feed_24 f_11_44 rfl (by decide) (by decide), w_iload_n1 (M := mX11_feed) dX11_feed_27, c_11_158 (M := mX11_feed) dX11_feed_28 rfl, w_aload_n0 (M := mX11_feed) dX11_feed_31, w_getO (M := mX11_feed) dX11_feed_32 f_11_44 rfl (by decide) (by decide), w_iload_n2 (M := mX11_feed) dX11_feed_35, c_11_158 (M := mX11_feed) dX11_feed_36 rfl, w_aload_n0 (M := mX11_feed) dX11_feed_39, w_getO (M := mX11_feed) dX11_feed_40 f_11_44 rfl (by decide) (by decide), w_iload_n3 (M := mX11_feed) dX11_feed_43, c_11_158 (M := mX11_feed) dX11_feed_44 rfl, w_aload_n0 (M := mX11_feed) dX11_feed_47, w_getO (M := mX11_feed) dX11_feed_48 f_11_44 rfl (by decide) (by decide), w_iload4 (M := mX11_feed) dX11_feed_51, c_11_158 (M := mX11_feed) dX11_feed_53 rfl, w_aload_n0 (M := mX11_feed) dX11_feed_56, w_getO (M := mX11_feed) dX11_feed_57 f_11_44 rfl (by decide) (by decide), w_iload5 (M := mX11_feed) dX11_feed_60, c_11_158 (M := mX11_feed) dX11_feed_62 rfl, w_aload_n0 (M := mX11_feed) dX11_feed_65, w_getO (M := mX11_feed) dX11_feed_66 f_11_44 rfl (by decide) (by decide), w_getI (M := mX11_feed) dX11_feed_69 f_11_155 rfl (by decide) (by decide), w_iret (M := mX11_feed) dX11_feed_72 rfl, Kn_v_, Kn_n_, kl_i_, kl_a_, kl_l_, kl_n_, s1_0_, s2_0_, s1_1, s1_2, s1_3, s1_4, s1_5, s1_6, s1_7, s1_8, s1_9, s1_10, s1_11, s1_12, s1_13, s1_14, s2_1, s2_2, s2_3, s2_4, s2_5, s2_6, s2_7, s2_8, s2_9, s2_10, s2_11, s2_12, s2_13, s2_14, List.map_nil, List.map_cons, List.sum_nil, List.sum_cons, ct_i_, ct_r_, ct_l_, t_si_, t_sl_, t_sr_, n_si_, n_sl_, n_sr_, i_si_, i_sl_, i_sr_, l_si_, l_sl_, l_sr_, r_si_, r_sl_, r_sr_, vr_s_, vr_n_, nz_0_, nz_1_, q_X11_refuse, hC, hC.e, e1, f20, f]
    · unfold Cal
      rw [l_X12_feed]
      simp only [am_en, am_ag, ct_i, ct_r, ct_l, List.length_cons, List.length_nil, List.replicate]
      simp [w_aload_n0 (M := mX12_feed) dX12_feed_0, w_getI (M := mX12_feed) dX12_feed_1 f_12_194 rfl (by decide) (by decide), w_bipush (M := mX12_feed) (v := 20) dX12_feed_4 rfl, w_iadd (M := mX12_feed) dX12_feed_6, w_sipush (M := mX12_feed) (v := 300) dX12_feed_7 rfl, w_ic_le (M := mX12_feed) (tgt := 20) dX12_feed_10 (by decide), w_aload_n0 (M := mX12_feed) dX12_feed_13, w_iconst (M := mX12_feed) (v := 1) dX12_feed_14 rfl, w_iconst (M := mX12_feed) (v := (-1)) dX12_feed_15 rfl, c_12_177 (M := mX12_feed) dX12_feed_16 rfl, w_iret (M := mX12_feed) dX12_feed_19 rfl, w_aload_n0 (M := mX12_feed) dX12_feed_20, w_iload_n1 (M := mX12_feed) dX12_feed_21, c_12_197 (M := mX12_feed) dX12_feed_22 rfl, w_aload_n0 (M := mX12_feed) dX12_feed_25, w_iload_n2 (M := mX12_feed) dX12_feed_26, c_12_197 (M := mX12_feed) dX12_feed_27 rfl, w_aload_n0 (M := mX12_feed) dX12_feed_30, w_iload_n3 (M := mX12_feed) dX12_feed_31, c_12_197 (M := mX12_feed) dX12_feed_32 rfl, w_aload_n0 (M := mX12_feed) dX12_feed_35, w_iload4 (M := mX12_feed) dX12_feed_36, c_12_197 (M := mX12_feed) dX12_feed_38 rfl, w_aload_n0 (M := mX12_feed) dX12_feed_41, w_iload5 (M := mX12_feed) dX12_feed_42, c_12_197 (M := mX12_feed) dX12_feed_44 rfl, w_aload_n0 (M := mX12_feed) dX12_feed_47, w_getI (M := mX12_feed) dX12_feed_48 f_12_194 rfl (by decide) (by decide), w_iret (M := mX12_feed) dX12_feed_51 rfl, Kn_v_, Kn_n_, kl_i_, kl_a_, kl_l_, kl_n_, s1_0_, s2_0_, s1_1, s1_2, s1_3, s1_4, s1_5, s1_6, s1_7, s1_8, s1_9, s1_10, s1_11, s1_12, s1_13, s1_14, s2_1, s2_2, s2_3, s2_4, s2_5, s2_6, s2_7, s2_8, s2_9, s2_10, s2_11, s2_12, s2_13, s2_14, List.map_nil, List.map_cons, List.sum_nil, List.sum_cons, ct_i_, ct_r_, ct_l_, t_si_, t_sl_, t_sr_, n_si_, n_sl_, n_sr_, i_si_, i_sl_, i_sr_, l_si_, l_sl_, l_sr_, r_si_, r_sl_, r_sr_, vr_s_, vr_n_, nz_0_, nz_1_, q_X12_refuses, hR, hR.e, l1, f20, f, i_si_, i_sl_, i_sr_, t_si_, t_sl_, t_sr_, r_si_, r_sl_, l_si_, n_si_, n_sl_]
end FEED2
