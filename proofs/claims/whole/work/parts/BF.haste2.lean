/-! haste: both sides alike -/
section HASTE2
variable {X : PX} {d : Nat} {h : am_h}
set_option maxRecDepth 20000 in
set_option maxHeartbeats 4000000 in
theorem op_haste (k : Inv X h) (ol : rOl h) {v0 v1 v2 : Int32} : opS X (d + 4) mX11_haste mX12_haste [.ref 0, .int v0, .int v1, .int v2] [.ref 126, .int v0, .int v1, .int v2] h := by
  have hC := k.1.1
  have hR := k.1.2.1
  have kf := k.e
  obtain ⟨n, e1, e2, e3⟩ := k.N
  by_cases c : inn v0 0 (a_i h 127 0 - 1) = true ∧ inn v1 0 (a_i h 127 0 - 1) = true ∧ ¬ v0 = v1
  · obtain ⟨c0, c1, c2⟩ := c
    obtain ⟨a, a1, rfl⟩ := inn_ix (n := n) (by omega) (by rw [e1] at c0; exact c0)
    obtain ⟨b, b1, rfl⟩ := inn_ix (n := n) (by omega) (by rw [e1] at c1; exact c1)
    obtain ⟨T, V, lb⟩ := LB_ex k ol (w := 4) (by omega)
    have n0 : near (s_r h 91 0 (rlO (a_i h 127))) h := near_0 _
    obtain ⟨g, eg⟩ : ∃ g, g = a_i h 127 := ⟨_, rfl⟩
    rw [← eg] at lb n0
    obtain ⟨hb, ehb⟩ : ∃ hb, hb = s_r h 91 0 (rlO g) := ⟨_, rfl⟩
    rw [← ehb] at lb n0
    obtain ⟨h1, o, o', p1, p2, p3⟩ := c_hasteL (d := d) lb (show a < 4 by omega) (show b < 4 by omega) (v2 := v2) n0
    obtain ⟨h2, o6, o7, q1, q2⟩ := r_hasteL (d := d) lb (show a < 4 by omega) (show b < 4 by omega) (v2 := v2) p2 p3
    have t90 := lb.2.2.2.2.1
    have tT := lb.2.2.2.2.2.1
    obtain ⟨k1, hC1, hR1, i1, bg1, -, -⟩ := lb.at p2
    obtain ⟨k2, hC2, hR2, i2, bg2, -, -⟩ := lb.at q2
    refine ⟨itr (FZ g T a b v2 V) 0 T 0, h1, h2, fun Q => ?_, fun Q => ?_, k2⟩
    · have p1' := p1 Q
      unfold Cal
      rw [l_X11_haste]
      simp only [am_en, am_ag, ct_i, ct_r, ct_l, List.length_cons, List.length_nil, List.replicate]
      have fin : WP (d + 4) mX11_haste 17 [some (.ref 0), some (.int (nI a)), some (.int (nI b)), some (.int v2), some (.int (itr (FZ g T a b v2 V) 0 T 0)), some (.int (nI T)), o, o'] [] h1 Q = Q (some (.int (itr (FZ g T a b v2 V) 0 T 0))) h1 := by
        rw [w_iload5 (M := mX11_haste) dX11_haste_17]
        simp [w_aload_n0 (M := mX11_haste) dX11_haste_19, w_getO (M := mX11_haste) dX11_haste_20 f_11_10 rfl (by decide) (by decide), w_getO (M := mX11_haste) dX11_haste_23 f_11_82 rfl (by decide) (by decide), w_getI (M := mX11_haste) dX11_haste_26 f_11_111 rfl (by decide) (by decide), w_ic_ge (M := mX11_haste) (tgt := 160) dX11_haste_29 (by decide), w_iload4 (M := mX11_haste) dX11_haste_160, w_iret (M := mX11_haste) dX11_haste_162 rfl, Kn_v_, Kn_n_, kl_i_, kl_a_, kl_l_, kl_n_, s1_0_, s2_0_, s1_1, s1_2, s1_3, s1_4, s1_5, s1_6, s1_7, s1_8, s1_9, s1_10, s1_11, s1_12, s1_13, s1_14, s2_1, s2_2, s2_3, s2_4, s2_5, s2_6, s2_7, s2_8, s2_9, s2_10, s2_11, s2_12, s2_13, s2_14, List.map_nil, List.map_cons, List.sum_nil, List.sum_cons, ct_i_, ct_r_, ct_l_, t_si_, t_sl_, t_sr_, n_si_, n_sl_, n_sr_, i_si_, i_sl_, i_sr_, l_si_, l_sl_, l_sr_, r_si_, r_sl_, r_sr_, vr_s_, vr_n_, nz_0_, nz_1_, hC1.e, bg1.2.1, show (nI T < nI T) = False from nI_ltF (Nat.le_refl _) (by omega)]
      have t2 := fun d Q => q_X11_areTwoEnds (d := d) (Q := Q) (v0 := nI a) (v1 := nI b) (eq_true hC)
      simp only [kf, c0, c1, c2, if_true, if_false] at t2
      simp [w_aload_n0 (M := mX11_haste) dX11_haste_0, w_iload_n1 (M := mX11_haste) dX11_haste_1, w_iload_n2 (M := mX11_haste) dX11_haste_2, c_11_88 (M := mX11_haste) dX11_haste_3 rfl, w_if_ne (M := mX11_haste) (tgt := 11) dX11_haste_6 (by decide), w_iconst (M := mX11_haste) (v := (-1)) dX11_haste_9 rfl, w_iret (M := mX11_haste) dX11_haste_10 rfl, w_iconst (M := mX11_haste) (v := 0) dX11_haste_11 rfl, w_istore (M := mX11_haste) dX11_haste_12 (by decide), w_iconst (M := mX11_haste) (v := 0) dX11_haste_14 rfl, w_istore (M := mX11_haste) dX11_haste_15 (by decide), Kn_v_, Kn_n_, kl_i_, kl_a_, kl_l_, kl_n_, s1_0_, s2_0_, s1_1, s1_2, s1_3, s1_4, s1_5, s1_6, s1_7, s1_8, s1_9, s1_10, s1_11, s1_12, s1_13, s1_14, s2_1, s2_2, s2_3, s2_4, s2_5, s2_6, s2_7, s2_8, s2_9, s2_10, s2_11, s2_12, s2_13, s2_14, List.map_nil, List.map_cons, List.sum_nil, List.sum_cons, ct_i_, ct_r_, ct_l_, t_si_, t_sl_, t_sr_, n_si_, n_sl_, n_sr_, i_si_, i_sl_, i_sr_, l_si_, l_sl_, l_sr_, r_si_, r_sl_, r_sr_, vr_s_, vr_n_, nz_0_, nz_1_, hC.e, t2]
      refine Eq.to_iff (Eq.trans p1' fin)
    · have q1' := q1 Q
      unfold Cal
      rw [l_X12_haste]
      simp only [am_en, am_ag, ct_i, ct_r, ct_l, List.length_cons, List.length_nil, List.replicate]
      have fin : WP (d + 4) mX12_haste 29 [some (.ref 126), some (.int (nI a)), some (.int (nI b)), some (.int v2), some (.int (itr (FZ g T a b v2 V) 0 T 0)), some (.int (nI T)), o6, o7] [] h2 Q = Q (some (.int (itr (FZ g T a b v2 V) 0 T 0))) h2 := by
        rw [w_iload5 (M := mX12_haste) dX12_haste_29]
        simp [w_aload_n0 (M := mX12_haste) dX12_haste_31, w_getA (M := mX12_haste) dX12_haste_32 f_12_7 rfl (by decide) (by decide), w_sipush (M := mX12_haste) (v := 165) dX12_haste_35 rfl, w_iaload (M := mX12_haste) dX12_haste_38, w_ic_ge (M := mX12_haste) (tgt := 152) dX12_haste_39 (by decide), w_iload4 (M := mX12_haste) dX12_haste_152, w_iret (M := mX12_haste) dX12_haste_154 rfl, Kn_v_, Kn_n_, kl_i_, kl_a_, kl_l_, kl_n_, s1_0_, s2_0_, s1_1, s1_2, s1_3, s1_4, s1_5, s1_6, s1_7, s1_8, s1_9, s1_10, s1_11, s1_12, s1_13, s1_14, s2_1, s2_2, s2_3, s2_4, s2_5, s2_6, s2_7, s2_8, s2_9, s2_10, s2_11, s2_12, s2_13, s2_14, List.map_nil, List.map_cons, List.sum_nil, List.sum_cons, ct_i_, ct_r_, ct_l_, t_si_, t_sl_, t_sr_, n_si_, n_sl_, n_sr_, i_si_, i_sl_, i_sr_, l_si_, l_sl_, l_sr_, r_si_, r_sl_, r_sr_, vr_s_, vr_n_, nz_0_, nz_1_, hR2.e, am_in1, i2, tT, show (nI T < nI T) = False from nI_ltF (Nat.le_refl _) (by omega)]
      have i1h : a_i h1 127 0 = a_i h 127 0 := by rw [i1, eg]
      simp [w_aload_n0 (M := mX12_haste) dX12_haste_0, w_iload_n1 (M := mX12_haste) dX12_haste_1, c_12_185 (M := mX12_haste) dX12_haste_2 rfl, w_if_eq (M := mX12_haste) (tgt := 21) dX12_haste_5 (by decide), w_aload_n0 (M := mX12_haste) dX12_haste_8, w_iload_n2 (M := mX12_haste) dX12_haste_9, c_12_185 (M := mX12_haste) dX12_haste_10 rfl, w_if_eq (M := mX12_haste) (tgt := 21) dX12_haste_13 (by decide), w_iload_n1 (M := mX12_haste) dX12_haste_16, w_iload_n2 (M := mX12_haste) dX12_haste_17, w_ic_ne (M := mX12_haste) (tgt := 23) dX12_haste_18 (by decide), w_iconst (M := mX12_haste) (v := (-1)) dX12_haste_21 rfl, w_iret (M := mX12_haste) dX12_haste_22 rfl, w_iconst (M := mX12_haste) (v := 0) dX12_haste_23 rfl, w_istore (M := mX12_haste) dX12_haste_24 (by decide), w_iconst (M := mX12_haste) (v := 0) dX12_haste_26 rfl, w_istore (M := mX12_haste) dX12_haste_27 (by decide), Kn_v_, Kn_n_, kl_i_, kl_a_, kl_l_, kl_n_, s1_0_, s2_0_, s1_1, s1_2, s1_3, s1_4, s1_5, s1_6, s1_7, s1_8, s1_9, s1_10, s1_11, s1_12, s1_13, s1_14, s2_1, s2_2, s2_3, s2_4, s2_5, s2_6, s2_7, s2_8, s2_9, s2_10, s2_11, s2_12, s2_13, s2_14, List.map_nil, List.map_cons, List.sum_nil, List.sum_cons, ct_i_, ct_r_, ct_l_, t_si_, t_sl_, t_sr_, n_si_, n_sl_, n_sr_, i_si_, i_sl_, i_sr_, l_si_, l_sl_, l_sr_, r_si_, r_sl_, r_sr_, vr_s_, vr_n_, nz_0_, nz_1_, bI_0, bI_n, bI_t, bI_f, q_X12_isEnd, hR1, hR1.e, i1h, c0, c1, c2]
      refine Eq.to_iff (Eq.trans q1' fin)
  · refine op0 k (-1) (fun Q => ?_) (fun Q => ?_)
    · unfold Cal
      rw [l_X11_haste]
      simp only [am_en, am_ag, ct_i, ct_r, ct_l, List.length_cons, List.length_nil, List.replicate]
      by_cases c0 : inn v0 0 (a_i h 127 0 - 1) = true <;> by_cases c1 : inn v1 0 (a_i h 127 0 - 1) = true <;> by_cases c2 : v0 = v1 <;> simp [c0, c1, c2] at c <;> simp [w_aload_n0 (M := mX11_haste) dX11_haste_0, w_iload_n1 (M := mX11_haste) dX11_haste_1, w_iload_n2 (M := mX11_haste) dX11_haste_2, c_11_88 (M := mX11_haste) dX11_haste_3 rfl, w_if_ne (M := mX11_haste) (tgt := 11) dX11_haste_6 (by decide), w_iconst (M := mX11_haste) (v := (-1)) dX11_haste_9 rfl, w_iret (M := mX11_haste) dX11_haste_10 rfl, Kn_v_, Kn_n_, kl_i_, kl_a_, kl_l_, kl_n_, s1_0_, s2_0_, s1_1, s1_2, s1_3, s1_4, s1_5, s1_6, s1_7, s1_8, s1_9, s1_10, s1_11, s1_12, s1_13, s1_14, s2_1, s2_2, s2_3, s2_4, s2_5, s2_6, s2_7, s2_8, s2_9, s2_10, s2_11, s2_12, s2_13, s2_14, List.map_nil, List.map_cons, List.sum_nil, List.sum_cons, ct_i_, ct_r_, ct_l_, t_si_, t_sl_, t_sr_, n_si_, n_sl_, n_sr_, i_si_, i_sl_, i_sr_, l_si_, l_sl_, l_sr_, r_si_, r_sl_, r_sr_, vr_s_, vr_n_, nz_0_, nz_1_, bI_0, bI_n, bI_t, bI_f, q_X11_areTwoEnds, hC, hC.e, kf, c0, c1, c2]
    · unfold Cal
      rw [l_X12_haste]
      simp only [am_en, am_ag, ct_i, ct_r, ct_l, List.length_cons, List.length_nil, List.replicate]
      by_cases c0 : inn v0 0 (a_i h 127 0 - 1) = true <;> by_cases c1 : inn v1 0 (a_i h 127 0 - 1) = true <;> by_cases c2 : v0 = v1 <;> simp [c0, c1, c2] at c <;> simp [w_aload_n0 (M := mX12_haste) dX12_haste_0, w_iload_n1 (M := mX12_haste) dX12_haste_1, c_12_185 (M := mX12_haste) dX12_haste_2 rfl, w_if_eq (M := mX12_haste) (tgt := 21) dX12_haste_5 (by decide), w_aload_n0 (M := mX12_haste) dX12_haste_8, w_iload_n2 (M := mX12_haste) dX12_haste_9, c_12_185 (M := mX12_haste) dX12_haste_10 rfl, w_if_eq (M := mX12_haste) (tgt := 21) dX12_haste_13 (by decide), w_iload_n1 (M := mX12_haste) dX12_haste_16, w_iload_n2 (M := mX12_haste) dX12_haste_17, w_ic_ne (M := mX12_haste) (tgt := 23) dX12_haste_18 (by decide), w_iconst (M := mX12_haste) (v := (-1)) dX12_haste_21 rfl, w_iret (M := mX12_haste) dX12_haste_22 rfl, w_iconst (M := mX12_haste) (v := 0) dX12_haste_23 rfl, w_istore (M := mX12_haste) dX12_haste_24 (by decide), w_iconst (M := mX12_haste) (v := 0) dX12_haste_26 rfl, w_istore (M := mX12_haste) dX12_haste_27 (by decide), Kn_v_, Kn_n_, kl_i_, kl_a_, kl_l_, kl_n_, s1_0_, s2_0_, s1_1, s1_2, s1_3, s1_4, s1_5, s1_6, s1_7, s1_8, s1_9, s1_10, s1_11, s1_12, s1_13, s1_14, s2_1, s2_2, s2_3, s2_4, s2_5, s2_6, s2_7, s2_8, s2_9, s2_10, s2_11, s2_12, s2_13, s2_14, List.map_nil, List.map_cons, List.sum_nil, List.sum_cons, ct_i_, ct_r_, ct_l_, t_si_, t_sl_, t_sr_, n_si_, n_sl_, n_sr_, i_si_, i_sl_, i_sr_, l_si_, l_sl_, l_sr_, r_si_, r_sl_, r_sr_, vr_s_, vr_n_, nz_0_, nz_1_, bI_0, bI_n, bI_t, bI_f, q_X12_isEnd, hR, hR.e, c0, c1, c2]
end HASTE2
