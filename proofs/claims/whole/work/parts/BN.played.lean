/-! played: both sides alike -/
section PLAYED
variable {X : PX} {d : Nat} {h : am_h}
set_option maxRecDepth 20000 in
set_option maxHeartbeats 2000000 in
theorem op_played (k : Inv X h) (ol : rOl h) (s : sepH h) {v0 : Int32} : opS X (d + 9) mX11_played mX12_played [.ref 0, .int v0] [.ref 126, .int v0] h := by
  have hC0 := k.1.1
  have hR0 := k.1.2.1
  have kf := k.e
  by_cases c : inn v0 0 (a_i h 127 1 - 1) = true
  · have g1 : bt 0 (a_i h 127 1) 4 := k.2.1.1.2.2.2.2.2.1
    obtain ⟨n, n1, n2, n3⟩ := btn g1 (by omega) (by omega)
    have n4 : n ≤ 4 := by unfold bt at g1; omega
    obtain ⟨t, t1, rfl⟩ := inn_ix (n := n) (by omega) (by rw [n1] at c; exact c)
    have ht : t < 4 := by omega
    obtain ⟨r, K', A', iv, -, -, a1, a2, a3, a4, a5⟩ := play_all (X := X) (d := d) ht 24 0 (by omega) h h k ol s (by rw [n3]; exact t1) smN.refl rfl
    have sT := (shTx hC0 ht).2.2.2.2.2.2.2
    have s85 : a_r h 0 4 = some 85 ∧ a_t h 85 = (25, 4) := by simp [hC0.e]
    have e0 : (0 : Int32) = nI 0 := rfl
    have c1 : ∀ Q, Cal (d + 9) mX11_played [.ref 0, .int (nI t)] h Q = Q (some (.int r)) A' := by
      intro Q
      have z := a4 none none none Q
      unfold Cal
      rw [l_X11_played]
      simp only [am_en, am_ag, ct_i, ct_r, ct_l, List.length_cons, List.length_nil, List.replicate]
      simp [w_iload_n1 (M := mX11_played) dX11_played_0, w_iconst (M := mX11_played) (v := 0) dX11_played_1 rfl, w_aload_n0 (M := mX11_played) dX11_played_2, w_getO (M := mX11_played) dX11_played_3 f_11_10 rfl (by decide) (by decide), w_getI (M := mX11_played) dX11_played_6 f_11_162 rfl (by decide) (by decide), w_iconst (M := mX11_played) (v := 1) dX11_played_9 rfl, w_isub (M := mX11_played) dX11_played_10, c_11_56 (M := mX11_played) dX11_played_11 rfl, w_if_ne (M := mX11_played) (tgt := 25) dX11_played_14 (by decide), w_aload_n0 (M := mX11_played) dX11_played_17, w_iconst (M := mX11_played) (v := 0) dX11_played_18 rfl, w_bipush (M := mX11_played) (v := (-2)) dX11_played_19 rfl, c_11_60 (M := mX11_played) dX11_played_21 rfl, w_iret (M := mX11_played) dX11_played_24 rfl, w_aload_n0 (M := mX11_played) dX11_played_25, w_getA (M := mX11_played) dX11_played_26 f_11_37 rfl (by decide) (by decide), w_iload_n1 (M := mX11_played) dX11_played_29, w_aaload (M := mX11_played) dX11_played_30, w_astore_n (M := mX11_played) (i := 2) dX11_played_31 rfl (by decide), w_iconst (M := mX11_played) (v := 0) dX11_played_32 rfl, w_istore_n (M := mX11_played) (i := 3) dX11_played_33 rfl (by decide), Kn_v_, Kn_n_, kl_i_, kl_a_, kl_l_, kl_n_, s1_0_, s2_0_, s1_1, s1_2, s1_3, s1_4, s1_5, s1_6, s1_7, s1_8, s1_9, s1_10, s1_11, s1_12, s1_13, s1_14, s2_1, s2_2, s2_3, s2_4, s2_5, s2_6, s2_7, s2_8, s2_9, s2_10, s2_11, s2_12, s2_13, s2_14, List.map_nil, List.map_cons, List.sum_nil, List.sum_cons, ct_i_, ct_r_, ct_l_, t_si_, t_sl_, t_sr_, n_si_, n_sl_, n_sr_, i_si_, i_sl_, i_sr_, l_si_, l_sl_, l_sr_, r_si_, r_sl_, r_sr_, vr_s_, vr_n_, nz_0_, nz_1_, bI_0, bI_n, bI_t, bI_f, q_X11_within, hC0.e, kf, c, sT, in1_n (k := t) (n := 4) (by omega), ht, nI_c (a := t) (by omega), nI_p (a := t) (by omega)]
      rw [e0]
      exact Eq.to_iff z
    have o1 := Cal.old c1
    have old : ∀ q, 1000000 ≤ q → 40 ≤ (a_t A' q).1 := fun q z => by rw [(o1 q z (s.2.2.1 q z)).1]; exact s.2.2.1 q z
    have sb : smN hR h A' := fun q z => by
      by_cases q6 : 1000000 ≤ q
      · exact o1 q q6 (s.2.2.1 q q6)
      · exact a3 q (by unfold hR at z; unfold hC; omega)
    obtain ⟨B', b1, b2, b3, b4⟩ := a5 A' sb
    have hR1 := sb.sR hR0
    have i1 : a_i A' 127 1 = a_i h 127 1 := ((sb 127 (by unfold hR; omega)).2 1).1
    have c2 : ∀ Q, Cal (d + 9) mX12_played [.ref 126, .int (nI t)] A' Q = Q (some (.int r)) B' := by
      intro Q
      have z := b4 none none Q
      unfold Cal
      rw [l_X12_played]
      simp only [am_en, am_ag, ct_i, ct_r, ct_l, List.length_cons, List.length_nil, List.replicate]
      simp [w_iload_n1 (M := mX12_played) dX12_played_0, w_iconst (M := mX12_played) (v := 0) dX12_played_1 rfl, w_aload_n0 (M := mX12_played) dX12_played_2, w_getA (M := mX12_played) dX12_played_3 f_12_7 rfl (by decide) (by decide), w_iconst (M := mX12_played) (v := 1) dX12_played_6 rfl, w_iaload (M := mX12_played) dX12_played_7, w_iconst (M := mX12_played) (v := 1) dX12_played_8 rfl, w_isub (M := mX12_played) dX12_played_9, c_12_173 (M := mX12_played) dX12_played_10 rfl, w_if_ne (M := mX12_played) (tgt := 24) dX12_played_13 (by decide), w_aload_n0 (M := mX12_played) dX12_played_16, w_iconst (M := mX12_played) (v := 0) dX12_played_17 rfl, w_bipush (M := mX12_played) (v := (-2)) dX12_played_18 rfl, c_12_177 (M := mX12_played) dX12_played_20 rfl, w_iret (M := mX12_played) dX12_played_23 rfl, w_iconst (M := mX12_played) (v := 0) dX12_played_24 rfl, w_istore_n (M := mX12_played) (i := 2) dX12_played_25 rfl (by decide), Kn_v_, Kn_n_, kl_i_, kl_a_, kl_l_, kl_n_, s1_0_, s2_0_, s1_1, s1_2, s1_3, s1_4, s1_5, s1_6, s1_7, s1_8, s1_9, s1_10, s1_11, s1_12, s1_13, s1_14, s2_1, s2_2, s2_3, s2_4, s2_5, s2_6, s2_7, s2_8, s2_9, s2_10, s2_11, s2_12, s2_13, s2_14, List.map_nil, List.map_cons, List.sum_nil, List.sum_cons, ct_i_, ct_r_, ct_l_, t_si_, t_sl_, t_sr_, n_si_, n_sl_, n_sr_, i_si_, i_sl_, i_sr_, l_si_, l_sl_, l_sr_, r_si_, r_sl_, r_sr_, vr_s_, vr_n_, nz_0_, nz_1_, bI_0, bI_n, bI_t, bI_f, q_X12_in, hR1.e, am_in1, i1, c]
      rw [e0]
      exact Eq.to_iff z
    have o2 := Cal.old c2
    have sc : smN hC K' B' := fun q z => by
      obtain ⟨x1, x2⟩ := a1 q z
      have un : a_t B' q = a_t A' q ∧ ∀ j, a_i B' q j = a_i A' q j ∧ a_l B' q j = a_l A' q j ∧ a_r B' q j = a_r A' q j := by
        by_cases q6 : 1000000 ≤ q
        · exact o2 q q6 (old q q6)
        · exact b3 q (by unfold hC at z; unfold hR; omega)
      exact ⟨un.1.trans x1, fun j => ⟨(un.2 j).1.trans (x2 j).1, (un.2 j).2.1.trans (x2 j).2.1, (un.2 j).2.2.trans (x2 j).2.2⟩⟩
    have e : B' = K' := two_one sc b1 (a2.trans b2.symm)
    exact ⟨r, A', B', c1, c2, by rw [e]; exact iv⟩
  · refine opS_ref (r := 0) k (by omega) (ans := -2) (fun Q => ?_) (fun Q => ?_)
    · unfold Cal
      rw [l_X11_played]
      simp only [am_en, am_ag, ct_i, ct_r, ct_l, List.length_cons, List.length_nil, List.replicate]
      simp [w_iload_n1 (M := mX11_played) dX11_played_0, w_iconst (M := mX11_played) (v := 0) dX11_played_1 rfl, w_aload_n0 (M := mX11_played) dX11_played_2, w_getO (M := mX11_played) dX11_played_3 f_11_10 rfl (by decide) (by decide), w_getI (M := mX11_played) dX11_played_6 f_11_162 rfl (by decide) (by decide), w_iconst (M := mX11_played) (v := 1) dX11_played_9 rfl, w_isub (M := mX11_played) dX11_played_10, c_11_56 (M := mX11_played) dX11_played_11 rfl, w_if_ne (M := mX11_played) (tgt := 25) dX11_played_14 (by decide), w_aload_n0 (M := mX11_played) dX11_played_17, w_iconst (M := mX11_played) (v := 0) dX11_played_18 rfl, w_bipush (M := mX11_played) (v := (-2)) dX11_played_19 rfl, c_11_60 (M := mX11_played) dX11_played_21 rfl, w_iret (M := mX11_played) dX11_played_24 rfl, Kn_v_, Kn_n_, kl_i_, kl_a_, kl_l_, kl_n_, s1_0_, s2_0_, s1_1, s1_2, s1_3, s1_4, s1_5, s1_6, s1_7, s1_8, s1_9, s1_10, s1_11, s1_12, s1_13, s1_14, s2_1, s2_2, s2_3, s2_4, s2_5, s2_6, s2_7, s2_8, s2_9, s2_10, s2_11, s2_12, s2_13, s2_14, List.map_nil, List.map_cons, List.sum_nil, List.sum_cons, ct_i_, ct_r_, ct_l_, t_si_, t_sl_, t_sr_, n_si_, n_sl_, n_sr_, i_si_, i_sl_, i_sr_, l_si_, l_sl_, l_sr_, r_si_, r_sl_, r_sr_, vr_s_, vr_n_, nz_0_, nz_1_, bI_0, bI_n, bI_t, bI_f, q_X11_within, q_X11_refuse, hC0, hC0.e, kf, c]
    · unfold Cal
      rw [l_X12_played]
      simp only [am_en, am_ag, ct_i, ct_r, ct_l, List.length_cons, List.length_nil, List.replicate]
      simp [w_iload_n1 (M := mX12_played) dX12_played_0, w_iconst (M := mX12_played) (v := 0) dX12_played_1 rfl, w_aload_n0 (M := mX12_played) dX12_played_2, w_getA (M := mX12_played) dX12_played_3 f_12_7 rfl (by decide) (by decide), w_iconst (M := mX12_played) (v := 1) dX12_played_6 rfl, w_iaload (M := mX12_played) dX12_played_7, w_iconst (M := mX12_played) (v := 1) dX12_played_8 rfl, w_isub (M := mX12_played) dX12_played_9, c_12_173 (M := mX12_played) dX12_played_10 rfl, w_if_ne (M := mX12_played) (tgt := 24) dX12_played_13 (by decide), w_aload_n0 (M := mX12_played) dX12_played_16, w_iconst (M := mX12_played) (v := 0) dX12_played_17 rfl, w_bipush (M := mX12_played) (v := (-2)) dX12_played_18 rfl, c_12_177 (M := mX12_played) dX12_played_20 rfl, w_iret (M := mX12_played) dX12_played_23 rfl, Kn_v_, Kn_n_, kl_i_, kl_a_, kl_l_, kl_n_, s1_0_, s2_0_, s1_1, s1_2, s1_3, s1_4, s1_5, s1_6, s1_7, s1_8, s1_9, s1_10, s1_11, s1_12, s1_13, s1_14, s2_1, s2_2, s2_3, s2_4, s2_5, s2_6, s2_7, s2_8, s2_9, s2_10, s2_11, s2_12, s2_13, s2_14, List.map_nil, List.map_cons, List.sum_nil, List.sum_cons, ct_i_, ct_r_, ct_l_, t_si_, t_sl_, t_sr_, n_si_, n_sl_, n_sr_, i_si_, i_sl_, i_sr_, l_si_, l_sl_, l_sr_, r_si_, r_sl_, r_sr_, vr_s_, vr_n_, nz_0_, nz_1_, bI_0, bI_n, bI_t, bI_f, q_X12_in, q_X12_refuses, hR0, hR0.e, am_in1, c]
end PLAYED
