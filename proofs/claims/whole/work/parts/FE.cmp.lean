/-! which comparison it is -/
section CMPR
variable {d : Nat} {h : am_h} {Q : Option Value → am_h → Prop}
theorem q_X7_comparison0 (hC : sh_C (a_t h) (a_r h)) (c1 : ¬ a_i h 86 10 = 4) : Cal d mX7_comparison [.ref 86] h Q = Q (some (.int (-1))) h := by
  unfold Cal
  simp only [am_en, am_ag, ct_i, ct_r, ct_l, List.length_cons, List.length_nil, List.replicate, show m_l mX7_comparison = 1 from rfl]
  simp [w_aload_n0 (M := mX7_comparison) dX7_comparison_0, w_getI (M := mX7_comparison) dX7_comparison_1 f_7_52 rfl (by decide) (by decide), w_iconst (M := mX7_comparison) (v := 4) dX7_comparison_4 rfl, w_ic_eq (M := mX7_comparison) (tgt := 10) dX7_comparison_5 (by decide), w_iconst (M := mX7_comparison) (v := (-1)) dX7_comparison_8 rfl, w_iret (M := mX7_comparison) dX7_comparison_9 rfl, Kn_v_, Kn_n_, kl_i_, kl_a_, kl_l_, kl_n_, s1_0_, s2_0_, s1_1, s1_2, s1_3, s1_4, s1_5, s1_6, s1_7, s1_8, s1_9, s1_10, s1_11, s1_12, s1_13, s1_14, s2_1, s2_2, s2_3, s2_4, s2_5, s2_6, s2_7, s2_8, s2_9, s2_10, s2_11, s2_12, s2_13, s2_14, List.map_nil, List.map_cons, List.sum_nil, List.sum_cons, ct_i_, ct_r_, ct_l_, t_si_, t_sl_, t_sr_, n_si_, n_sl_, n_sr_, i_si_, i_sl_, i_sr_, l_si_, l_sl_, l_sr_, r_si_, r_sl_, r_sr_, vr_s_, vr_n_, nz_0_, nz_1_, hC.e, c1]
end CMPR
