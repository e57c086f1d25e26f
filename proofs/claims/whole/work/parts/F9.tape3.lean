/-! the tape is split -/
section TAPE3
variable {d n : Nat} {h : am_h} {t : Nat → Nat}
theorem tkH.nil : tkH h (s_i h 86 9 0) [] := by
  refine ⟨rfl, rfl, rfl, rfl, ?_, fun p j p1 p2 p3 p4 => ?_, fun j x e => absurd e (by simp)⟩
  · exact ieq rfl rfl
  · exact if_neg p4
theorem q_X7_splitTape (z : tpC h t n) (x : txC h) : ∃ h', (∀ Q, Cal (d + 8) mX7_splitTape [.ref 86] h Q = Q none h') ∧ tkH h h' (tks t n 300 0 ++ [(0, 0, n)]) := by
  obtain ⟨H, eH⟩ : ∃ H, H = s_i h 86 9 0 := ⟨_, rfl⟩
  have K0 : tkH h H [] := by rw [eH]; exact tkH.nil
  obtain ⟨h', i', s', v', r1, r2, r3⟩ := tpl_ (d := d) z x 300 0 0 H [] none (by omega) (by omega) (by omega) (Nat.le_refl _) K0
  rw [List.nil_append] at r2 r3
  obtain ⟨hC, e1, hn, ht⟩ := r2.tp z
  have k9 := r2.2.2.2.2.1
  have hC0 := z.1
  have ad : ∀ a1 a2 a3 Q, Cal (d + 7) mX7_addToken [.ref 86, .int a1, .int a2, .int a3] h' Q = Q none (tkA h' (tks t n 300 0).length a1 a2 a3) := fun a1 a2 a3 Q => q_X7_addToken hC k9 (by omega)
  refine ⟨_, fun Q => ?_, r2.add (0, 0, n)⟩
  have s1 : Cal (d + 8) mX7_splitTape [.ref 86] h Q = WP (d + 8) mX7_splitTape 9 (tpL 0 0 none) [] H Q := by
    unfold Cal tpL
    simp only [am_en, am_ag, ct_i, ct_r, ct_l, List.length_cons, List.length_nil, List.replicate, show m_l mX7_splitTape = 4 from rfl]
    simp [w_aload_n0 (M := mX7_splitTape) dX7_splitTape_0, w_iconst (M := mX7_splitTape) (v := 0) dX7_splitTape_1 rfl, w_putI (M := mX7_splitTape) dX7_splitTape_2 f_7_58 rfl (Or.inl rfl), w_iconst (M := mX7_splitTape) (v := 0) dX7_splitTape_5 rfl, w_istore_n (M := mX7_splitTape) (i := 1) dX7_splitTape_6 rfl (by decide), w_iconst (M := mX7_splitTape) (v := 0) dX7_splitTape_7 rfl, w_istore_n (M := mX7_splitTape) (i := 2) dX7_splitTape_8 rfl (by decide), Kn_v_, Kn_n_, kl_i_, kl_a_, kl_l_, kl_n_, s1_0_, s2_0_, s1_1, s1_2, s1_3, s1_4, s1_5, s1_6, s1_7, s1_8, s1_9, s1_10, s1_11, s1_12, s1_13, s1_14, s2_1, s2_2, s2_3, s2_4, s2_5, s2_6, s2_7, s2_8, s2_9, s2_10, s2_11, s2_12, s2_13, s2_14, List.map_nil, List.map_cons, List.sum_nil, List.sum_cons, ct_i_, ct_r_, ct_l_, t_si_, t_sl_, t_sr_, n_si_, n_sl_, n_sr_, i_si_, i_sl_, i_sr_, l_si_, l_sl_, l_sr_, r_si_, r_sl_, r_sr_, vr_s_, vr_n_, nz_0_, nz_1_, hC0.e, ← eH, show nI 0 = 0 from rfl]
  rw [s1, r1]
  unfold tpL
  simp [w_aload_n0 (M := mX7_splitTape) dX7_splitTape_93, w_iconst (M := mX7_splitTape) (v := 0) dX7_splitTape_94 rfl, w_iconst (M := mX7_splitTape) (v := 0) dX7_splitTape_95 rfl, w_aload_n0 (M := mX7_splitTape) dX7_splitTape_96, w_getI (M := mX7_splitTape) dX7_splitTape_97 f_7_31 rfl (by decide) (by decide), c_7_78 (M := mX7_splitTape) dX7_splitTape_100 rfl, w_vret (M := mX7_splitTape) dX7_splitTape_103 rfl, Kn_v_, Kn_n_, kl_i_, kl_a_, kl_l_, kl_n_, s1_0_, s2_0_, s1_1, s1_2, s1_3, s1_4, s1_5, s1_6, s1_7, s1_8, s1_9, s1_10, s1_11, s1_12, s1_13, s1_14, s2_1, s2_2, s2_3, s2_4, s2_5, s2_6, s2_7, s2_8, s2_9, s2_10, s2_11, s2_12, s2_13, s2_14, List.map_nil, List.map_cons, List.sum_nil, List.sum_cons, ct_i_, ct_r_, ct_l_, t_si_, t_sl_, t_sr_, n_si_, n_sl_, n_sr_, i_si_, i_sl_, i_sr_, l_si_, l_sl_, l_sr_, r_si_, r_sl_, r_sr_, vr_s_, vr_n_, nz_0_, nz_1_, hC.e, e1, ad, show nI 0 = 0 from rfl]
end TAPE3
