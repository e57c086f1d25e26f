/-! the law's beginning -/
section ENTER
variable {h0 : am_h} {d n : Nat} {Q : Option Value → am_h → Prop}
theorem cHp_0 (z : a_n h0 = 0) : cHp h0 [] = h0 := by
  have hn : ∀ q : Nat, ¬ q < ([] : List CLs).length := fun q => Nat.not_lt_zero q
  refine hext (Prod.ext z.symm (by show a_z h0 + 0 = a_z h0; omega)) (funext fun q => ?_) (fun q j => ?_) (fun q j => ?_) (fun q j => ?_)
  · rw [cHp_t, if_neg (hn q)]
  · rw [cHp_i, if_neg (hn q)]
  · rw [cHp_l, if_neg (hn q)]
  · rw [cHp_r, if_neg (hn q)]
theorem ent1 (z : a_n h0 = 0) : s_nw h0 11 8 = cG h0 [] (nwC 11 8) [] := by
  have := cH_nw (h0 := h0) (C := []) (t := 11) (z := 8)
  rw [cHp_0 z] at this
  exact this
theorem ent2 : Cal (d + 3) mX11_init [.ref 0] (cG h0 [] (nwC 11 8) []) Q = Q none (cHp h0 (tMain 0)) := kq_X11_init (h0 := h0) (C := []) (by show 0 < 770000; omega)
theorem ent3 : s_nw (cHp h0 (tMain 0)) 12 78 = cG h0 (tMain 0) (nwC 12 78) [] := cH_nw
theorem ent4 : Cal d mX12_init [.ref 126] (cG h0 (tMain 0) (nwC 12 78) []) Q = WP d mX12_init 457 [some (.ref 126), some (.int 4)] [] (hS h0) Q := by
  have := kq_X12_pre (d := d) (h0 := h0) (C := tMain 0) (Q := Q) (by rw [ln_tMain]; omega)
  rw [ln_tMain] at this
  exact this
theorem ent5 : Cal (d + 1) mX12_init [.ref 126] (cG h0 (tMain 0) (nwC 12 78) []) Q = Q none (h1S h0) := by
  rw [ent4]
  obtain ⟨H, eH⟩ : ∃ H, H = hS h0 := ⟨_, rfl⟩
  have sR : sh_R (a_t H) (a_r H) := by rw [eH]; exact hS_shR
  have t0 := sR.1
  have e1 : h1S h0 = s_w H 128 (CP (a_i H 127) (a_i H 128)) := by rw [eH]; rfl
  rw [e1, ← eH]
  have cc : ∀ Q, Cal d mX12_copies [.ref 126, .int 1] H Q = Q none (s_w H 128 (CP (a_i H 127) (a_i H 128))) := fun Q => q_X12_copies_t (eq_true sR)
  simp [w_aload_n0 (M := mX12_init) dX12_init_457, w_iconst (M := mX12_init) (v := 1) dX12_init_458 rfl, c_12_169 (M := mX12_init) dX12_init_459 rfl, w_vret (M := mX12_init) dX12_init_462 rfl, Kn_v_, Kn_n_, kl_i_, kl_a_, kl_l_, kl_n_, s1_0_, s2_0_, s1_1, s1_2, s1_3, s1_4, s1_5, s1_6, s1_7, s1_8, s1_9, s1_10, s1_11, s1_12, s1_13, s1_14, s2_1, s2_2, s2_3, s2_4, s2_5, s2_6, s2_7, s2_8, s2_9, s2_10, s2_11, s2_12, s2_13, s2_14, List.map_nil, List.map_cons, List.sum_nil, List.sum_cons, ct_i_, ct_r_, ct_l_, t_si_, t_sl_, t_sr_, n_si_, n_sl_, n_sr_, i_si_, i_sl_, i_sr_, l_si_, l_sl_, l_sr_, r_si_, r_sl_, r_sr_, vr_s_, vr_n_, nz_0_, nz_1_, t0, cc]
theorem lw_enter (z : a_n h0 = 0) : WP 101 mL_law 0 [some (.ref 1000000), none, none, none] [] h0 Q = WP 101 mL_law 18 (lwL 0) [] (h1S h0) Q := by
  obtain ⟨H1, e1⟩ : ∃ H, H = cG h0 [] (nwC 11 8) [] := ⟨_, rfl⟩
  have f1 : s_nw h0 11 8 = H1 := (ent1 z).trans e1.symm
  obtain ⟨H2, e2⟩ : ∃ H, H = cHp h0 (tMain 0) := ⟨_, rfl⟩
  have f2 : ∀ Q, Cal 100 mX11_init [.ref 0] H1 Q = Q none H2 := fun Q => by rw [e1, e2]; exact ent2 (d := 97)
  have n2 : a_n H2 = 126 := by rw [e2, cH_n, ln_tMain]
  obtain ⟨H3, e3⟩ : ∃ H, H = cG h0 (tMain 0) (nwC 12 78) [] := ⟨_, rfl⟩
  have f3 : s_nw H2 12 78 = H3 := by rw [e2, e3]; exact ent3
  obtain ⟨H4, e4⟩ : ∃ H, H = h1S h0 := ⟨_, rfl⟩
  have f5 : ∀ Q, Cal 100 mX12_init [.ref 126] H3 Q = Q none H4 := fun Q => by rw [e3, e4]; exact ent5 (d := 99)
  rw [← e4]
  unfold lwL
  simp [w_new (M := mL_law) dL_law_0 cl_13_7 (by decide), w_dup_int (M := mL_law) dL_law_3, w_dup_ref (M := mL_law) dL_law_3, c_13_9 (M := mL_law) dL_law_4 rfl, w_astore_n (M := mL_law) (i := 1) dL_law_7 rfl (by decide), w_new (M := mL_law) dL_law_8 cl_13_10 (by decide), w_dup_int (M := mL_law) dL_law_11, w_dup_ref (M := mL_law) dL_law_11, c_13_12 (M := mL_law) dL_law_12 rfl, w_astore_n (M := mL_law) (i := 2) dL_law_15 rfl (by decide), w_iconst (M := mL_law) (v := 0) dL_law_16 rfl, w_istore_n (M := mL_law) (i := 3) dL_law_17 rfl (by decide), Kn_v_, Kn_n_, kl_i_, kl_a_, kl_l_, kl_n_, s1_0_, s2_0_, s1_1, s1_2, s1_3, s1_4, s1_5, s1_6, s1_7, s1_8, s1_9, s1_10, s1_11, s1_12, s1_13, s1_14, s2_1, s2_2, s2_3, s2_4, s2_5, s2_6, s2_7, s2_8, s2_9, s2_10, s2_11, s2_12, s2_13, s2_14, List.map_nil, List.map_cons, List.sum_nil, List.sum_cons, ct_i_, ct_r_, ct_l_, t_si_, t_sl_, t_sr_, n_si_, n_sl_, n_sr_, i_si_, i_sl_, i_sr_, l_si_, l_sl_, l_sr_, r_si_, r_sl_, r_sr_, vr_s_, vr_n_, nz_0_, nz_1_, z, f1, f2, n2, f3, f5, nI, show am_MX = 900000 from rfl, show am_sz 11 = 8 from rfl, show am_sz 12 = 78 from rfl]
end ENTER
section WHOLE
variable {h0 : am_h} {n : Nat}
/-- the law holds of a heap as it begins with -/
theorem lw_all (b : B0 h0) (z : LW0 h0 n) (tx : ∀ h, LWI h0 h → opS XP 100 mX11_text mX12_text [.ref 0] [.ref 126] h) : ∃ h2, (∀ Q, Cal 101 mL_law [.ref 1000000] h0 Q = Q (some (.int 1)) h2) ∧ LWI h0 h2 := by
  obtain ⟨h2, k⟩ := lw_loop z tx n 0 (h1S h0) (by omega) (by omega) (first_W b)
  refine ⟨h2, fun Q => ?_, k.2⟩
  have e : Cal 101 mL_law [.ref 1000000] h0 Q = WP 101 mL_law 0 [some (.ref 1000000), none, none, none] [] h0 Q := rfl
  rw [e, lw_enter b.1]
  exact k.1 Q
end WHOLE
