/-! the other side: one round of its loop, what it opens, what it goes on with -/
section RSTEP
variable {d n g j φ ω o w y m k r op F : Nat} {h h' h'' h2 : am_h} {Q : Option Value → am_h → Prop} {f s a b : Int32} {T : List (Nat × Nat × Nat)} {x : Nat × Nat × Nat} {t : Nat → Nat}
/-- the loop's head -/
def LPH (d : Nat) (h : am_h) (Q : Option Value → am_h → Prop) : Prop := WP (d + 10) mX12_text 79 [some (.ref 126), none, none, none] [] h Q
theorem lp_0 (hR : sh_R (a_t h) (a_r h)) (h0 : a_i h 126 19 = 0) (hs : a_i h 126 28 = 0) (c : ∀ Q, Cal (d + 9) mX12_asks [.ref 126] h Q = Q none h') : LPH d h Q = LPH d h' Q := by
  unfold LPH
  rw [w_aload_n0 (M := mX12_text) dX12_text_79]
  simp [w_getI (M := mX12_text) dX12_text_80 f_12_290 rfl (by decide) (by decide), w_if_ne (M := mX12_text) (tgt := 171) dX12_text_83 (by decide), w_aload_n0 (M := mX12_text) dX12_text_86, w_getI (M := mX12_text) dX12_text_87 f_12_334 rfl (by decide) (by decide), w_iconst (M := mX12_text) (v := 4) dX12_text_90 rfl, w_ic_ne (M := mX12_text) (tgt := 101) dX12_text_91 (by decide), w_aload_n0 (M := mX12_text) dX12_text_94, w_getI (M := mX12_text) dX12_text_95 f_12_274 rfl (by decide) (by decide), w_if_eq (M := mX12_text) (tgt := 171) dX12_text_98 (by decide), w_aload_n0 (M := mX12_text) dX12_text_101, w_getI (M := mX12_text) dX12_text_102 f_12_334 rfl (by decide) (by decide), sw_X12_text_105, w_aload_n0 (M := mX12_text) dX12_text_136, c_12_388 (M := mX12_text) dX12_text_137 rfl, w_goto (M := mX12_text) (tgt := 79) dX12_text_140 (by decide), w_aload_n0 (M := mX12_text) dX12_text_143, c_12_391 (M := mX12_text) dX12_text_144 rfl, w_goto (M := mX12_text) (tgt := 79) dX12_text_147 (by decide), w_aload_n0 (M := mX12_text) dX12_text_150, c_12_394 (M := mX12_text) dX12_text_151 rfl, w_goto (M := mX12_text) (tgt := 79) dX12_text_154 (by decide), w_aload_n0 (M := mX12_text) dX12_text_157, c_12_397 (M := mX12_text) dX12_text_158 rfl, w_goto (M := mX12_text) (tgt := 79) dX12_text_161 (by decide), w_aload_n0 (M := mX12_text) dX12_text_164, c_12_400 (M := mX12_text) dX12_text_165 rfl, w_goto (M := mX12_text) (tgt := 79) dX12_text_168 (by decide), Kn_v_, Kn_n_, kl_i_, kl_a_, kl_l_, kl_n_, s1_0_, s2_0_, s1_1, s1_2, s1_3, s1_4, s1_5, s1_6, s1_7, s1_8, s1_9, s1_10, s1_11, s1_12, s1_13, s1_14, s2_1, s2_2, s2_3, s2_4, s2_5, s2_6, s2_7, s2_8, s2_9, s2_10, s2_11, s2_12, s2_13, s2_14, List.map_nil, List.map_cons, List.sum_nil, List.sum_cons, ct_i_, ct_r_, ct_l_, t_si_, t_sl_, t_sr_, n_si_, n_sl_, n_sr_, i_si_, i_sl_, i_sr_, l_si_, l_sl_, l_sr_, r_si_, r_sl_, r_sr_, vr_s_, vr_n_, nz_0_, nz_1_, hR.e, h0, hs, c]
theorem lp_1 (hR : sh_R (a_t h) (a_r h)) (h0 : a_i h 126 19 = 0) (hs : a_i h 126 28 = 1) (c : ∀ Q, Cal (d + 9) mX12_begins [.ref 126] h Q = Q none h') : LPH d h Q = LPH d h' Q := by
  unfold LPH
  rw [w_aload_n0 (M := mX12_text) dX12_text_79]
  simp [w_getI (M := mX12_text) dX12_text_80 f_12_290 rfl (by decide) (by decide), w_if_ne (M := mX12_text) (tgt := 171) dX12_text_83 (by decide), w_aload_n0 (M := mX12_text) dX12_text_86, w_getI (M := mX12_text) dX12_text_87 f_12_334 rfl (by decide) (by decide), w_iconst (M := mX12_text) (v := 4) dX12_text_90 rfl, w_ic_ne (M := mX12_text) (tgt := 101) dX12_text_91 (by decide), w_aload_n0 (M := mX12_text) dX12_text_94, w_getI (M := mX12_text) dX12_text_95 f_12_274 rfl (by decide) (by decide), w_if_eq (M := mX12_text) (tgt := 171) dX12_text_98 (by decide), w_aload_n0 (M := mX12_text) dX12_text_101, w_getI (M := mX12_text) dX12_text_102 f_12_334 rfl (by decide) (by decide), sw_X12_text_105, w_aload_n0 (M := mX12_text) dX12_text_136, c_12_388 (M := mX12_text) dX12_text_137 rfl, w_goto (M := mX12_text) (tgt := 79) dX12_text_140 (by decide), w_aload_n0 (M := mX12_text) dX12_text_143, c_12_391 (M := mX12_text) dX12_text_144 rfl, w_goto (M := mX12_text) (tgt := 79) dX12_text_147 (by decide), w_aload_n0 (M := mX12_text) dX12_text_150, c_12_394 (M := mX12_text) dX12_text_151 rfl, w_goto (M := mX12_text) (tgt := 79) dX12_text_154 (by decide), w_aload_n0 (M := mX12_text) dX12_text_157, c_12_397 (M := mX12_text) dX12_text_158 rfl, w_goto (M := mX12_text) (tgt := 79) dX12_text_161 (by decide), w_aload_n0 (M := mX12_text) dX12_text_164, c_12_400 (M := mX12_text) dX12_text_165 rfl, w_goto (M := mX12_text) (tgt := 79) dX12_text_168 (by decide), Kn_v_, Kn_n_, kl_i_, kl_a_, kl_l_, kl_n_, s1_0_, s2_0_, s1_1, s1_2, s1_3, s1_4, s1_5, s1_6, s1_7, s1_8, s1_9, s1_10, s1_11, s1_12, s1_13, s1_14, s2_1, s2_2, s2_3, s2_4, s2_5, s2_6, s2_7, s2_8, s2_9, s2_10, s2_11, s2_12, s2_13, s2_14, List.map_nil, List.map_cons, List.sum_nil, List.sum_cons, ct_i_, ct_r_, ct_l_, t_si_, t_sl_, t_sr_, n_si_, n_sl_, n_sr_, i_si_, i_sl_, i_sr_, l_si_, l_sl_, l_sr_, r_si_, r_sl_, r_sr_, vr_s_, vr_n_, nz_0_, nz_1_, hR.e, h0, hs, c]
theorem lp_2 (hR : sh_R (a_t h) (a_r h)) (h0 : a_i h 126 19 = 0) (hs : a_i h 126 28 = 2) (c : ∀ Q, Cal (d + 9) mX12_goesOn [.ref 126] h Q = Q none h') : LPH d h Q = LPH d h' Q := by
  unfold LPH
  rw [w_aload_n0 (M := mX12_text) dX12_text_79]
  simp [w_getI (M := mX12_text) dX12_text_80 f_12_290 rfl (by decide) (by decide), w_if_ne (M := mX12_text) (tgt := 171) dX12_text_83 (by decide), w_aload_n0 (M := mX12_text) dX12_text_86, w_getI (M := mX12_text) dX12_text_87 f_12_334 rfl (by decide) (by decide), w_iconst (M := mX12_text) (v := 4) dX12_text_90 rfl, w_ic_ne (M := mX12_text) (tgt := 101) dX12_text_91 (by decide), w_aload_n0 (M := mX12_text) dX12_text_94, w_getI (M := mX12_text) dX12_text_95 f_12_274 rfl (by decide) (by decide), w_if_eq (M := mX12_text) (tgt := 171) dX12_text_98 (by decide), w_aload_n0 (M := mX12_text) dX12_text_101, w_getI (M := mX12_text) dX12_text_102 f_12_334 rfl (by decide) (by decide), sw_X12_text_105, w_aload_n0 (M := mX12_text) dX12_text_136, c_12_388 (M := mX12_text) dX12_text_137 rfl, w_goto (M := mX12_text) (tgt := 79) dX12_text_140 (by decide), w_aload_n0 (M := mX12_text) dX12_text_143, c_12_391 (M := mX12_text) dX12_text_144 rfl, w_goto (M := mX12_text) (tgt := 79) dX12_text_147 (by decide), w_aload_n0 (M := mX12_text) dX12_text_150, c_12_394 (M := mX12_text) dX12_text_151 rfl, w_goto (M := mX12_text) (tgt := 79) dX12_text_154 (by decide), w_aload_n0 (M := mX12_text) dX12_text_157, c_12_397 (M := mX12_text) dX12_text_158 rfl, w_goto (M := mX12_text) (tgt := 79) dX12_text_161 (by decide), w_aload_n0 (M := mX12_text) dX12_text_164, c_12_400 (M := mX12_text) dX12_text_165 rfl, w_goto (M := mX12_text) (tgt := 79) dX12_text_168 (by decide), Kn_v_, Kn_n_, kl_i_, kl_a_, kl_l_, kl_n_, s1_0_, s2_0_, s1_1, s1_2, s1_3, s1_4, s1_5, s1_6, s1_7, s1_8, s1_9, s1_10, s1_11, s1_12, s1_13, s1_14, s2_1, s2_2, s2_3, s2_4, s2_5, s2_6, s2_7, s2_8, s2_9, s2_10, s2_11, s2_12, s2_13, s2_14, List.map_nil, List.map_cons, List.sum_nil, List.sum_cons, ct_i_, ct_r_, ct_l_, t_si_, t_sl_, t_sr_, n_si_, n_sl_, n_sr_, i_si_, i_sl_, i_sr_, l_si_, l_sl_, l_sr_, r_si_, r_sl_, r_sr_, vr_s_, vr_n_, nz_0_, nz_1_, hR.e, h0, hs, c]
theorem lp_3 (hR : sh_R (a_t h) (a_r h)) (h0 : a_i h 126 19 = 0) (hs : a_i h 126 28 = 3) (c : ∀ Q, Cal (d + 9) mX12_asksOn [.ref 126] h Q = Q none h') : LPH d h Q = LPH d h' Q := by
  unfold LPH
  rw [w_aload_n0 (M := mX12_text) dX12_text_79]
  simp [w_getI (M := mX12_text) dX12_text_80 f_12_290 rfl (by decide) (by decide), w_if_ne (M := mX12_text) (tgt := 171) dX12_text_83 (by decide), w_aload_n0 (M := mX12_text) dX12_text_86, w_getI (M := mX12_text) dX12_text_87 f_12_334 rfl (by decide) (by decide), w_iconst (M := mX12_text) (v := 4) dX12_text_90 rfl, w_ic_ne (M := mX12_text) (tgt := 101) dX12_text_91 (by decide), w_aload_n0 (M := mX12_text) dX12_text_94, w_getI (M := mX12_text) dX12_text_95 f_12_274 rfl (by decide) (by decide), w_if_eq (M := mX12_text) (tgt := 171) dX12_text_98 (by decide), w_aload_n0 (M := mX12_text) dX12_text_101, w_getI (M := mX12_text) dX12_text_102 f_12_334 rfl (by decide) (by decide), sw_X12_text_105, w_aload_n0 (M := mX12_text) dX12_text_136, c_12_388 (M := mX12_text) dX12_text_137 rfl, w_goto (M := mX12_text) (tgt := 79) dX12_text_140 (by decide), w_aload_n0 (M := mX12_text) dX12_text_143, c_12_391 (M := mX12_text) dX12_text_144 rfl, w_goto (M := mX12_text) (tgt := 79) dX12_text_147 (by decide), w_aload_n0 (M := mX12_text) dX12_text_150, c_12_394 (M := mX12_text) dX12_text_151 rfl, w_goto (M := mX12_text) (tgt := 79) dX12_text_154 (by decide), w_aload_n0 (M := mX12_text) dX12_text_157, c_12_397 (M := mX12_text) dX12_text_158 rfl, w_goto (M := mX12_text) (tgt := 79) dX12_text_161 (by decide), w_aload_n0 (M := mX12_text) dX12_text_164, c_12_400 (M := mX12_text) dX12_text_165 rfl, w_goto (M := mX12_text) (tgt := 79) dX12_text_168 (by decide), Kn_v_, Kn_n_, kl_i_, kl_a_, kl_l_, kl_n_, s1_0_, s2_0_, s1_1, s1_2, s1_3, s1_4, s1_5, s1_6, s1_7, s1_8, s1_9, s1_10, s1_11, s1_12, s1_13, s1_14, s2_1, s2_2, s2_3, s2_4, s2_5, s2_6, s2_7, s2_8, s2_9, s2_10, s2_11, s2_12, s2_13, s2_14, List.map_nil, List.map_cons, List.sum_nil, List.sum_cons, ct_i_, ct_r_, ct_l_, t_si_, t_sl_, t_sr_, n_si_, n_sl_, n_sr_, i_si_, i_sl_, i_sr_, l_si_, l_sl_, l_sr_, r_si_, r_sl_, r_sr_, vr_s_, vr_n_, nz_0_, nz_1_, hR.e, h0, hs, c]
theorem lp_4 (hR : sh_R (a_t h) (a_r h)) (h0 : a_i h 126 19 = 0) (hs : a_i h 126 28 = 4) (hk : ¬ a_i h 126 17 = 0) (c : ∀ Q, Cal (d + 9) mX12_clause [.ref 126] h Q = Q none h') : LPH d h Q = LPH d h' Q := by
  unfold LPH
  rw [w_aload_n0 (M := mX12_text) dX12_text_79]
  simp [w_getI (M := mX12_text) dX12_text_80 f_12_290 rfl (by decide) (by decide), w_if_ne (M := mX12_text) (tgt := 171) dX12_text_83 (by decide), w_aload_n0 (M := mX12_text) dX12_text_86, w_getI (M := mX12_text) dX12_text_87 f_12_334 rfl (by decide) (by decide), w_iconst (M := mX12_text) (v := 4) dX12_text_90 rfl, w_ic_ne (M := mX12_text) (tgt := 101) dX12_text_91 (by decide), w_aload_n0 (M := mX12_text) dX12_text_94, w_getI (M := mX12_text) dX12_text_95 f_12_274 rfl (by decide) (by decide), w_if_eq (M := mX12_text) (tgt := 171) dX12_text_98 (by decide), w_aload_n0 (M := mX12_text) dX12_text_101, w_getI (M := mX12_text) dX12_text_102 f_12_334 rfl (by decide) (by decide), sw_X12_text_105, w_aload_n0 (M := mX12_text) dX12_text_136, c_12_388 (M := mX12_text) dX12_text_137 rfl, w_goto (M := mX12_text) (tgt := 79) dX12_text_140 (by decide), w_aload_n0 (M := mX12_text) dX12_text_143, c_12_391 (M := mX12_text) dX12_text_144 rfl, w_goto (M := mX12_text) (tgt := 79) dX12_text_147 (by decide), w_aload_n0 (M := mX12_text) dX12_text_150, c_12_394 (M := mX12_text) dX12_text_151 rfl, w_goto (M := mX12_text) (tgt := 79) dX12_text_154 (by decide), w_aload_n0 (M := mX12_text) dX12_text_157, c_12_397 (M := mX12_text) dX12_text_158 rfl, w_goto (M := mX12_text) (tgt := 79) dX12_text_161 (by decide), w_aload_n0 (M := mX12_text) dX12_text_164, c_12_400 (M := mX12_text) dX12_text_165 rfl, w_goto (M := mX12_text) (tgt := 79) dX12_text_168 (by decide), Kn_v_, Kn_n_, kl_i_, kl_a_, kl_l_, kl_n_, s1_0_, s2_0_, s1_1, s1_2, s1_3, s1_4, s1_5, s1_6, s1_7, s1_8, s1_9, s1_10, s1_11, s1_12, s1_13, s1_14, s2_1, s2_2, s2_3, s2_4, s2_5, s2_6, s2_7, s2_8, s2_9, s2_10, s2_11, s2_12, s2_13, s2_14, List.map_nil, List.map_cons, List.sum_nil, List.sum_cons, ct_i_, ct_r_, ct_l_, t_si_, t_sl_, t_sr_, n_si_, n_sl_, n_sr_, i_si_, i_sl_, i_sr_, l_si_, l_sl_, l_sr_, r_si_, r_sl_, r_sr_, vr_s_, vr_n_, nz_0_, nz_1_, hR.e, h0, hs, hk, c]
/-- one more frame -/
def pfH (h : am_h) (φ : Nat) (F : Int32) : am_h := s_i (s_i h 138 φ F) 126 22 (nI (φ + 1))
theorem rq_push (hR : sh_R (a_t h) (a_r h)) (hf : a_i h 126 22 = nI φ) (lf : φ < 40) : Cal d mX12_opensFrame [.ref 126, .int a] h Q = Q none (pfH h φ a) := by
  rw [q_X12_opensFrame (eq_true hR), hf, nI_c (by omega), show nI φ + 1 = nI (φ + 1) from nI_a (b := 1)]
  have p := of_eq_true (nI_p (a := φ) (by omega))
  exact propext ⟨fun z => z.2, fun z => ⟨⟨p, lf⟩, z⟩⟩
theorem pfH_i {p i : Nat} (n1 : ¬ (p = 126 ∧ i = 22)) (n2 : ¬ (p = 138 ∧ i = φ)) : a_i (pfH h φ a) p i = a_i h p i := by
  unfold pfH
  rw [ine (by omega), ine (by omega)]
theorem pfH_o : a_i (pfH h φ a) 138 φ = a ∧ a_i (pfH h φ a) 126 22 = nI (φ + 1) := by
  unfold pfH
  exact ⟨by rw [ine (by omega), ieq rfl rfl], ieq rfl rfl⟩
theorem pfH_s : sm h (pfH h φ a) := sm.rf
theorem pfH_F : rF φ ω g h (pfH h φ a) := ⟨pfH_s, rfl, fun p j n1 n2 _ _ _ _ => pfH_i (by omega) (by omega)⟩
theorem okP.pf (K : okP t n T w j h) : okP t n T w j (pfH h φ a) := K.fr pfH_s (fun k hk => pfH_i (by omega) (by omega)) (fun k => pfH_i (by omega) (by omega))
theorem okK.pf (K : okK g φ ω o h) : okK g (φ + 1) ω o (pfH h φ a) := by
  obtain ⟨k1, k2, k3, k4, k5⟩ := K
  exact ⟨by rw [pfH_i (by omega) (by omega)]; exact k1, pfH_o.2, by rw [pfH_i (by omega) (by omega)]; exact k3, by rw [pfH_i (by omega) (by omega)]; exact k4, fun i hi => by
    obtain ⟨z, z1, z2⟩ := k5 i hi
    exact ⟨z, by omega, by rw [pfH_i (by omega) (by omega)]; exact z2⟩⟩
/-- a state more: only its number changes -/
theorem stH_s {v : Int32} : sm h (s_i h 126 28 v) := sm.rf
theorem stH_F {v : Int32} : rF φ ω g h (s_i h 126 28 v) := ⟨sm.rf, rfl, fun p j n1 _ _ _ _ _ => ine (by omega)⟩
theorem okP.st {v : Int32} (K : okP t n T w j h) : okP t n T w j (s_i h 126 28 v) := K.fr sm.rf (fun k hk => ine (by omega)) (fun k => ine (by omega))
theorem okK.st {v : Int32} (K : okK g φ ω o h) : okK g φ ω o (s_i h 126 28 v) := by
  obtain ⟨k1, k2, k3, k4, k5⟩ := K
  exact ⟨by rw [ine (by omega)]; exact k1, by rw [ine (by omega)]; exact k2, by rw [ine (by omega)]; exact k3, by rw [ine (by omega)]; exact k4, fun i hi => by rw [ine (by omega)]; exact k5 i hi⟩
/-- a sign opens -/
theorem rq_open (P : okP t n T w j h) (hx : T[j]? = some x) (nz : ¬ x.1 = 0) (K : okK g φ ω o h) (lo : o < 8) (lf : φ < 40) : ∃ h', (∀ Q, Cal (d + 3) mX12_opensSign [.ref 126, .int a] h Q = Q (some (.int 1)) h') ∧ okP t n T w (j + 1) h' ∧ okK g (φ + 1) ω (o + 1) h' ∧ rF φ ω g h h' ∧ a_i h' 138 φ = a ∧ a_i h' 126 28 = a_i h 126 28 := by
  have hR := P.R
  obtain ⟨k1, k2, k3, k4, k5⟩ := K
  obtain ⟨G, eG⟩ : ∃ G, G = s_i h 126 21 (nI (o + 1)) := ⟨_, rfl⟩
  have PG : okP t n T w j G := by
    rw [eG]
    exact P.fr sm.rf (fun k hk => ine (by omega)) (fun k => ine (by omega))
  have KG : okK g φ ω (o + 1) G := by
    rw [eG]
    exact ⟨ieq rfl rfl, by rw [ine (by omega)]; exact k2, by rw [ine (by omega)]; exact k3, by rw [ine (by omega)]; exact k4, fun i hi => by rw [ine (by omega)]; exact k5 i hi⟩
  have FG : rF φ ω g h G := by
    rw [eG]
    exact ⟨sm.rf, rfl, fun p j n1 _ _ _ _ _ => ine (by omega)⟩
  have pu : ∀ Q, Cal (d + 2) mX12_opensFrame [.ref 126, .int a] G Q = Q none (pfH G φ a) := fun Q => rq_push PG.R KG.2.1 lf
  obtain ⟨h', nx, fr, P'⟩ := rq_next (d := d) (PG.pf (φ := φ) (a := a)) hx nz
  have c1 : (nI o = 8) = False := by rw [show (8 : Int32) = nI 8 from rfl, nI_inj (by omega) (by omega)]; exact eq_false (by omega)
  have x3 : nI o + 1 = nI (o + 1) := nI_a (b := 1)
  have hR2 := (PG.pf (φ := φ) (a := a)).R
  rw [eG] at pu nx hR2
  refine ⟨h', fun Q => ?_, P', KG.pf.nx fr, FG.tr (pfH_F.tr fr.F (Nat.le_refl _) (Nat.le_refl _) (Nat.le_refl _)) (Nat.le_refl _) (Nat.le_refl _) (Nat.le_refl _), ?_, ?_⟩
  · unfold Cal
    rw [show m_l mX12_opensSign = 2 from rfl]
    simp only [am_en, am_ag, ct_i, ct_r, ct_l, List.length_cons, List.length_nil, List.replicate]
    simp [w_aload_n0 (M := mX12_opensSign) dX12_opensSign_0, w_getI (M := mX12_opensSign) dX12_opensSign_1 f_12_302 rfl (by decide) (by decide), w_bipush (M := mX12_opensSign) (v := 8) dX12_opensSign_4 rfl, w_ic_ne (M := mX12_opensSign) (tgt := 16) dX12_opensSign_6 (by decide), w_aload_n0 (M := mX12_opensSign) dX12_opensSign_9, w_iconst (M := mX12_opensSign) (v := 3) dX12_opensSign_10 rfl, c_12_305 (M := mX12_opensSign) dX12_opensSign_11 rfl, w_iconst (M := mX12_opensSign) (v := 0) dX12_opensSign_14 rfl, w_ireturn (M := mX12_opensSign) dX12_opensSign_15 rfl, w_aload_n0 (M := mX12_opensSign) dX12_opensSign_16, w_dup_int (M := mX12_opensSign) dX12_opensSign_17, w_dup_ref (M := mX12_opensSign) dX12_opensSign_17, w_getI (M := mX12_opensSign) dX12_opensSign_18 f_12_302 rfl (by decide) (by decide), w_iconst (M := mX12_opensSign) (v := 1) dX12_opensSign_21 rfl, w_iadd (M := mX12_opensSign) dX12_opensSign_22, w_putI (M := mX12_opensSign) dX12_opensSign_23 f_12_302 rfl (Or.inl rfl), w_aload_n0 (M := mX12_opensSign) dX12_opensSign_26, w_iload_n1 (M := mX12_opensSign) dX12_opensSign_27, c_12_308 (M := mX12_opensSign) dX12_opensSign_28 rfl, w_aload_n0 (M := mX12_opensSign) dX12_opensSign_31, c_12_311 (M := mX12_opensSign) dX12_opensSign_32 rfl, w_iconst (M := mX12_opensSign) (v := 1) dX12_opensSign_35 rfl, w_ireturn (M := mX12_opensSign) dX12_opensSign_36 rfl, Kn_v_, Kn_n_, kl_i_, kl_a_, kl_l_, kl_n_, s1_0_, s2_0_, s1_1, s1_2, s1_3, s1_4, s1_5, s1_6, s1_7, s1_8, s1_9, s1_10, s1_11, s1_12, s1_13, s1_14, s2_1, s2_2, s2_3, s2_4, s2_5, s2_6, s2_7, s2_8, s2_9, s2_10, s2_11, s2_12, s2_13, s2_14, List.map_nil, List.map_cons, List.sum_nil, List.sum_cons, ct_i_, ct_r_, ct_l_, t_si_, t_sl_, t_sr_, n_si_, n_sl_, n_sr_, i_si_, i_sl_, i_sr_, l_si_, l_sl_, l_sr_, r_si_, r_sl_, r_sr_, vr_s_, vr_n_, nz_0_, nz_1_, hR.e, hR2.e, k1, c1, x3, pu, nx]
  · rw [fr.2.2 _ _ (by omega)]; exact pfH_o.1
  · rw [fr.2.2 _ _ (by omega), pfH_i (by omega) (by omega), eG, ine (by omega)]
theorem rq_open8 (P : okP t n T w j h) (hx : T[j]? = some x) (K : okK g φ ω 8 h) : ∃ h', (∀ Q, Cal (d + 3) mX12_opensSign [.ref 126, .int a] h Q = Q (some (.int 0)) h') ∧ flR 3 (nI x.2.2) h h' := by
  have hR := P.R
  obtain ⟨h', r1, r2⟩ := rq_errs P hx (f := 3) (by decide)
  have k1 : a_i h 126 21 = 8 := K.1
  refine ⟨h', fun Q => ?_, r2⟩
  unfold Cal
  rw [show m_l mX12_opensSign = 2 from rfl]
  simp only [am_en, am_ag, ct_i, ct_r, ct_l, List.length_cons, List.length_nil, List.replicate]
  simp [w_aload_n0 (M := mX12_opensSign) dX12_opensSign_0, w_getI (M := mX12_opensSign) dX12_opensSign_1 f_12_302 rfl (by decide) (by decide), w_bipush (M := mX12_opensSign) (v := 8) dX12_opensSign_4 rfl, w_ic_ne (M := mX12_opensSign) (tgt := 16) dX12_opensSign_6 (by decide), w_aload_n0 (M := mX12_opensSign) dX12_opensSign_9, w_iconst (M := mX12_opensSign) (v := 3) dX12_opensSign_10 rfl, c_12_305 (M := mX12_opensSign) dX12_opensSign_11 rfl, w_iconst (M := mX12_opensSign) (v := 0) dX12_opensSign_14 rfl, w_ireturn (M := mX12_opensSign) dX12_opensSign_15 rfl, w_aload_n0 (M := mX12_opensSign) dX12_opensSign_16, w_dup_int (M := mX12_opensSign) dX12_opensSign_17, w_dup_ref (M := mX12_opensSign) dX12_opensSign_17, w_getI (M := mX12_opensSign) dX12_opensSign_18 f_12_302 rfl (by decide) (by decide), w_iconst (M := mX12_opensSign) (v := 1) dX12_opensSign_21 rfl, w_iadd (M := mX12_opensSign) dX12_opensSign_22, w_putI (M := mX12_opensSign) dX12_opensSign_23 f_12_302 rfl (Or.inl rfl), w_aload_n0 (M := mX12_opensSign) dX12_opensSign_26, w_iload_n1 (M := mX12_opensSign) dX12_opensSign_27, c_12_308 (M := mX12_opensSign) dX12_opensSign_28 rfl, w_aload_n0 (M := mX12_opensSign) dX12_opensSign_31, c_12_311 (M := mX12_opensSign) dX12_opensSign_32 rfl, w_iconst (M := mX12_opensSign) (v := 1) dX12_opensSign_35 rfl, w_ireturn (M := mX12_opensSign) dX12_opensSign_36 rfl, Kn_v_, Kn_n_, kl_i_, kl_a_, kl_l_, kl_n_, s1_0_, s2_0_, s1_1, s1_2, s1_3, s1_4, s1_5, s1_6, s1_7, s1_8, s1_9, s1_10, s1_11, s1_12, s1_13, s1_14, s2_1, s2_2, s2_3, s2_4, s2_5, s2_6, s2_7, s2_8, s2_9, s2_10, s2_11, s2_12, s2_13, s2_14, List.map_nil, List.map_cons, List.sum_nil, List.sum_cons, ct_i_, ct_r_, ct_l_, t_si_, t_sl_, t_sr_, n_si_, n_sl_, n_sr_, i_si_, i_sl_, i_sr_, l_si_, l_sl_, l_sr_, r_si_, r_sl_, r_sr_, vr_s_, vr_n_, nz_0_, nz_1_, hR.e, k1, r1]
/-- one more that waits -/
def pwH (h : am_h) (φ ω : Nat) (op : Int32) : am_h := s_i (s_i (s_i h 140 ω op) 141 ω (nI φ)) 126 25 (nI (ω + 1))
theorem pwH_i {p i : Nat} (n1 : ¬ (p = 126 ∧ i = 25)) (n2 : ¬ ((p = 140 ∨ p = 141) ∧ i = ω)) : a_i (pwH h φ ω a) p i = a_i h p i := by
  unfold pwH
  rw [ine (by omega), ine (by omega), ine (by omega)]
theorem pwH_o : a_i (pwH h φ ω a) 140 ω = a ∧ a_i (pwH h φ ω a) 141 ω = nI φ ∧ a_i (pwH h φ ω a) 126 25 = nI (ω + 1) := by
  unfold pwH
  exact ⟨by rw [ine (by omega), ine (by omega), ieq rfl rfl], by rw [ine (by omega), ieq rfl rfl], ieq rfl rfl⟩
theorem pwH_s : sm h (pwH h φ ω a) := sm.rf
theorem pwH_F : rF φ ω g h (pwH h φ ω a) := ⟨pwH_s, rfl, fun p j n1 _ _ n4 _ _ => pwH_i (by omega) (by omega)⟩
theorem okP.pw (K : okP t n T w j h) : okP t n T w j (pwH h φ ω a) := K.fr pwH_s (fun k hk => pwH_i (by omega) (by omega)) (fun k => pwH_i (by omega) (by omega))
theorem okK.pw (K : okK g φ ω o h) : okK g φ (ω + 1) o (pwH h φ ω a) := by
  obtain ⟨k1, k2, k3, k4, k5⟩ := K
  refine ⟨by rw [pwH_i (by omega) (by omega)]; exact k1, by rw [pwH_i (by omega) (by omega)]; exact k2, pwH_o.2.2, by rw [pwH_i (by omega) (by omega)]; exact k4, fun i hi => ?_⟩
  by_cases c : i = ω
  · subst c
    exact ⟨φ, Nat.le_refl _, pwH_o.2.1⟩
  · obtain ⟨z, z1, z2⟩ := k5 i (by omega)
    exact ⟨z, z1, by rw [pwH_i (by omega) (by omega)]; exact z2⟩
theorem rq_waits (hR : sh_R (a_t h) (a_r h)) (lop : op < 1000) (W : ∀ Q, Cal (d + 2) mX12_works [.ref 126, .int (nI (rkN op))] h Q = Q none h2) (P : okP t n T w j h2) (hx : T[j]? = some x) (nz : ¬ x.1 = 0) (K : okK g φ ω o h2) (lw : ω < 80) : ∃ h', (∀ Q, Cal (d + 3) mX12_waitsFor [.ref 126, .int (nI op)] h Q = Q none h') ∧ okP t n T w (j + 1) h' ∧ okK g φ (ω + 1) o h' ∧ rF φ ω g h2 h' ∧ a_i h' 140 ω = nI op ∧ a_i h' 141 ω = nI φ := by
  have hR2 := P.R
  have rk : ∀ Q, Cal (d + 2) mX12_rank [.int (nI op)] h Q = Q (some (.int (nI (rkN op)))) h := fun Q => rq_rank hR lop
  obtain ⟨h', nx, fr, P'⟩ := rq_next (d := d) (P.pw (φ := φ) (ω := ω) (a := nI op)) hx nz
  have x1 : am_in1 (nI ω) 80 = True := by rw [in1_n (by omega)]; exact eq_true (by omega)
  have x2 := nI_c (a := ω) (by omega)
  have x3 : nI ω + 1 = nI (ω + 1) := nI_a (b := 1)
  have k2 := K.2.1
  have k3 := K.2.2.1
  unfold pwH at nx
  refine ⟨h', fun Q => ?_, P', K.pw.nx fr, pwH_F.tr fr.F (Nat.le_refl _) (Nat.le_refl _) (Nat.le_refl _), ?_, ?_⟩
  · unfold Cal
    rw [show m_l mX12_waitsFor = 2 from rfl]
    simp only [am_en, am_ag, ct_i, ct_r, ct_l, List.length_cons, List.length_nil, List.replicate]
    simp [w_aload_n0 (M := mX12_waitsFor) dX12_waitsFor_0, w_iload_n1 (M := mX12_waitsFor) dX12_waitsFor_1, c_12_317 (M := mX12_waitsFor) dX12_waitsFor_2 rfl, c_12_325 (M := mX12_waitsFor) dX12_waitsFor_5 rfl, w_aload_n0 (M := mX12_waitsFor) dX12_waitsFor_8, w_getA (M := mX12_waitsFor) dX12_waitsFor_9 f_12_57 rfl (by decide) (by decide), w_aload_n0 (M := mX12_waitsFor) dX12_waitsFor_12, w_getI (M := mX12_waitsFor) dX12_waitsFor_13 f_12_314 rfl (by decide) (by decide), w_iload_n1 (M := mX12_waitsFor) dX12_waitsFor_16, w_iastore (M := mX12_waitsFor) dX12_waitsFor_17, w_aload_n0 (M := mX12_waitsFor) dX12_waitsFor_18, w_getA (M := mX12_waitsFor) dX12_waitsFor_19 f_12_60 rfl (by decide) (by decide), w_aload_n0 (M := mX12_waitsFor) dX12_waitsFor_22, w_getI (M := mX12_waitsFor) dX12_waitsFor_23 f_12_314 rfl (by decide) (by decide), w_aload_n0 (M := mX12_waitsFor) dX12_waitsFor_26, w_getI (M := mX12_waitsFor) dX12_waitsFor_27 f_12_299 rfl (by decide) (by decide), w_iastore (M := mX12_waitsFor) dX12_waitsFor_30, w_aload_n0 (M := mX12_waitsFor) dX12_waitsFor_31, w_dup_int (M := mX12_waitsFor) dX12_waitsFor_32, w_dup_ref (M := mX12_waitsFor) dX12_waitsFor_32, w_getI (M := mX12_waitsFor) dX12_waitsFor_33 f_12_314 rfl (by decide) (by decide), w_iconst (M := mX12_waitsFor) (v := 1) dX12_waitsFor_36 rfl, w_iadd (M := mX12_waitsFor) dX12_waitsFor_37, w_putI (M := mX12_waitsFor) dX12_waitsFor_38 f_12_314 rfl (Or.inl rfl), w_aload_n0 (M := mX12_waitsFor) dX12_waitsFor_41, c_12_311 (M := mX12_waitsFor) dX12_waitsFor_42 rfl, w_vret (M := mX12_waitsFor) dX12_waitsFor_45 rfl, Kn_v_, Kn_n_, kl_i_, kl_a_, kl_l_, kl_n_, s1_0_, s2_0_, s1_1, s1_2, s1_3, s1_4, s1_5, s1_6, s1_7, s1_8, s1_9, s1_10, s1_11, s1_12, s1_13, s1_14, s2_1, s2_2, s2_3, s2_4, s2_5, s2_6, s2_7, s2_8, s2_9, s2_10, s2_11, s2_12, s2_13, s2_14, List.map_nil, List.map_cons, List.sum_nil, List.sum_cons, ct_i_, ct_r_, ct_l_, t_si_, t_sl_, t_sr_, n_si_, n_sl_, n_sr_, i_si_, i_sl_, i_sr_, l_si_, l_sl_, l_sr_, r_si_, r_sl_, r_sr_, vr_s_, vr_n_, nz_0_, nz_1_, hR.e, hR2.e, rk, W, k2, k3, x1, x2, x3, nx]
  · rw [fr.2.2 _ _ (by omega)]; exact pwH_o.1
  · rw [fr.2.2 _ _ (by omega)]; exact pwH_o.2.1
end RSTEP
