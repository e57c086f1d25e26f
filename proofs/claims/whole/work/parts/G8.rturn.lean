/-! the other side: what is begun becomes another one; names -/
section RTURN
variable {d n g j φ ω o w y m k r op F g1 : Nat} {h h' h'' h2 : am_h} {Q : Option Value → am_h → Prop} {f s a b : Int32} {T : List (Nat × Nat × Nat)} {x : Nat × Nat × Nat} {t : Nat → Nat}
set_option maxHeartbeats 1000000 in
theorem rq_turn3 (P : okP t n T w j h) (hx : T[j]? = some x) (nz : ¬ x.1 = 0) (K : okK g (m + 1) ω o h) (lm : m < 40) (lg : g < 400) : ∃ h', (∀ Q, Cal (d + 3) mX12_turnsTo [.ref 126, .int a, .int 403] h Q = Q none h') ∧ okP t n T w (j + 1) h' ∧ okK (g + 1) (m + 1) ω o h' ∧ rF m ω g h h' ∧ a_i h' 142 (m + 1) = nI g ∧ a_i h' 138 m = a ∧ a_i h' 148 g = 403 ∧ a_i h' 126 28 = 1 := by
  have hR := P.R
  have k2 := K.2.1
  have k4 := K.2.2.2.1
  obtain ⟨A, eA⟩ : ∃ A, A = s_i h 142 (m + 1) (nI g) := ⟨_, rfl⟩
  have PA : okP t n T w j A := by rw [eA]; exact P.fr sm.rf (fun k hk => ine (by omega)) (fun k => ine (by omega))
  have KA : okK g (m + 1) ω o A := by
    obtain ⟨k1, k2, k3, k4, k5⟩ := K
    rw [eA]
    exact ⟨by rw [ine (by omega)]; exact k1, by rw [ine (by omega)]; exact k2, by rw [ine (by omega)]; exact k3, by rw [ine (by omega)]; exact k4, fun i hi => by rw [ine (by omega)]; exact k5 i hi⟩
  have em : ∀ Q, Cal (d + 2) mX12_emits [.ref 126, .int 403, .int 0] A Q = Q none (emR A g 403 0) := fun Q => rq_emit PA.R KA.2.2.2.1 lg
  obtain ⟨B, eB⟩ : ∃ B, B = s_i (emR A g 403 0) 138 m a := ⟨_, rfl⟩
  have PB : okP t n T w j B := by rw [eB]; exact (PA.em (g := g) (a := 403) (b := 0)).fr sm.rf (fun k hk => ine (by omega)) (fun k => ine (by omega))
  have KB : okK (g + 1) (m + 1) ω o B := by
    obtain ⟨k1, k2, k3, k4, k5⟩ := KA.em (a := 403) (b := 0)
    rw [eB]
    exact ⟨by rw [ine (by omega)]; exact k1, by rw [ine (by omega)]; exact k2, by rw [ine (by omega)]; exact k3, by rw [ine (by omega)]; exact k4, fun i hi => by rw [ine (by omega)]; exact k5 i hi⟩
  obtain ⟨C, nx, fr, PC⟩ := rq_next (d := d) PB hx nz
  have hRE : sh_R (a_t (emR A g 403 0)) (a_r (emR A g 403 0)) := (PA.em (g := g) (a := 403) (b := 0)).R
  have hRC := PC.R
  have x1 : am_in1 (nI (m + 1)) 41 = True := by rw [in1_n (by omega)]; exact eq_true (by omega)
  have x2 := nI_c (a := m + 1) (by omega)
  have x3 : nI (m + 1) - 1 = nI m := nI_sb (b := 1) (by omega)
  have x4 : am_in1 (nI m) 40 = True := by rw [in1_n (by omega)]; exact eq_true lm
  have x5 := nI_c (a := m) (by omega)
  have e22 : a_i (emR A g 403 0) 126 22 = nI (m + 1) := (KA.em (a := 403) (b := 0)).2.1
  have oC : ∀ p i, ¬ (p = 126 ∧ 15 ≤ i ∧ i ≤ 18) → ¬ (p = 138 ∧ i = m) → ¬ (p = 126 ∧ i = 37) → ¬ ((p = 148 ∨ p = 149) ∧ i = g) → ¬ (p = 142 ∧ i = m + 1) → a_i C p i = a_i h p i := fun p i n1 n2 n3 n4 n5 => by
    rw [fr.2.2 _ _ n1, eB, ine n2, emR_i n3 n4, eA, ine n5]
  have sC : sm h C := by
    have : sm B C := fr.1
    rw [eB, eA] at this
    exact this
  have lC : a_l C = a_l h := by rw [fr.2.1, eB, eA]; rfl
  refine ⟨s_i C 126 28 1, fun Q => ?_, PC.st, (KB.nx fr).st, ⟨sC, lC, fun p i n1 n2 n3 n4 n5 n6 => ?_⟩, ?_, ?_, ?_, ieq rfl rfl⟩
  · rw [eB] at nx
    have e : ∀ Q, Cal (d + 3) mX12_turnsTo [.ref 126, .int a, .int 403] h Q = WP (d + 3) mX12_turnsTo 26 [some (.ref 126), some (.int a), some (.int 403), some (.int (a_i h 142 (m + 1)))] [.int 0, .int 403, .ref 126] A Q := fun Q => by
      rw [eA]
      unfold Cal
      rw [show m_l mX12_turnsTo = 4 from rfl]
      simp only [am_en, am_ag, ct_i, ct_r, ct_l, List.length_cons, List.length_nil, List.replicate]
      simp [w_aload_n0 (M := mX12_turnsTo) dX12_turnsTo_0, w_getA (M := mX12_turnsTo) dX12_turnsTo_1 f_12_63 rfl (by decide) (by decide), w_aload_n0 (M := mX12_turnsTo) dX12_turnsTo_4, w_getI (M := mX12_turnsTo) dX12_turnsTo_5 f_12_299 rfl (by decide) (by decide), w_iaload (M := mX12_turnsTo) dX12_turnsTo_8, w_istore_n (M := mX12_turnsTo) (i := 3) dX12_turnsTo_9 rfl (by decide), w_aload_n0 (M := mX12_turnsTo) dX12_turnsTo_10, w_getA (M := mX12_turnsTo) dX12_turnsTo_11 f_12_63 rfl (by decide) (by decide), w_aload_n0 (M := mX12_turnsTo) dX12_turnsTo_14, w_getI (M := mX12_turnsTo) dX12_turnsTo_15 f_12_299 rfl (by decide) (by decide), w_aload_n0 (M := mX12_turnsTo) dX12_turnsTo_18, w_getI (M := mX12_turnsTo) dX12_turnsTo_19 f_12_296 rfl (by decide) (by decide), w_iastore (M := mX12_turnsTo) dX12_turnsTo_22, w_aload_n0 (M := mX12_turnsTo) dX12_turnsTo_23, w_iload_n2 (M := mX12_turnsTo) dX12_turnsTo_24, w_iconst (M := mX12_turnsTo) (v := 0) dX12_turnsTo_25 rfl, Kn_v_, Kn_n_, kl_i_, kl_a_, kl_l_, kl_n_, s1_0_, s2_0_, s1_1, s1_2, s1_3, s1_4, s1_5, s1_6, s1_7, s1_8, s1_9, s1_10, s1_11, s1_12, s1_13, s1_14, s2_1, s2_2, s2_3, s2_4, s2_5, s2_6, s2_7, s2_8, s2_9, s2_10, s2_11, s2_12, s2_13, s2_14, List.map_nil, List.map_cons, List.sum_nil, List.sum_cons, ct_i_, ct_r_, ct_l_, t_si_, t_sl_, t_sr_, n_si_, n_sl_, n_sr_, i_si_, i_sl_, i_sr_, l_si_, l_sl_, l_sr_, r_si_, r_sl_, r_sr_, vr_s_, vr_n_, nz_0_, nz_1_, hR.e, k2, k4, x1, x2]
    rw [e]
    simp [c_12_321 (M := mX12_turnsTo) dX12_turnsTo_26 rfl, w_iload_n2 (M := mX12_turnsTo) dX12_turnsTo_29, w_sipush (M := mX12_turnsTo) (v := 404) dX12_turnsTo_30 rfl, w_ic_ne (M := mX12_turnsTo) (tgt := 46) dX12_turnsTo_33 (by decide), w_aload_n0 (M := mX12_turnsTo) dX12_turnsTo_36, w_getA (M := mX12_turnsTo) dX12_turnsTo_37 f_12_84 rfl (by decide) (by decide), w_iload_n3 (M := mX12_turnsTo) dX12_turnsTo_40, w_aload_n0 (M := mX12_turnsTo) dX12_turnsTo_41, w_getI (M := mX12_turnsTo) dX12_turnsTo_42 f_12_296 rfl (by decide) (by decide), w_iastore (M := mX12_turnsTo) dX12_turnsTo_45, w_aload_n0 (M := mX12_turnsTo) dX12_turnsTo_46, w_getA (M := mX12_turnsTo) dX12_turnsTo_47 f_12_51 rfl (by decide) (by decide), w_aload_n0 (M := mX12_turnsTo) dX12_turnsTo_50, w_getI (M := mX12_turnsTo) dX12_turnsTo_51 f_12_299 rfl (by decide) (by decide), w_iconst (M := mX12_turnsTo) (v := 1) dX12_turnsTo_54 rfl, w_isub (M := mX12_turnsTo) dX12_turnsTo_55, w_iload_n1 (M := mX12_turnsTo) dX12_turnsTo_56, w_iastore (M := mX12_turnsTo) dX12_turnsTo_57, w_aload_n0 (M := mX12_turnsTo) dX12_turnsTo_58, c_12_311 (M := mX12_turnsTo) dX12_turnsTo_59 rfl, w_aload_n0 (M := mX12_turnsTo) dX12_turnsTo_62, w_iconst (M := mX12_turnsTo) (v := 1) dX12_turnsTo_63 rfl, w_putI (M := mX12_turnsTo) dX12_turnsTo_64 f_12_334 rfl (Or.inl rfl), w_vret (M := mX12_turnsTo) dX12_turnsTo_67 rfl, Kn_v_, Kn_n_, kl_i_, kl_a_, kl_l_, kl_n_, s1_0_, s2_0_, s1_1, s1_2, s1_3, s1_4, s1_5, s1_6, s1_7, s1_8, s1_9, s1_10, s1_11, s1_12, s1_13, s1_14, s2_1, s2_2, s2_3, s2_4, s2_5, s2_6, s2_7, s2_8, s2_9, s2_10, s2_11, s2_12, s2_13, s2_14, List.map_nil, List.map_cons, List.sum_nil, List.sum_cons, ct_i_, ct_r_, ct_l_, t_si_, t_sl_, t_sr_, n_si_, n_sl_, n_sr_, i_si_, i_sl_, i_sr_, l_si_, l_sl_, l_sr_, r_si_, r_sl_, r_sr_, vr_s_, vr_n_, nz_0_, nz_1_, PA.R.e, hRE.e, hRC.e, em, e22, x3, x4, x5, nx]
  · rw [ine (by omega)]
    exact oC p i (by omega) (by omega) (by omega) (by omega) (by omega)
  · rw [ine (by omega), fr.2.2 _ _ (by omega), eB, ine (by omega), emR_i (by omega) (by omega), eA, ieq rfl rfl]
  · rw [ine (by omega), fr.2.2 _ _ (by omega), eB, ieq rfl rfl]
  · rw [ine (by omega), fr.2.2 _ _ (by omega), eB, ine (by omega)]; exact emR_o.1
set_option maxHeartbeats 1000000 in
theorem rq_turn4 (P : okP t n T w j h) (hx : T[j]? = some x) (nz : ¬ x.1 = 0) (K : okK g (m + 1) ω o h) (lm : m < 40) (lg : g < 400) (hg1 : a_i h 142 (m + 1) = nI g1) (lg1 : g1 < g) : ∃ h', (∀ Q, Cal (d + 3) mX12_turnsTo [.ref 126, .int a, .int 404] h Q = Q none h') ∧ okP t n T w (j + 1) h' ∧ okK (g + 1) (m + 1) ω o h' ∧ rF m ω g1 h h' ∧ a_i h' 142 (m + 1) = nI g ∧ a_i h' 138 m = a ∧ a_i h' 148 g = 404 ∧ a_i h' 126 28 = 1 ∧ a_i h' 149 g1 = nI (g + 1) ∧ ∀ p i, (p = 148 ∨ p = 149) → ¬ i = g → ¬ (p = 149 ∧ i = g1) → a_i h' p i = a_i h p i := by
  have hR := P.R
  have k2 := K.2.1
  have k4 := K.2.2.2.1
  obtain ⟨A, eA⟩ : ∃ A, A = s_i h 142 (m + 1) (nI g) := ⟨_, rfl⟩
  have PA : okP t n T w j A := by rw [eA]; exact P.fr sm.rf (fun k hk => ine (by omega)) (fun k => ine (by omega))
  have KA : okK g (m + 1) ω o A := by
    obtain ⟨k1, k2, k3, k4, k5⟩ := K
    rw [eA]
    exact ⟨by rw [ine (by omega)]; exact k1, by rw [ine (by omega)]; exact k2, by rw [ine (by omega)]; exact k3, by rw [ine (by omega)]; exact k4, fun i hi => by rw [ine (by omega)]; exact k5 i hi⟩
  have em : ∀ Q, Cal (d + 2) mX12_emits [.ref 126, .int 404, .int 0] A Q = Q none (emR A g 404 0) := fun Q => rq_emit PA.R KA.2.2.2.1 lg
  obtain ⟨B, eB⟩ : ∃ B, B = s_i (s_i (emR A g 404 0) 149 g1 (nI (g + 1))) 138 m a := ⟨_, rfl⟩
  have PB : okP t n T w j B := by rw [eB]; exact (PA.em (g := g) (a := 404) (b := 0)).fr sm.rf (fun k hk => by rw [ine (by omega), ine (by omega)]) (fun k => by rw [ine (by omega), ine (by omega)])
  have KB : okK (g + 1) (m + 1) ω o B := by
    obtain ⟨k1, k2, k3, k4, k5⟩ := KA.em (a := 404) (b := 0)
    rw [eB]
    exact ⟨by rw [ine (by omega), ine (by omega)]; exact k1, by rw [ine (by omega), ine (by omega)]; exact k2, by rw [ine (by omega), ine (by omega)]; exact k3, by rw [ine (by omega), ine (by omega)]; exact k4, fun i hi => by rw [ine (by omega), ine (by omega)]; exact k5 i hi⟩
  obtain ⟨C, nx, fr, PC⟩ := rq_next (d := d) PB hx nz
  have hRE : sh_R (a_t (emR A g 404 0)) (a_r (emR A g 404 0)) := (PA.em (g := g) (a := 404) (b := 0)).R
  have hRC := PC.R
  have x1 : am_in1 (nI (m + 1)) 41 = True := by rw [in1_n (by omega)]; exact eq_true (by omega)
  have x2 := nI_c (a := m + 1) (by omega)
  have x3 : nI (m + 1) - 1 = nI m := nI_sb (b := 1) (by omega)
  have x4 : am_in1 (nI m) 40 = True := by rw [in1_n (by omega)]; exact eq_true lm
  have x5 := nI_c (a := m) (by omega)
  have x6 : am_in1 (nI g1) 400 = True := by rw [in1_n (by omega)]; exact eq_true (by omega)
  have x7 := nI_c (a := g1) (by omega)
  have e22 : a_i (emR A g 404 0) 126 22 = nI (m + 1) := (KA.em (a := 404) (b := 0)).2.1
  have e37 : a_i (emR A g 404 0) 126 37 = nI (g + 1) := emR_o.2.2
  have oC : ∀ p i, ¬ (p = 126 ∧ 15 ≤ i ∧ i ≤ 18) → ¬ (p = 138 ∧ i = m) → ¬ (p = 149 ∧ i = g1) → ¬ (p = 126 ∧ i = 37) → ¬ ((p = 148 ∨ p = 149) ∧ i = g) → ¬ (p = 142 ∧ i = m + 1) → a_i C p i = a_i h p i := fun p i n1 n2 n6 n3 n4 n5 => by
    rw [fr.2.2 _ _ n1, eB, ine n2, ine n6, emR_i n3 n4, eA, ine n5]
  have sC : sm h C := by
    have : sm B C := fr.1
    rw [eB, eA] at this
    exact this
  have lC : a_l C = a_l h := by rw [fr.2.1, eB, eA]; rfl
  refine ⟨s_i C 126 28 1, fun Q => ?_, PC.st, (KB.nx fr).st, ⟨sC, lC, fun p i n1 n2 n3 n4 n5 n6 => ?_⟩, ?_, ?_, ?_, ieq rfl rfl, ?_, fun p i p1 i1 i2 => ?_⟩
  · rw [eB] at nx
    have e : ∀ Q, Cal (d + 3) mX12_turnsTo [.ref 126, .int a, .int 404] h Q = WP (d + 3) mX12_turnsTo 26 [some (.ref 126), some (.int a), some (.int 404), some (.int (nI g1))] [.int 0, .int 404, .ref 126] A Q := fun Q => by
      rw [eA]
      unfold Cal
      rw [show m_l mX12_turnsTo = 4 from rfl]
      simp only [am_en, am_ag, ct_i, ct_r, ct_l, List.length_cons, List.length_nil, List.replicate]
      simp [w_aload_n0 (M := mX12_turnsTo) dX12_turnsTo_0, w_getA (M := mX12_turnsTo) dX12_turnsTo_1 f_12_63 rfl (by decide) (by decide), w_aload_n0 (M := mX12_turnsTo) dX12_turnsTo_4, w_getI (M := mX12_turnsTo) dX12_turnsTo_5 f_12_299 rfl (by decide) (by decide), w_iaload (M := mX12_turnsTo) dX12_turnsTo_8, w_istore_n (M := mX12_turnsTo) (i := 3) dX12_turnsTo_9 rfl (by decide), w_aload_n0 (M := mX12_turnsTo) dX12_turnsTo_10, w_getA (M := mX12_turnsTo) dX12_turnsTo_11 f_12_63 rfl (by decide) (by decide), w_aload_n0 (M := mX12_turnsTo) dX12_turnsTo_14, w_getI (M := mX12_turnsTo) dX12_turnsTo_15 f_12_299 rfl (by decide) (by decide), w_aload_n0 (M := mX12_turnsTo) dX12_turnsTo_18, w_getI (M := mX12_turnsTo) dX12_turnsTo_19 f_12_296 rfl (by decide) (by decide), w_iastore (M := mX12_turnsTo) dX12_turnsTo_22, w_aload_n0 (M := mX12_turnsTo) dX12_turnsTo_23, w_iload_n2 (M := mX12_turnsTo) dX12_turnsTo_24, w_iconst (M := mX12_turnsTo) (v := 0) dX12_turnsTo_25 rfl, Kn_v_, Kn_n_, kl_i_, kl_a_, kl_l_, kl_n_, s1_0_, s2_0_, s1_1, s1_2, s1_3, s1_4, s1_5, s1_6, s1_7, s1_8, s1_9, s1_10, s1_11, s1_12, s1_13, s1_14, s2_1, s2_2, s2_3, s2_4, s2_5, s2_6, s2_7, s2_8, s2_9, s2_10, s2_11, s2_12, s2_13, s2_14, List.map_nil, List.map_cons, List.sum_nil, List.sum_cons, ct_i_, ct_r_, ct_l_, t_si_, t_sl_, t_sr_, n_si_, n_sl_, n_sr_, i_si_, i_sl_, i_sr_, l_si_, l_sl_, l_sr_, r_si_, r_sl_, r_sr_, vr_s_, vr_n_, nz_0_, nz_1_, hR.e, k2, k4, x1, x2, hg1]
    rw [e]
    simp [c_12_321 (M := mX12_turnsTo) dX12_turnsTo_26 rfl, w_iload_n2 (M := mX12_turnsTo) dX12_turnsTo_29, w_sipush (M := mX12_turnsTo) (v := 404) dX12_turnsTo_30 rfl, w_ic_ne (M := mX12_turnsTo) (tgt := 46) dX12_turnsTo_33 (by decide), w_aload_n0 (M := mX12_turnsTo) dX12_turnsTo_36, w_getA (M := mX12_turnsTo) dX12_turnsTo_37 f_12_84 rfl (by decide) (by decide), w_iload_n3 (M := mX12_turnsTo) dX12_turnsTo_40, w_aload_n0 (M := mX12_turnsTo) dX12_turnsTo_41, w_getI (M := mX12_turnsTo) dX12_turnsTo_42 f_12_296 rfl (by decide) (by decide), w_iastore (M := mX12_turnsTo) dX12_turnsTo_45, w_aload_n0 (M := mX12_turnsTo) dX12_turnsTo_46, w_getA (M := mX12_turnsTo) dX12_turnsTo_47 f_12_51 rfl (by decide) (by decide), w_aload_n0 (M := mX12_turnsTo) dX12_turnsTo_50, w_getI (M := mX12_turnsTo) dX12_turnsTo_51 f_12_299 rfl (by decide) (by decide), w_iconst (M := mX12_turnsTo) (v := 1) dX12_turnsTo_54 rfl, w_isub (M := mX12_turnsTo) dX12_turnsTo_55, w_iload_n1 (M := mX12_turnsTo) dX12_turnsTo_56, w_iastore (M := mX12_turnsTo) dX12_turnsTo_57, w_aload_n0 (M := mX12_turnsTo) dX12_turnsTo_58, c_12_311 (M := mX12_turnsTo) dX12_turnsTo_59 rfl, w_aload_n0 (M := mX12_turnsTo) dX12_turnsTo_62, w_iconst (M := mX12_turnsTo) (v := 1) dX12_turnsTo_63 rfl, w_putI (M := mX12_turnsTo) dX12_turnsTo_64 f_12_334 rfl (Or.inl rfl), w_vret (M := mX12_turnsTo) dX12_turnsTo_67 rfl, Kn_v_, Kn_n_, kl_i_, kl_a_, kl_l_, kl_n_, s1_0_, s2_0_, s1_1, s1_2, s1_3, s1_4, s1_5, s1_6, s1_7, s1_8, s1_9, s1_10, s1_11, s1_12, s1_13, s1_14, s2_1, s2_2, s2_3, s2_4, s2_5, s2_6, s2_7, s2_8, s2_9, s2_10, s2_11, s2_12, s2_13, s2_14, List.map_nil, List.map_cons, List.sum_nil, List.sum_cons, ct_i_, ct_r_, ct_l_, t_si_, t_sl_, t_sr_, n_si_, n_sl_, n_sr_, i_si_, i_sl_, i_sr_, l_si_, l_sl_, l_sr_, r_si_, r_sl_, r_sr_, vr_s_, vr_n_, nz_0_, nz_1_, PA.R.e, hRE.e, hRC.e, em, e22, e37, x3, x4, x5, x6, x7, nx]
  · rw [ine (by omega)]
    exact oC p i (by omega) (by omega) (by omega) (by omega) (by omega) (by omega)
  · rw [ine (by omega), fr.2.2 _ _ (by omega), eB, ine (by omega), ine (by omega), emR_i (by omega) (by omega), eA, ieq rfl rfl]
  · rw [ine (by omega), fr.2.2 _ _ (by omega), eB, ieq rfl rfl]
  · rw [ine (by omega), fr.2.2 _ _ (by omega), eB, ine (by omega), ine (by omega)]; exact emR_o.1
  · rw [ine (by omega), fr.2.2 _ _ (by omega), eB, ine (by omega), ieq rfl rfl]
  · rw [ine (by omega)]
    exact oC p i (by omega) (by omega) i2 (by omega) (by omega) (by omega)
/-- the number of a name; none -/
theorem wm_n : ∀ w, w < 32 → (20 < wm w ↔ 21 ≤ w) ∧ (21 ≤ w → wm w = w) := by decide
theorem rq_nameNow {p : Prop} [Decidable p] (K : okP t n T w j h) (hx : T[j]? = some x) (hp : p ↔ x.1 = 3 ∧ 21 ≤ x.2.1 ∧ x.2.1 < 32) : Cal d mX12_nameNow [.ref 126] h Q = if p then Q (some (.int (nI (x.2.1 - 21)))) h else Q (some (.int (-1))) h := by
  rw [q_X12_nameNow (eq_true K.R)]
  rcases (K.tk hx).2 with ⟨k1, k2⟩ | ⟨k1, k2, -⟩ | ⟨k1, ⟨k4, k2, k3⟩ | ⟨k4, k2⟩⟩ | ⟨k1, k2, k3, k4⟩ | ⟨k1, k2⟩
  · rw [if_neg (by rw [k2]; decide), if_neg (by rw [hp]; omega)]
  · rw [if_neg (by rw [k2]; decide), if_neg (by rw [hp]; omega)]
  · obtain ⟨w1, w2⟩ := wm_n _ k4
    have wb := wm_b _ k4
    rw [if_pos k2, k3]
    have e : (20 < nI (wm x.2.1)) = (20 < wm x.2.1) := nI_lI (a := 20) (by omega) (by omega)
    by_cases c : 21 ≤ x.2.1
    · rw [if_pos (by rw [e]; exact w1.mpr c), if_pos (hp.mpr ⟨k1, c, k4⟩), w2 c, show nI x.2.1 - 20 - 1 = nI (x.2.1 - 21) from by rw [show (20 : Int32) = nI 20 from rfl, nI_sb (by omega), show (1 : Int32) = nI 1 from rfl, nI_sb (by omega)]; exact congrArg nI (by omega)]
    · rw [if_neg (by rw [e]; exact fun z => c (w1.mp z)), if_neg (by rw [hp]; omega)]
  · rw [if_neg (by rw [k2]; decide), if_neg (by rw [hp]; omega)]
  · rw [if_neg (by rw [k2]; decide), if_neg (by rw [hp]; omega)]
  · rw [if_neg (by rcases k2 with k2 | ⟨k2, -⟩ <;> rw [k2] <;> decide), if_neg (by rw [hp]; omega)]
theorem rq_mayName {p : Prop} [Decidable p] (hR : sh_R (a_t h) (a_r h)) (hp : p ↔ okN w m) (lw : w < 5) (lm : m < 11) : Cal d mX12_mayName [.int (nI m), .int (nI w)] h Q = Q (some (.int (if p then 1 else 0))) h := by
  have e1 : (nI m < 3) = (m < 3) := nI_lI (b := 3) (by omega) (by omega)
  have e2 : (nI m < 9) = (m < 9) := nI_lI (b := 9) (by omega) (by omega)
  have e3 : (nI w = 3) = (w = 3) := nI_inj (b := 3) (by omega) (by omega)
  have e4 : (nI w = 4) = (w = 4) := nI_inj (b := 4) (by omega) (by omega)
  have e5 : (nI m = 9) = (m = 9) := nI_inj (b := 9) (by omega) (by omega)
  have e6 : (nI m = 10) = (m = 10) := nI_inj (b := 10) (by omega) (by omega)
  rw [q_X12_mayName (eq_true hR)]
  unfold okN at hp
  by_cases c1 : m < 3
  · rw [if_pos (e1.mpr c1), if_pos (hp.mpr (by split <;> (try split) <;> omega))]
  rw [if_neg (fun z => c1 (e1.mp z))]
  by_cases c2 : w = 3
  · rw [if_pos (e3.mpr c2)]
    rw [if_pos c2] at hp
    by_cases c3 : m = 9
    · rw [if_pos (e5.mpr c3), if_pos (hp.mpr (Or.inr c3))]
    · rw [if_neg (fun z => c3 (e5.mp z)), if_neg (by rw [hp]; omega)]
  rw [if_neg (fun z => c2 (e3.mp z))]
  rw [if_neg c2] at hp
  by_cases c3 : w = 4
  · rw [if_pos (e4.mpr c3)]
    rw [if_pos c3] at hp
    by_cases c4 : m = 10
    · rw [if_pos (e6.mpr c4), if_pos (hp.mpr (Or.inr c4))]
    · rw [if_neg (fun z => c4 (e6.mp z)), if_neg (by rw [hp]; omega)]
  rw [if_neg (fun z => c3 (e4.mp z))]
  rw [if_neg c3] at hp
  by_cases c4 : m < 9
  · rw [if_pos (e2.mpr c4), if_pos (hp.mpr c4)]
  · rw [if_neg (fun z => c4 (e2.mp z)), if_neg (by rw [hp]; omega)]
theorem cq_isOf {p : Prop} [Decidable p] (hC : sh_C (a_t h) (a_r h)) (hw : a_i h 86 5 = nI w) (hp : p ↔ okN w m) (lw : w < 5) (lm : m < 11) : Cal d mX7_isOfClause [.ref 86, .int (nI m)] h Q = Q (some (.int (if p then 1 else 0))) h := by
  have e1 : (nI m < 3) = (m < 3) := nI_lI (b := 3) (by omega) (by omega)
  have e1' : (3 ≤ nI m) = (3 ≤ m) := nI_lE (a := 3) (by omega) (by omega)
  have e3 : ∀ c, c < 5 → (nI w = nI c) = (w = c) := fun c hc => nI_inj (by omega) (by omega)
  have e5 : (nI m = 9) = (m = 9) := nI_inj (b := 9) (by omega) (by omega)
  have e6 : (nI m = 10) = (m = 10) := nI_inj (b := 10) (by omega) (by omega)
  have f0 : (nI w = 0) = (w = 0) := e3 0 (by omega)
  have f1 : (nI w = 1) = (w = 1) := e3 1 (by omega)
  have f2 : (nI w = 2) = (w = 2) := e3 2 (by omega)
  have f3 : (nI w = 3) = (w = 3) := e3 3 (by omega)
  have f4 : (nI w = 4) = (w = 4) := e3 4 (by omega)
  unfold okN at hp
  unfold Cal
  rw [show m_l mX7_isOfClause = 2 from rfl]
  simp only [am_en, am_ag, ct_i, ct_r, ct_l, List.length_cons, List.length_nil, List.replicate]
  have lw2 : w = 0 ∨ w = 1 ∨ w = 2 ∨ w = 3 ∨ w = 4 := by omega
  have lm2 : m = 9 ∨ m = 10 ∨ m < 3 ∨ (3 ≤ m ∧ m < 9) := by omega
  rcases lm2 with c | c | c | c
  · rcases lw2 with v | v | v | v | v <;> subst v <;> subst c <;> simp at hp <;> simp [w_iload_n1 (M := mX7_isOfClause) dX7_isOfClause_0, w_bipush (M := mX7_isOfClause) (v := 9) dX7_isOfClause_1 rfl, w_ic_ne (M := mX7_isOfClause) (tgt := 20) dX7_isOfClause_3 (by decide), w_aload_n0 (M := mX7_isOfClause) dX7_isOfClause_6, w_getI (M := mX7_isOfClause) dX7_isOfClause_7 f_7_130 rfl (by decide) (by decide), w_iconst (M := mX7_isOfClause) (v := 3) dX7_isOfClause_10 rfl, w_ic_ne (M := mX7_isOfClause) (tgt := 18) dX7_isOfClause_11 (by decide), w_iconst (M := mX7_isOfClause) (v := 1) dX7_isOfClause_14 rfl, w_goto (M := mX7_isOfClause) (tgt := 19) dX7_isOfClause_15 (by decide), w_iconst (M := mX7_isOfClause) (v := 0) dX7_isOfClause_18 rfl, w_ireturn (M := mX7_isOfClause) dX7_isOfClause_19 rfl, w_iload_n1 (M := mX7_isOfClause) dX7_isOfClause_20, w_bipush (M := mX7_isOfClause) (v := 10) dX7_isOfClause_21 rfl, w_ic_ne (M := mX7_isOfClause) (tgt := 40) dX7_isOfClause_23 (by decide), w_aload_n0 (M := mX7_isOfClause) dX7_isOfClause_26, w_getI (M := mX7_isOfClause) dX7_isOfClause_27 f_7_130 rfl (by decide) (by decide), w_iconst (M := mX7_isOfClause) (v := 4) dX7_isOfClause_30 rfl, w_ic_ne (M := mX7_isOfClause) (tgt := 38) dX7_isOfClause_31 (by decide), w_iconst (M := mX7_isOfClause) (v := 1) dX7_isOfClause_34 rfl, w_goto (M := mX7_isOfClause) (tgt := 39) dX7_isOfClause_35 (by decide), w_iconst (M := mX7_isOfClause) (v := 0) dX7_isOfClause_38 rfl, w_ireturn (M := mX7_isOfClause) dX7_isOfClause_39 rfl, w_iload_n1 (M := mX7_isOfClause) dX7_isOfClause_40, w_iconst (M := mX7_isOfClause) (v := 3) dX7_isOfClause_41 rfl, w_ic_lt (M := mX7_isOfClause) (tgt := 68) dX7_isOfClause_42 (by decide), w_aload_n0 (M := mX7_isOfClause) dX7_isOfClause_45, w_getI (M := mX7_isOfClause) dX7_isOfClause_46 f_7_130 rfl (by decide) (by decide), w_if_eq (M := mX7_isOfClause) (tgt := 68) dX7_isOfClause_49 (by decide), w_aload_n0 (M := mX7_isOfClause) dX7_isOfClause_52, w_getI (M := mX7_isOfClause) dX7_isOfClause_53 f_7_130 rfl (by decide) (by decide), w_iconst (M := mX7_isOfClause) (v := 1) dX7_isOfClause_56 rfl, w_ic_eq (M := mX7_isOfClause) (tgt := 68) dX7_isOfClause_57 (by decide), w_aload_n0 (M := mX7_isOfClause) dX7_isOfClause_60, w_getI (M := mX7_isOfClause) dX7_isOfClause_61 f_7_130 rfl (by decide) (by decide), w_iconst (M := mX7_isOfClause) (v := 2) dX7_isOfClause_64 rfl, w_ic_ne (M := mX7_isOfClause) (tgt := 72) dX7_isOfClause_65 (by decide), w_iconst (M := mX7_isOfClause) (v := 1) dX7_isOfClause_68 rfl, w_goto (M := mX7_isOfClause) (tgt := 73) dX7_isOfClause_69 (by decide), w_iconst (M := mX7_isOfClause) (v := 0) dX7_isOfClause_72 rfl, w_ireturn (M := mX7_isOfClause) dX7_isOfClause_73 rfl, Kn_v_, Kn_n_, kl_i_, kl_a_, kl_l_, kl_n_, s1_0_, s2_0_, s1_1, s1_2, s1_3, s1_4, s1_5, s1_6, s1_7, s1_8, s1_9, s1_10, s1_11, s1_12, s1_13, s1_14, s2_1, s2_2, s2_3, s2_4, s2_5, s2_6, s2_7, s2_8, s2_9, s2_10, s2_11, s2_12, s2_13, s2_14, List.map_nil, List.map_cons, List.sum_nil, List.sum_cons, ct_i_, ct_r_, ct_l_, t_si_, t_sl_, t_sr_, n_si_, n_sl_, n_sr_, i_si_, i_sl_, i_sr_, l_si_, l_sl_, l_sr_, r_si_, r_sl_, r_sr_, vr_s_, vr_n_, nz_0_, nz_1_, hC.e, hw, hp, show nI 9 = 9 from rfl, show nI 0 = 0 from rfl, show nI 1 = 1 from rfl, show nI 2 = 2 from rfl, show nI 3 = 3 from rfl, show nI 4 = 4 from rfl]
  · rcases lw2 with v | v | v | v | v <;> subst v <;> subst c <;> simp at hp <;> simp [w_iload_n1 (M := mX7_isOfClause) dX7_isOfClause_0, w_bipush (M := mX7_isOfClause) (v := 9) dX7_isOfClause_1 rfl, w_ic_ne (M := mX7_isOfClause) (tgt := 20) dX7_isOfClause_3 (by decide), w_aload_n0 (M := mX7_isOfClause) dX7_isOfClause_6, w_getI (M := mX7_isOfClause) dX7_isOfClause_7 f_7_130 rfl (by decide) (by decide), w_iconst (M := mX7_isOfClause) (v := 3) dX7_isOfClause_10 rfl, w_ic_ne (M := mX7_isOfClause) (tgt := 18) dX7_isOfClause_11 (by decide), w_iconst (M := mX7_isOfClause) (v := 1) dX7_isOfClause_14 rfl, w_goto (M := mX7_isOfClause) (tgt := 19) dX7_isOfClause_15 (by decide), w_iconst (M := mX7_isOfClause) (v := 0) dX7_isOfClause_18 rfl, w_ireturn (M := mX7_isOfClause) dX7_isOfClause_19 rfl, w_iload_n1 (M := mX7_isOfClause) dX7_isOfClause_20, w_bipush (M := mX7_isOfClause) (v := 10) dX7_isOfClause_21 rfl, w_ic_ne (M := mX7_isOfClause) (tgt := 40) dX7_isOfClause_23 (by decide), w_aload_n0 (M := mX7_isOfClause) dX7_isOfClause_26, w_getI (M := mX7_isOfClause) dX7_isOfClause_27 f_7_130 rfl (by decide) (by decide), w_iconst (M := mX7_isOfClause) (v := 4) dX7_isOfClause_30 rfl, w_ic_ne (M := mX7_isOfClause) (tgt := 38) dX7_isOfClause_31 (by decide), w_iconst (M := mX7_isOfClause) (v := 1) dX7_isOfClause_34 rfl, w_goto (M := mX7_isOfClause) (tgt := 39) dX7_isOfClause_35 (by decide), w_iconst (M := mX7_isOfClause) (v := 0) dX7_isOfClause_38 rfl, w_ireturn (M := mX7_isOfClause) dX7_isOfClause_39 rfl, w_iload_n1 (M := mX7_isOfClause) dX7_isOfClause_40, w_iconst (M := mX7_isOfClause) (v := 3) dX7_isOfClause_41 rfl, w_ic_lt (M := mX7_isOfClause) (tgt := 68) dX7_isOfClause_42 (by decide), w_aload_n0 (M := mX7_isOfClause) dX7_isOfClause_45, w_getI (M := mX7_isOfClause) dX7_isOfClause_46 f_7_130 rfl (by decide) (by decide), w_if_eq (M := mX7_isOfClause) (tgt := 68) dX7_isOfClause_49 (by decide), w_aload_n0 (M := mX7_isOfClause) dX7_isOfClause_52, w_getI (M := mX7_isOfClause) dX7_isOfClause_53 f_7_130 rfl (by decide) (by decide), w_iconst (M := mX7_isOfClause) (v := 1) dX7_isOfClause_56 rfl, w_ic_eq (M := mX7_isOfClause) (tgt := 68) dX7_isOfClause_57 (by decide), w_aload_n0 (M := mX7_isOfClause) dX7_isOfClause_60, w_getI (M := mX7_isOfClause) dX7_isOfClause_61 f_7_130 rfl (by decide) (by decide), w_iconst (M := mX7_isOfClause) (v := 2) dX7_isOfClause_64 rfl, w_ic_ne (M := mX7_isOfClause) (tgt := 72) dX7_isOfClause_65 (by decide), w_iconst (M := mX7_isOfClause) (v := 1) dX7_isOfClause_68 rfl, w_goto (M := mX7_isOfClause) (tgt := 73) dX7_isOfClause_69 (by decide), w_iconst (M := mX7_isOfClause) (v := 0) dX7_isOfClause_72 rfl, w_ireturn (M := mX7_isOfClause) dX7_isOfClause_73 rfl, Kn_v_, Kn_n_, kl_i_, kl_a_, kl_l_, kl_n_, s1_0_, s2_0_, s1_1, s1_2, s1_3, s1_4, s1_5, s1_6, s1_7, s1_8, s1_9, s1_10, s1_11, s1_12, s1_13, s1_14, s2_1, s2_2, s2_3, s2_4, s2_5, s2_6, s2_7, s2_8, s2_9, s2_10, s2_11, s2_12, s2_13, s2_14, List.map_nil, List.map_cons, List.sum_nil, List.sum_cons, ct_i_, ct_r_, ct_l_, t_si_, t_sl_, t_sr_, n_si_, n_sl_, n_sr_, i_si_, i_sl_, i_sr_, l_si_, l_sl_, l_sr_, r_si_, r_sl_, r_sr_, vr_s_, vr_n_, nz_0_, nz_1_, hC.e, hw, hp, show nI 10 = 10 from rfl, show nI 0 = 0 from rfl, show nI 1 = 1 from rfl, show nI 2 = 2 from rfl, show nI 3 = 3 from rfl, show nI 4 = 4 from rfl]
  · have g5 : ¬ m = 9 := by omega
    have g6 : ¬ m = 10 := by omega
    have g7 : m < 9 := by omega
    have g1 : ¬ 3 ≤ m := by omega
    have hp1 : p := hp.mpr (by split <;> (try split) <;> omega)
    simp [w_iload_n1 (M := mX7_isOfClause) dX7_isOfClause_0, w_bipush (M := mX7_isOfClause) (v := 9) dX7_isOfClause_1 rfl, w_ic_ne (M := mX7_isOfClause) (tgt := 20) dX7_isOfClause_3 (by decide), w_aload_n0 (M := mX7_isOfClause) dX7_isOfClause_6, w_getI (M := mX7_isOfClause) dX7_isOfClause_7 f_7_130 rfl (by decide) (by decide), w_iconst (M := mX7_isOfClause) (v := 3) dX7_isOfClause_10 rfl, w_ic_ne (M := mX7_isOfClause) (tgt := 18) dX7_isOfClause_11 (by decide), w_iconst (M := mX7_isOfClause) (v := 1) dX7_isOfClause_14 rfl, w_goto (M := mX7_isOfClause) (tgt := 19) dX7_isOfClause_15 (by decide), w_iconst (M := mX7_isOfClause) (v := 0) dX7_isOfClause_18 rfl, w_ireturn (M := mX7_isOfClause) dX7_isOfClause_19 rfl, w_iload_n1 (M := mX7_isOfClause) dX7_isOfClause_20, w_bipush (M := mX7_isOfClause) (v := 10) dX7_isOfClause_21 rfl, w_ic_ne (M := mX7_isOfClause) (tgt := 40) dX7_isOfClause_23 (by decide), w_aload_n0 (M := mX7_isOfClause) dX7_isOfClause_26, w_getI (M := mX7_isOfClause) dX7_isOfClause_27 f_7_130 rfl (by decide) (by decide), w_iconst (M := mX7_isOfClause) (v := 4) dX7_isOfClause_30 rfl, w_ic_ne (M := mX7_isOfClause) (tgt := 38) dX7_isOfClause_31 (by decide), w_iconst (M := mX7_isOfClause) (v := 1) dX7_isOfClause_34 rfl, w_goto (M := mX7_isOfClause) (tgt := 39) dX7_isOfClause_35 (by decide), w_iconst (M := mX7_isOfClause) (v := 0) dX7_isOfClause_38 rfl, w_ireturn (M := mX7_isOfClause) dX7_isOfClause_39 rfl, w_iload_n1 (M := mX7_isOfClause) dX7_isOfClause_40, w_iconst (M := mX7_isOfClause) (v := 3) dX7_isOfClause_41 rfl, w_ic_lt (M := mX7_isOfClause) (tgt := 68) dX7_isOfClause_42 (by decide), w_aload_n0 (M := mX7_isOfClause) dX7_isOfClause_45, w_getI (M := mX7_isOfClause) dX7_isOfClause_46 f_7_130 rfl (by decide) (by decide), w_if_eq (M := mX7_isOfClause) (tgt := 68) dX7_isOfClause_49 (by decide), w_aload_n0 (M := mX7_isOfClause) dX7_isOfClause_52, w_getI (M := mX7_isOfClause) dX7_isOfClause_53 f_7_130 rfl (by decide) (by decide), w_iconst (M := mX7_isOfClause) (v := 1) dX7_isOfClause_56 rfl, w_ic_eq (M := mX7_isOfClause) (tgt := 68) dX7_isOfClause_57 (by decide), w_aload_n0 (M := mX7_isOfClause) dX7_isOfClause_60, w_getI (M := mX7_isOfClause) dX7_isOfClause_61 f_7_130 rfl (by decide) (by decide), w_iconst (M := mX7_isOfClause) (v := 2) dX7_isOfClause_64 rfl, w_ic_ne (M := mX7_isOfClause) (tgt := 72) dX7_isOfClause_65 (by decide), w_iconst (M := mX7_isOfClause) (v := 1) dX7_isOfClause_68 rfl, w_goto (M := mX7_isOfClause) (tgt := 73) dX7_isOfClause_69 (by decide), w_iconst (M := mX7_isOfClause) (v := 0) dX7_isOfClause_72 rfl, w_ireturn (M := mX7_isOfClause) dX7_isOfClause_73 rfl, Kn_v_, Kn_n_, kl_i_, kl_a_, kl_l_, kl_n_, s1_0_, s2_0_, s1_1, s1_2, s1_3, s1_4, s1_5, s1_6, s1_7, s1_8, s1_9, s1_10, s1_11, s1_12, s1_13, s1_14, s2_1, s2_2, s2_3, s2_4, s2_5, s2_6, s2_7, s2_8, s2_9, s2_10, s2_11, s2_12, s2_13, s2_14, List.map_nil, List.map_cons, List.sum_nil, List.sum_cons, ct_i_, ct_r_, ct_l_, t_si_, t_sl_, t_sr_, n_si_, n_sl_, n_sr_, i_si_, i_sl_, i_sr_, l_si_, l_sl_, l_sr_, r_si_, r_sl_, r_sr_, vr_s_, vr_n_, nz_0_, nz_1_, hC.e, hw, hp1, e1, e1', e5, e6, g5, g6, c, g1]
  · have g5 : ¬ m = 9 := by omega
    have g6 : ¬ m = 10 := by omega
    have g1 : ¬ m < 3 := by omega
    have g3 : 3 ≤ m := c.1
    have g7 : m < 9 := c.2
    rcases lw2 with v | v | v | v | v <;> subst v <;> simp [g5, g6, g1, g7] at hp <;> simp [w_iload_n1 (M := mX7_isOfClause) dX7_isOfClause_0, w_bipush (M := mX7_isOfClause) (v := 9) dX7_isOfClause_1 rfl, w_ic_ne (M := mX7_isOfClause) (tgt := 20) dX7_isOfClause_3 (by decide), w_aload_n0 (M := mX7_isOfClause) dX7_isOfClause_6, w_getI (M := mX7_isOfClause) dX7_isOfClause_7 f_7_130 rfl (by decide) (by decide), w_iconst (M := mX7_isOfClause) (v := 3) dX7_isOfClause_10 rfl, w_ic_ne (M := mX7_isOfClause) (tgt := 18) dX7_isOfClause_11 (by decide), w_iconst (M := mX7_isOfClause) (v := 1) dX7_isOfClause_14 rfl, w_goto (M := mX7_isOfClause) (tgt := 19) dX7_isOfClause_15 (by decide), w_iconst (M := mX7_isOfClause) (v := 0) dX7_isOfClause_18 rfl, w_ireturn (M := mX7_isOfClause) dX7_isOfClause_19 rfl, w_iload_n1 (M := mX7_isOfClause) dX7_isOfClause_20, w_bipush (M := mX7_isOfClause) (v := 10) dX7_isOfClause_21 rfl, w_ic_ne (M := mX7_isOfClause) (tgt := 40) dX7_isOfClause_23 (by decide), w_aload_n0 (M := mX7_isOfClause) dX7_isOfClause_26, w_getI (M := mX7_isOfClause) dX7_isOfClause_27 f_7_130 rfl (by decide) (by decide), w_iconst (M := mX7_isOfClause) (v := 4) dX7_isOfClause_30 rfl, w_ic_ne (M := mX7_isOfClause) (tgt := 38) dX7_isOfClause_31 (by decide), w_iconst (M := mX7_isOfClause) (v := 1) dX7_isOfClause_34 rfl, w_goto (M := mX7_isOfClause) (tgt := 39) dX7_isOfClause_35 (by decide), w_iconst (M := mX7_isOfClause) (v := 0) dX7_isOfClause_38 rfl, w_ireturn (M := mX7_isOfClause) dX7_isOfClause_39 rfl, w_iload_n1 (M := mX7_isOfClause) dX7_isOfClause_40, w_iconst (M := mX7_isOfClause) (v := 3) dX7_isOfClause_41 rfl, w_ic_lt (M := mX7_isOfClause) (tgt := 68) dX7_isOfClause_42 (by decide), w_aload_n0 (M := mX7_isOfClause) dX7_isOfClause_45, w_getI (M := mX7_isOfClause) dX7_isOfClause_46 f_7_130 rfl (by decide) (by decide), w_if_eq (M := mX7_isOfClause) (tgt := 68) dX7_isOfClause_49 (by decide), w_aload_n0 (M := mX7_isOfClause) dX7_isOfClause_52, w_getI (M := mX7_isOfClause) dX7_isOfClause_53 f_7_130 rfl (by decide) (by decide), w_iconst (M := mX7_isOfClause) (v := 1) dX7_isOfClause_56 rfl, w_ic_eq (M := mX7_isOfClause) (tgt := 68) dX7_isOfClause_57 (by decide), w_aload_n0 (M := mX7_isOfClause) dX7_isOfClause_60, w_getI (M := mX7_isOfClause) dX7_isOfClause_61 f_7_130 rfl (by decide) (by decide), w_iconst (M := mX7_isOfClause) (v := 2) dX7_isOfClause_64 rfl, w_ic_ne (M := mX7_isOfClause) (tgt := 72) dX7_isOfClause_65 (by decide), w_iconst (M := mX7_isOfClause) (v := 1) dX7_isOfClause_68 rfl, w_goto (M := mX7_isOfClause) (tgt := 73) dX7_isOfClause_69 (by decide), w_iconst (M := mX7_isOfClause) (v := 0) dX7_isOfClause_72 rfl, w_ireturn (M := mX7_isOfClause) dX7_isOfClause_73 rfl, Kn_v_, Kn_n_, kl_i_, kl_a_, kl_l_, kl_n_, s1_0_, s2_0_, s1_1, s1_2, s1_3, s1_4, s1_5, s1_6, s1_7, s1_8, s1_9, s1_10, s1_11, s1_12, s1_13, s1_14, s2_1, s2_2, s2_3, s2_4, s2_5, s2_6, s2_7, s2_8, s2_9, s2_10, s2_11, s2_12, s2_13, s2_14, List.map_nil, List.map_cons, List.sum_nil, List.sum_cons, ct_i_, ct_r_, ct_l_, t_si_, t_sl_, t_sr_, n_si_, n_sl_, n_sr_, i_si_, i_sl_, i_sr_, l_si_, l_sl_, l_sr_, r_si_, r_sl_, r_sr_, vr_s_, vr_n_, nz_0_, nz_1_, hC.e, hw, hp, e1, e1', e5, e6, g5, g6, g1, g3, show nI 0 = 0 from rfl, show nI 1 = 1 from rfl, show nI 2 = 2 from rfl, show nI 3 = 3 from rfl, show nI 4 = 4 from rfl]
end RTURN
