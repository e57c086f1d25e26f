/-! the other side: where one begins -/
section RBEGIN
variable {d n g j φ ω o w y m k r op F : Nat} {h h' h'' h2 : am_h} {Q : Option Value → am_h → Prop} {f s a b : Int32} {T : List (Nat × Nat × Nat)} {x : Nat × Nat × Nat} {t : Nat → Nat}
theorem tk_2 {s v : Int32} (k : tkR x s v) (e : x.1 = 2) : s = 2 ∧ ∃ w, v = nI w ∧ nR x.2.1 w := by
  rcases k with ⟨k1, -⟩ | ⟨-, k2, k3⟩ | ⟨k1, -⟩ | ⟨k1, -⟩ | ⟨k1, -⟩
  · omega
  · exact ⟨k2, k3⟩
  · omega
  · omega
  · omega
theorem tk_n2 {s v : Int32} (k : tkR x s v) (e : ¬ x.1 = 2) : ¬ s = 2 := by
  rcases k with ⟨k1, k2⟩ | ⟨k1, k2, -⟩ | ⟨k1, ⟨k4, k2, k3⟩ | ⟨k4, k2⟩⟩ | ⟨k1, k2, k3, k4⟩ | ⟨k1, k2 | ⟨k2, -⟩⟩
  · rw [k2]; decide
  · exact absurd k1 e
  · rw [k2]; decide
  · rw [k2]; decide
  · rw [k2]; decide
  · rw [k2]; decide
  · rw [k2]; decide
theorem bg_num (P : okP t n T w j h) (hx : T[j]? = some x) (K : okK g φ ω o h) (hs : a_i h 126 28 = 1) (lg : g < 400) (x1 : x.1 = 2) (x2 : x.2.1 ≤ 9999) : ∃ h1, okP t n T w (j + 1) h1 ∧ okK (g + 1) φ ω o h1 ∧ rF φ ω g h h1 ∧ a_i h1 148 g = 400 ∧ a_i h1 149 g = nI x.2.1 ∧ ∀ h'', (∀ Q, Cal (d + 8) mX12_oneIsOver [.ref 126] h1 Q = Q none h'') → ∀ Q, LPH d h Q = LPH d h'' Q := by
  have hR := P.R
  obtain ⟨s2, w', e18, r⟩ := tk_2 (P.tk hx).2 x1
  have ew : w' = x.2.1 := by unfold nR at r; omega
  subst ew
  have nn : ∀ Q, Cal (d + 8) mX12_nameNow [.ref 126] h Q = Q (some (.int (-1))) h := fun Q => by
    have z := rq_nameNow (d := d + 8) (Q := Q) (p := False) P hx (by simp; omega)
    rw [if_neg (fun z => z)] at z
    exact z
  have c1 : (nI x.2.1 ≤ 9999) = True := by rw [show (9999 : Int32) = nI 9999 from rfl, nI_lE (by omega) (by omega)]; exact eq_true x2
  have c2 : (9999 < nI x.2.1) = False := by rw [show (9999 : Int32) = nI 9999 from rfl]; exact nI_ltF (by omega) (by omega)
  have em : ∀ Q, Cal (d + 8) mX12_emits [.ref 126, .int 400, .int (nI x.2.1)] h Q = Q none (emR h g 400 (nI x.2.1)) := fun Q => rq_emit hR K.2.2.2.1 lg
  obtain ⟨h1, nx, fr, P'⟩ := rq_next (d := d + 6) (P.em (g := g) (a := 400) (b := nI x.2.1)) hx (by omega)
  have hE := (P.em (g := g) (a := 400) (b := nI x.2.1)).R
  refine ⟨h1, P', K.em.nx fr, emR_F.tr fr.F (Nat.le_refl _) (Nat.le_refl _) (Nat.le_refl _), ?_, ?_, fun h'' c Q => lp_1 hR P.2.1 hs (fun Q => ?_)⟩
  · rw [fr.2.2 _ _ (by omega)]; exact emR_o.1
  · rw [fr.2.2 _ _ (by omega)]; exact emR_o.2.1
  · unfold Cal
    rw [show m_l mX12_begins = 3 from rfl]
    simp only [am_en, am_ag, ct_i, ct_r, ct_l, List.length_cons, List.length_nil, List.replicate]
    simp [w_aload_n0 (M := mX12_begins) dX12_begins_0, c_12_337 (M := mX12_begins) dX12_begins_1 rfl, w_istore_n (M := mX12_begins) (i := 1) dX12_begins_4 rfl (by decide), w_aload_n0 (M := mX12_begins) dX12_begins_5, w_getI (M := mX12_begins) dX12_begins_6 f_12_274 rfl (by decide) (by decide), w_iconst (M := mX12_begins) (v := 2) dX12_begins_9 rfl, w_ic_ne (M := mX12_begins) (tgt := 51) dX12_begins_10 (by decide), w_aload_n0 (M := mX12_begins) dX12_begins_13, w_getI (M := mX12_begins) dX12_begins_14 f_12_286 rfl (by decide) (by decide), w_sipush (M := mX12_begins) (v := 9999) dX12_begins_17 rfl, w_ic_le (M := mX12_begins) (tgt := 29) dX12_begins_20 (by decide), w_aload_n0 (M := mX12_begins) dX12_begins_23, w_iconst (M := mX12_begins) (v := 2) dX12_begins_24 rfl, c_12_305 (M := mX12_begins) dX12_begins_25 rfl, w_vret (M := mX12_begins) dX12_begins_28 rfl, w_aload_n0 (M := mX12_begins) dX12_begins_29, w_sipush (M := mX12_begins) (v := 400) dX12_begins_30 rfl, w_aload_n0 (M := mX12_begins) dX12_begins_33, w_getI (M := mX12_begins) dX12_begins_34 f_12_286 rfl (by decide) (by decide), c_12_321 (M := mX12_begins) dX12_begins_37 rfl, w_aload_n0 (M := mX12_begins) dX12_begins_40, c_12_311 (M := mX12_begins) dX12_begins_41 rfl, w_aload_n0 (M := mX12_begins) dX12_begins_44, c_12_341 (M := mX12_begins) dX12_begins_45 rfl, w_goto (M := mX12_begins) (tgt := 160) dX12_begins_48 (by decide), w_vret (M := mX12_begins) dX12_begins_160 rfl, Kn_v_, Kn_n_, kl_i_, kl_a_, kl_l_, kl_n_, s1_0_, s2_0_, s1_1, s1_2, s1_3, s1_4, s1_5, s1_6, s1_7, s1_8, s1_9, s1_10, s1_11, s1_12, s1_13, s1_14, s2_1, s2_2, s2_3, s2_4, s2_5, s2_6, s2_7, s2_8, s2_9, s2_10, s2_11, s2_12, s2_13, s2_14, List.map_nil, List.map_cons, List.sum_nil, List.sum_cons, ct_i_, ct_r_, ct_l_, t_si_, t_sl_, t_sr_, n_si_, n_sl_, n_sr_, i_si_, i_sl_, i_sr_, l_si_, l_sl_, l_sr_, r_si_, r_sl_, r_sr_, vr_s_, vr_n_, nz_0_, nz_1_, hR.e, hE.e, P'.R.e, nn, s2, e18, c1, c2, em, nx, c]
theorem bg_num2 (P : okP t n T w j h) (hx : T[j]? = some x) (hs : a_i h 126 28 = 1) (x1 : x.1 = 2) (x2 : ¬ x.2.1 ≤ 9999) : ∃ h', flR 2 (nI x.2.2) h h' ∧ ∀ Q, LPH d h Q = LPH d h' Q := by
  have hR := P.R
  obtain ⟨s2, w', e18, r⟩ := tk_2 (P.tk hx).2 x1
  have ew : 9999 < w' ∧ w' < 2000000 := by unfold nR at r; omega
  have nn : ∀ Q, Cal (d + 8) mX12_nameNow [.ref 126] h Q = Q (some (.int (-1))) h := fun Q => by
    have z := rq_nameNow (d := d + 8) (Q := Q) (p := False) P hx (by simp; omega)
    rw [if_neg (fun z => z)] at z
    exact z
  have c1 : (nI w' ≤ 9999) = False := by rw [show (9999 : Int32) = nI 9999 from rfl, nI_lE (by omega) (by omega)]; exact eq_false (by omega)
  have c2 : (9999 < nI w') = True := by rw [show (9999 : Int32) = nI 9999 from rfl]; exact nI_ltT (by omega) (by omega)
  obtain ⟨h', r1, r2⟩ := rq_errs P hx (f := 2) (by decide)
  refine ⟨h', r2, fun Q => lp_1 hR P.2.1 hs (fun Q => ?_)⟩
  unfold Cal
  rw [show m_l mX12_begins = 3 from rfl]
  simp only [am_en, am_ag, ct_i, ct_r, ct_l, List.length_cons, List.length_nil, List.replicate]
  simp [w_aload_n0 (M := mX12_begins) dX12_begins_0, c_12_337 (M := mX12_begins) dX12_begins_1 rfl, w_istore_n (M := mX12_begins) (i := 1) dX12_begins_4 rfl (by decide), w_aload_n0 (M := mX12_begins) dX12_begins_5, w_getI (M := mX12_begins) dX12_begins_6 f_12_274 rfl (by decide) (by decide), w_iconst (M := mX12_begins) (v := 2) dX12_begins_9 rfl, w_ic_ne (M := mX12_begins) (tgt := 51) dX12_begins_10 (by decide), w_aload_n0 (M := mX12_begins) dX12_begins_13, w_getI (M := mX12_begins) dX12_begins_14 f_12_286 rfl (by decide) (by decide), w_sipush (M := mX12_begins) (v := 9999) dX12_begins_17 rfl, w_ic_le (M := mX12_begins) (tgt := 29) dX12_begins_20 (by decide), w_aload_n0 (M := mX12_begins) dX12_begins_23, w_iconst (M := mX12_begins) (v := 2) dX12_begins_24 rfl, c_12_305 (M := mX12_begins) dX12_begins_25 rfl, w_vret (M := mX12_begins) dX12_begins_28 rfl, w_aload_n0 (M := mX12_begins) dX12_begins_29, w_sipush (M := mX12_begins) (v := 400) dX12_begins_30 rfl, w_aload_n0 (M := mX12_begins) dX12_begins_33, w_getI (M := mX12_begins) dX12_begins_34 f_12_286 rfl (by decide) (by decide), c_12_321 (M := mX12_begins) dX12_begins_37 rfl, w_aload_n0 (M := mX12_begins) dX12_begins_40, c_12_311 (M := mX12_begins) dX12_begins_41 rfl, w_aload_n0 (M := mX12_begins) dX12_begins_44, c_12_341 (M := mX12_begins) dX12_begins_45 rfl, w_goto (M := mX12_begins) (tgt := 160) dX12_begins_48 (by decide), w_vret (M := mX12_begins) dX12_begins_160 rfl, Kn_v_, Kn_n_, kl_i_, kl_a_, kl_l_, kl_n_, s1_0_, s2_0_, s1_1, s1_2, s1_3, s1_4, s1_5, s1_6, s1_7, s1_8, s1_9, s1_10, s1_11, s1_12, s1_13, s1_14, s2_1, s2_2, s2_3, s2_4, s2_5, s2_6, s2_7, s2_8, s2_9, s2_10, s2_11, s2_12, s2_13, s2_14, List.map_nil, List.map_cons, List.sum_nil, List.sum_cons, ct_i_, ct_r_, ct_l_, t_si_, t_sl_, t_sr_, n_si_, n_sl_, n_sr_, i_si_, i_sl_, i_sr_, l_si_, l_sl_, l_sr_, r_si_, r_sl_, r_sr_, vr_s_, vr_n_, nz_0_, nz_1_, hR.e, nn, s2, e18, c1, c2, r1]
theorem bg_name (P : okP t n T w j h) (hx : T[j]? = some x) (K : okK g φ ω o h) (hs : a_i h 126 28 = 1) (lg : g < 400) (lw : w < 5) (x1 : x.1 = 3) (x2 : 21 ≤ x.2.1 ∧ x.2.1 < 32) (ok : okN w (x.2.1 - 21)) : ∃ h1, okP t n T w (j + 1) h1 ∧ okK (g + 1) φ ω o h1 ∧ rF φ ω g h h1 ∧ a_i h1 148 g = 401 ∧ a_i h1 149 g = nI (x.2.1 - 21) ∧ ∀ h'', (∀ Q, Cal (d + 8) mX12_oneIsOver [.ref 126] h1 Q = Q none h'') → ∀ Q, LPH d h Q = LPH d h'' Q := by
  have hR := P.R
  have s2 := tk_n2 (P.tk hx).2 (by omega)
  have nn : ∀ Q, Cal (d + 8) mX12_nameNow [.ref 126] h Q = Q (some (.int (nI (x.2.1 - 21)))) h := fun Q => by
    have z := rq_nameNow (d := d + 8) (Q := Q) (p := True) P hx (by simp; omega)
    rw [if_pos trivial] at z
    exact z
  have mn : ∀ Q, Cal (d + 8) mX12_mayName [.int (nI (x.2.1 - 21)), .int (nI w)] h Q = Q (some (.int 1)) h := fun Q => by
    have z := rq_mayName (d := d + 8) (Q := Q) (p := True) (w := w) (m := x.2.1 - 21) hR (by simp; exact ok) lw (by omega)
    rw [if_pos trivial] at z
    exact z
  have c1 : (nI (x.2.1 - 21) = -1) = False := nI_n1 (by omega)
  have em : ∀ Q, Cal (d + 8) mX12_emits [.ref 126, .int 401, .int (nI (x.2.1 - 21))] h Q = Q none (emR h g 401 (nI (x.2.1 - 21))) := fun Q => rq_emit hR K.2.2.2.1 lg
  obtain ⟨h1, nx, fr, P'⟩ := rq_next (d := d + 6) (P.em (g := g) (a := 401) (b := nI (x.2.1 - 21))) hx (by omega)
  have hE := (P.em (g := g) (a := 401) (b := nI (x.2.1 - 21))).R
  have e31 := P.2.2.1
  refine ⟨h1, P', K.em.nx fr, emR_F.tr fr.F (Nat.le_refl _) (Nat.le_refl _) (Nat.le_refl _), ?_, ?_, fun h'' c Q => lp_1 hR P.2.1 hs (fun Q => ?_)⟩
  · rw [fr.2.2 _ _ (by omega)]; exact emR_o.1
  · rw [fr.2.2 _ _ (by omega)]; exact emR_o.2.1
  · unfold Cal
    rw [show m_l mX12_begins = 3 from rfl]
    simp only [am_en, am_ag, ct_i, ct_r, ct_l, List.length_cons, List.length_nil, List.replicate]
    simp [w_aload_n0 (M := mX12_begins) dX12_begins_0, c_12_337 (M := mX12_begins) dX12_begins_1 rfl, w_istore_n (M := mX12_begins) (i := 1) dX12_begins_4 rfl (by decide), w_aload_n0 (M := mX12_begins) dX12_begins_5, w_getI (M := mX12_begins) dX12_begins_6 f_12_274 rfl (by decide) (by decide), w_iconst (M := mX12_begins) (v := 2) dX12_begins_9 rfl, w_ic_ne (M := mX12_begins) (tgt := 51) dX12_begins_10 (by decide), w_iload_n1 (M := mX12_begins) dX12_begins_51, w_iconst (M := mX12_begins) (v := (-1)) dX12_begins_52 rfl, w_ic_eq (M := mX12_begins) (tgt := 92) dX12_begins_53 (by decide), w_iload_n1 (M := mX12_begins) dX12_begins_56, w_aload_n0 (M := mX12_begins) dX12_begins_57, w_getI (M := mX12_begins) dX12_begins_58 f_12_344 rfl (by decide) (by decide), c_12_347 (M := mX12_begins) dX12_begins_61 rfl, w_if_ne (M := mX12_begins) (tgt := 73) dX12_begins_64 (by decide), w_aload_n0 (M := mX12_begins) dX12_begins_67, w_iconst (M := mX12_begins) (v := 5) dX12_begins_68 rfl, c_12_305 (M := mX12_begins) dX12_begins_69 rfl, w_vret (M := mX12_begins) dX12_begins_72 rfl, w_aload_n0 (M := mX12_begins) dX12_begins_73, w_sipush (M := mX12_begins) (v := 401) dX12_begins_74 rfl, w_iload_n1 (M := mX12_begins) dX12_begins_77, c_12_321 (M := mX12_begins) dX12_begins_78 rfl, w_aload_n0 (M := mX12_begins) dX12_begins_81, c_12_311 (M := mX12_begins) dX12_begins_82 rfl, w_aload_n0 (M := mX12_begins) dX12_begins_85, c_12_341 (M := mX12_begins) dX12_begins_86 rfl, w_goto (M := mX12_begins) (tgt := 160) dX12_begins_89 (by decide), w_vret (M := mX12_begins) dX12_begins_160 rfl, Kn_v_, Kn_n_, kl_i_, kl_a_, kl_l_, kl_n_, s1_0_, s2_0_, s1_1, s1_2, s1_3, s1_4, s1_5, s1_6, s1_7, s1_8, s1_9, s1_10, s1_11, s1_12, s1_13, s1_14, s2_1, s2_2, s2_3, s2_4, s2_5, s2_6, s2_7, s2_8, s2_9, s2_10, s2_11, s2_12, s2_13, s2_14, List.map_nil, List.map_cons, List.sum_nil, List.sum_cons, ct_i_, ct_r_, ct_l_, t_si_, t_sl_, t_sr_, n_si_, n_sl_, n_sr_, i_si_, i_sl_, i_sr_, l_si_, l_sl_, l_sr_, r_si_, r_sl_, r_sr_, vr_s_, vr_n_, nz_0_, nz_1_, hR.e, hE.e, P'.R.e, nn, s2, mn, c1, e31, em, nx, c]
theorem bg_name5 (P : okP t n T w j h) (hx : T[j]? = some x) (hs : a_i h 126 28 = 1) (lw : w < 5) (x1 : x.1 = 3) (x2 : 21 ≤ x.2.1 ∧ x.2.1 < 32) (ok : ¬ okN w (x.2.1 - 21)) : ∃ h', flR 5 (nI x.2.2) h h' ∧ ∀ Q, LPH d h Q = LPH d h' Q := by
  have hR := P.R
  have s2 := tk_n2 (P.tk hx).2 (by omega)
  have nn : ∀ Q, Cal (d + 8) mX12_nameNow [.ref 126] h Q = Q (some (.int (nI (x.2.1 - 21)))) h := fun Q => by
    have z := rq_nameNow (d := d + 8) (Q := Q) (p := True) P hx (by simp; omega)
    rw [if_pos trivial] at z
    exact z
  have mn : ∀ Q, Cal (d + 8) mX12_mayName [.int (nI (x.2.1 - 21)), .int (nI w)] h Q = Q (some (.int 0)) h := fun Q => by
    have z := rq_mayName (d := d + 8) (Q := Q) (p := False) (w := w) (m := x.2.1 - 21) hR (by simp; exact ok) lw (by omega)
    rw [if_neg (fun z => z)] at z
    exact z
  have c1 : (nI (x.2.1 - 21) = -1) = False := nI_n1 (by omega)
  have e31 := P.2.2.1
  obtain ⟨h', r1, r2⟩ := rq_errs P hx (f := 5) (by decide)
  refine ⟨h', r2, fun Q => lp_1 hR P.2.1 hs (fun Q => ?_)⟩
  unfold Cal
  rw [show m_l mX12_begins = 3 from rfl]
  simp only [am_en, am_ag, ct_i, ct_r, ct_l, List.length_cons, List.length_nil, List.replicate]
  simp [w_aload_n0 (M := mX12_begins) dX12_begins_0, c_12_337 (M := mX12_begins) dX12_begins_1 rfl, w_istore_n (M := mX12_begins) (i := 1) dX12_begins_4 rfl (by decide), w_aload_n0 (M := mX12_begins) dX12_begins_5, w_getI (M := mX12_begins) dX12_begins_6 f_12_274 rfl (by decide) (by decide), w_iconst (M := mX12_begins) (v := 2) dX12_begins_9 rfl, w_ic_ne (M := mX12_begins) (tgt := 51) dX12_begins_10 (by decide), w_iload_n1 (M := mX12_begins) dX12_begins_51, w_iconst (M := mX12_begins) (v := (-1)) dX12_begins_52 rfl, w_ic_eq (M := mX12_begins) (tgt := 92) dX12_begins_53 (by decide), w_iload_n1 (M := mX12_begins) dX12_begins_56, w_aload_n0 (M := mX12_begins) dX12_begins_57, w_getI (M := mX12_begins) dX12_begins_58 f_12_344 rfl (by decide) (by decide), c_12_347 (M := mX12_begins) dX12_begins_61 rfl, w_if_ne (M := mX12_begins) (tgt := 73) dX12_begins_64 (by decide), w_aload_n0 (M := mX12_begins) dX12_begins_67, w_iconst (M := mX12_begins) (v := 5) dX12_begins_68 rfl, c_12_305 (M := mX12_begins) dX12_begins_69 rfl, w_vret (M := mX12_begins) dX12_begins_72 rfl, w_aload_n0 (M := mX12_begins) dX12_begins_73, w_sipush (M := mX12_begins) (v := 401) dX12_begins_74 rfl, w_iload_n1 (M := mX12_begins) dX12_begins_77, c_12_321 (M := mX12_begins) dX12_begins_78 rfl, w_aload_n0 (M := mX12_begins) dX12_begins_81, c_12_311 (M := mX12_begins) dX12_begins_82 rfl, w_aload_n0 (M := mX12_begins) dX12_begins_85, c_12_341 (M := mX12_begins) dX12_begins_86 rfl, w_goto (M := mX12_begins) (tgt := 160) dX12_begins_89 (by decide), w_vret (M := mX12_begins) dX12_begins_160 rfl, Kn_v_, Kn_n_, kl_i_, kl_a_, kl_l_, kl_n_, s1_0_, s2_0_, s1_1, s1_2, s1_3, s1_4, s1_5, s1_6, s1_7, s1_8, s1_9, s1_10, s1_11, s1_12, s1_13, s1_14, s2_1, s2_2, s2_3, s2_4, s2_5, s2_6, s2_7, s2_8, s2_9, s2_10, s2_11, s2_12, s2_13, s2_14, List.map_nil, List.map_cons, List.sum_nil, List.sum_cons, ct_i_, ct_r_, ct_l_, t_si_, t_sl_, t_sr_, n_si_, n_sl_, n_sr_, i_si_, i_sl_, i_sr_, l_si_, l_sl_, l_sr_, r_si_, r_sl_, r_sr_, vr_s_, vr_n_, nz_0_, nz_1_, hR.e, nn, s2, mn, c1, e31, r1]
/-- which token it isn't -/
theorem bg_pre (P : okP t n T w j h) (hx : T[j]? = some x) (x1 : ¬ x.1 = 2) (x2 : ¬ (x.1 = 3 ∧ 21 ≤ x.2.1 ∧ x.2.1 < 32)) : ∀ Q, Cal (d + 9) mX12_begins [.ref 126] h Q = WP (d + 9) mX12_begins 92 [some (.ref 126), some (.int (-1)), none] [] h Q := fun Q => by
  have hR := P.R
  have s2 := tk_n2 (P.tk hx).2 x1
  have nn : ∀ Q, Cal (d + 8) mX12_nameNow [.ref 126] h Q = Q (some (.int (-1))) h := fun Q => by
    have z := rq_nameNow (d := d + 8) (Q := Q) (p := False) P hx (by simp; omega)
    rw [if_neg (fun z => z)] at z
    exact z
  unfold Cal
  rw [show m_l mX12_begins = 3 from rfl]
  simp only [am_en, am_ag, ct_i, ct_r, ct_l, List.length_cons, List.length_nil, List.replicate]
  simp [w_aload_n0 (M := mX12_begins) dX12_begins_0, c_12_337 (M := mX12_begins) dX12_begins_1 rfl, w_istore_n (M := mX12_begins) (i := 1) dX12_begins_4 rfl (by decide), w_aload_n0 (M := mX12_begins) dX12_begins_5, w_getI (M := mX12_begins) dX12_begins_6 f_12_274 rfl (by decide) (by decide), w_iconst (M := mX12_begins) (v := 2) dX12_begins_9 rfl, w_ic_ne (M := mX12_begins) (tgt := 51) dX12_begins_10 (by decide), w_iload_n1 (M := mX12_begins) dX12_begins_51, w_iconst (M := mX12_begins) (v := (-1)) dX12_begins_52 rfl, w_ic_eq (M := mX12_begins) (tgt := 92) dX12_begins_53 (by decide), Kn_v_, Kn_n_, kl_i_, kl_a_, kl_l_, kl_n_, s1_0_, s2_0_, s1_1, s1_2, s1_3, s1_4, s1_5, s1_6, s1_7, s1_8, s1_9, s1_10, s1_11, s1_12, s1_13, s1_14, s2_1, s2_2, s2_3, s2_4, s2_5, s2_6, s2_7, s2_8, s2_9, s2_10, s2_11, s2_12, s2_13, s2_14, List.map_nil, List.map_cons, List.sum_nil, List.sum_cons, ct_i_, ct_r_, ct_l_, t_si_, t_sl_, t_sr_, n_si_, n_sl_, n_sr_, i_si_, i_sl_, i_sr_, l_si_, l_sl_, l_sr_, r_si_, r_sl_, r_sr_, vr_s_, vr_n_, nz_0_, nz_1_, hR.e, nn, s2]
theorem rg_wd {p : Prop} [Decidable p] {z : Int32} (K : okP t n T w j h) (hx : T[j]? = some x) (ly : y < 32) (hz : z = nI (wm y)) (hp : p ↔ isW x y) : ∀ Q, Cal d mX12_isWord [.ref 126, .int z] h Q = Q (some (.int (if p then 1 else 0))) h := fun Q => by
  rw [hz]; exact rq_wd K hx ly hp
theorem rg_sg {p : Prop} [Decidable p] {z : Int32} (K : okP t n T w j h) (hx : T[j]? = some x) (gy : isg y) (hz : z = nI (smp y)) (hp : p ↔ isS x y) : ∀ Q, Cal d mX12_isSign [.ref 126, .int z] h Q = Q (some (.int (if p then 1 else 0))) h := fun Q => by
  rw [hz]; exact rq_sg K hx gy hp
theorem bg_if (P : okP t n T w j h) (hx : T[j]? = some x) (K : okK g φ ω o h) (hs : a_i h 126 28 = 1) (lo : o < 8) (lf : φ < 40) (x1 : isW x 14) : ∃ h', okP t n T w (j + 1) h' ∧ okK g (φ + 1) ω (o + 1) h' ∧ rF φ ω g h h' ∧ a_i h' 138 φ = 2 ∧ a_i h' 126 28 = 0 ∧ ∀ Q, LPH d h Q = LPH d h' Q := by
  have hR := P.R
  have z1 : x.1 = 3 := x1.1
  have z2 : x.2.1 = 14 := x1.2
  have pre := bg_pre (d := d) P hx (by omega) (by omega)
  have w17 := rg_wd (d := d + 8) (z := 17) (p := True) P hx (y := 14) (by omega) rfl (by simp; exact x1)
  obtain ⟨h1, r1, r2, r3, r4, r5, r6⟩ := rq_open (d := d + 5) (a := 2) P hx (by omega) K lo lf
  have hR1 := r2.R
  rw [if_pos trivial] at w17
  refine ⟨s_i h1 126 28 0, r2.st, r3.st, r4.tr stH_F (Nat.le_refl _) (Nat.le_refl _) (Nat.le_refl _), by rw [ine (by omega)]; exact r5, ieq rfl rfl, fun Q => lp_1 hR P.2.1 hs (fun Q => ?_)⟩
  rw [pre]
  simp [w_aload_n0 (M := mX12_begins) dX12_begins_92, w_bipush (M := mX12_begins) (v := 17) dX12_begins_93 rfl, c_12_328 (M := mX12_begins) dX12_begins_95 rfl, w_if_eq (M := mX12_begins) (tgt := 117) dX12_begins_98 (by decide), w_aload_n0 (M := mX12_begins) dX12_begins_101, w_iconst (M := mX12_begins) (v := 2) dX12_begins_102 rfl, c_12_331 (M := mX12_begins) dX12_begins_103 rfl, w_if_eq (M := mX12_begins) (tgt := 160) dX12_begins_106 (by decide), w_aload_n0 (M := mX12_begins) dX12_begins_109, w_iconst (M := mX12_begins) (v := 0) dX12_begins_110 rfl, w_putI (M := mX12_begins) dX12_begins_111 f_12_334 rfl (Or.inl rfl), w_goto (M := mX12_begins) (tgt := 160) dX12_begins_114 (by decide), w_vret (M := mX12_begins) dX12_begins_160 rfl, Kn_v_, Kn_n_, kl_i_, kl_a_, kl_l_, kl_n_, s1_0_, s2_0_, s1_1, s1_2, s1_3, s1_4, s1_5, s1_6, s1_7, s1_8, s1_9, s1_10, s1_11, s1_12, s1_13, s1_14, s2_1, s2_2, s2_3, s2_4, s2_5, s2_6, s2_7, s2_8, s2_9, s2_10, s2_11, s2_12, s2_13, s2_14, List.map_nil, List.map_cons, List.sum_nil, List.sum_cons, ct_i_, ct_r_, ct_l_, t_si_, t_sl_, t_sr_, n_si_, n_sl_, n_sr_, i_si_, i_sl_, i_sr_, l_si_, l_sl_, l_sr_, r_si_, r_sl_, r_sr_, vr_s_, vr_n_, nz_0_, nz_1_, hR.e, hR1.e, w17, r1]
theorem bg_if8 (P : okP t n T w j h) (hx : T[j]? = some x) (K : okK g φ ω 8 h) (hs : a_i h 126 28 = 1) (x1 : isW x 14) : ∃ h', flR 3 (nI x.2.2) h h' ∧ ∀ Q, LPH d h Q = LPH d h' Q := by
  have hR := P.R
  have z1 : x.1 = 3 := x1.1
  have z2 : x.2.1 = 14 := x1.2
  have pre := bg_pre (d := d) P hx (by omega) (by omega)
  have w17 := rg_wd (d := d + 8) (z := 17) (p := True) P hx (y := 14) (by omega) rfl (by simp; exact x1)
  obtain ⟨h1, r1, r2⟩ := rq_open8 (d := d + 5) (a := 2) P hx K
  rw [if_pos trivial] at w17
  refine ⟨h1, r2, fun Q => lp_1 hR P.2.1 hs (fun Q => ?_)⟩
  rw [pre]
  simp [w_aload_n0 (M := mX12_begins) dX12_begins_92, w_bipush (M := mX12_begins) (v := 17) dX12_begins_93 rfl, c_12_328 (M := mX12_begins) dX12_begins_95 rfl, w_if_eq (M := mX12_begins) (tgt := 117) dX12_begins_98 (by decide), w_aload_n0 (M := mX12_begins) dX12_begins_101, w_iconst (M := mX12_begins) (v := 2) dX12_begins_102 rfl, c_12_331 (M := mX12_begins) dX12_begins_103 rfl, w_if_eq (M := mX12_begins) (tgt := 160) dX12_begins_106 (by decide), w_aload_n0 (M := mX12_begins) dX12_begins_109, w_iconst (M := mX12_begins) (v := 0) dX12_begins_110 rfl, w_putI (M := mX12_begins) dX12_begins_111 f_12_334 rfl (Or.inl rfl), w_goto (M := mX12_begins) (tgt := 160) dX12_begins_114 (by decide), w_vret (M := mX12_begins) dX12_begins_160 rfl, Kn_v_, Kn_n_, kl_i_, kl_a_, kl_l_, kl_n_, s1_0_, s2_0_, s1_1, s1_2, s1_3, s1_4, s1_5, s1_6, s1_7, s1_8, s1_9, s1_10, s1_11, s1_12, s1_13, s1_14, s2_1, s2_2, s2_3, s2_4, s2_5, s2_6, s2_7, s2_8, s2_9, s2_10, s2_11, s2_12, s2_13, s2_14, List.map_nil, List.map_cons, List.sum_nil, List.sum_cons, ct_i_, ct_r_, ct_l_, t_si_, t_sl_, t_sr_, n_si_, n_sl_, n_sr_, i_si_, i_sl_, i_sr_, l_si_, l_sl_, l_sr_, r_si_, r_sl_, r_sr_, vr_s_, vr_n_, nz_0_, nz_1_, hR.e, w17, r1]
theorem bg_sgn (P : okP t n T w j h) (hx : T[j]? = some x) (K : okK g φ ω o h) (hs : a_i h 126 28 = 1) (lo : o < 8) (lf : φ < 40) (x1 : (isS x 40 ∧ a = 6) ∨ (isS x 45 ∧ a = 7)) : ∃ h', okP t n T w (j + 1) h' ∧ okK g (φ + 1) ω (o + 1) h' ∧ rF φ ω g h h' ∧ a_i h' 138 φ = a ∧ a_i h' 126 28 = 1 ∧ ∀ Q, LPH d h Q = LPH d h' Q := by
  have hR := P.R
  have z1 : x.1 = 4 := by rcases x1 with z | z <;> exact z.1.1
  have pre := bg_pre (d := d) P hx (by omega) (by omega)
  have w17 := rg_wd (d := d + 8) (z := 17) (p := False) P hx (y := 14) (by omega) rfl (by unfold isW; simp; omega)
  rw [if_neg (fun z => z)] at w17
  obtain ⟨h1, r1, r2, r3, r4, r5, r6⟩ := rq_open (d := d + 5) (a := a) P hx (by omega) K lo lf
  refine ⟨h1, r2, r3, r4, r5, r6.trans hs, fun Q => lp_1 hR P.2.1 hs (fun Q => ?_)⟩
  rw [pre]
  rcases x1 with ⟨x1, e⟩ | ⟨x1, e⟩
  · subst e
    have g40 := rg_sg (d := d + 8) (z := 40) (p := True) P hx (y := 40) (by unfold isg; omega) rfl (by simp; exact x1)
    rw [if_pos trivial] at g40
    simp [w_aload_n0 (M := mX12_begins) dX12_begins_92, w_bipush (M := mX12_begins) (v := 17) dX12_begins_93 rfl, c_12_328 (M := mX12_begins) dX12_begins_95 rfl, w_if_eq (M := mX12_begins) (tgt := 117) dX12_begins_98 (by decide), w_aload_n0 (M := mX12_begins) dX12_begins_101, w_iconst (M := mX12_begins) (v := 2) dX12_begins_102 rfl, c_12_331 (M := mX12_begins) dX12_begins_103 rfl, w_if_eq (M := mX12_begins) (tgt := 160) dX12_begins_106 (by decide), w_aload_n0 (M := mX12_begins) dX12_begins_109, w_iconst (M := mX12_begins) (v := 0) dX12_begins_110 rfl, w_putI (M := mX12_begins) dX12_begins_111 f_12_334 rfl (Or.inl rfl), w_goto (M := mX12_begins) (tgt := 160) dX12_begins_114 (by decide), w_aload_n0 (M := mX12_begins) dX12_begins_117, w_bipush (M := mX12_begins) (v := 40) dX12_begins_118 rfl, c_12_351 (M := mX12_begins) dX12_begins_120 rfl, w_if_eq (M := mX12_begins) (tgt := 136) dX12_begins_123 (by decide), w_aload_n0 (M := mX12_begins) dX12_begins_126, w_bipush (M := mX12_begins) (v := 6) dX12_begins_127 rfl, c_12_331 (M := mX12_begins) dX12_begins_129 rfl, w_istore_n (M := mX12_begins) (i := 2) dX12_begins_132 rfl (by decide), w_goto (M := mX12_begins) (tgt := 160) dX12_begins_133 (by decide), w_aload_n0 (M := mX12_begins) dX12_begins_136, w_bipush (M := mX12_begins) (v := 45) dX12_begins_137 rfl, c_12_351 (M := mX12_begins) dX12_begins_139 rfl, w_if_eq (M := mX12_begins) (tgt := 155) dX12_begins_142 (by decide), w_aload_n0 (M := mX12_begins) dX12_begins_145, w_bipush (M := mX12_begins) (v := 7) dX12_begins_146 rfl, c_12_331 (M := mX12_begins) dX12_begins_148 rfl, w_istore_n (M := mX12_begins) (i := 2) dX12_begins_151 rfl (by decide), w_goto (M := mX12_begins) (tgt := 160) dX12_begins_152 (by decide), w_aload_n0 (M := mX12_begins) dX12_begins_155, w_iconst (M := mX12_begins) (v := 1) dX12_begins_156 rfl, c_12_305 (M := mX12_begins) dX12_begins_157 rfl, w_vret (M := mX12_begins) dX12_begins_160 rfl, Kn_v_, Kn_n_, kl_i_, kl_a_, kl_l_, kl_n_, s1_0_, s2_0_, s1_1, s1_2, s1_3, s1_4, s1_5, s1_6, s1_7, s1_8, s1_9, s1_10, s1_11, s1_12, s1_13, s1_14, s2_1, s2_2, s2_3, s2_4, s2_5, s2_6, s2_7, s2_8, s2_9, s2_10, s2_11, s2_12, s2_13, s2_14, List.map_nil, List.map_cons, List.sum_nil, List.sum_cons, ct_i_, ct_r_, ct_l_, t_si_, t_sl_, t_sr_, n_si_, n_sl_, n_sr_, i_si_, i_sl_, i_sr_, l_si_, l_sl_, l_sr_, r_si_, r_sl_, r_sr_, vr_s_, vr_n_, nz_0_, nz_1_, hR.e, w17, g40, r1]
  · subst e
    have g40 := rg_sg (d := d + 8) (z := 40) (p := False) P hx (y := 40) (by unfold isg; omega) rfl (by unfold isS at x1 ⊢; simp; omega)
    have g45 := rg_sg (d := d + 8) (z := 45) (p := True) P hx (y := 45) (by unfold isg; omega) rfl (by simp; exact x1)
    rw [if_neg (fun z => z)] at g40
    rw [if_pos trivial] at g45
    simp [w_aload_n0 (M := mX12_begins) dX12_begins_92, w_bipush (M := mX12_begins) (v := 17) dX12_begins_93 rfl, c_12_328 (M := mX12_begins) dX12_begins_95 rfl, w_if_eq (M := mX12_begins) (tgt := 117) dX12_begins_98 (by decide), w_aload_n0 (M := mX12_begins) dX12_begins_101, w_iconst (M := mX12_begins) (v := 2) dX12_begins_102 rfl, c_12_331 (M := mX12_begins) dX12_begins_103 rfl, w_if_eq (M := mX12_begins) (tgt := 160) dX12_begins_106 (by decide), w_aload_n0 (M := mX12_begins) dX12_begins_109, w_iconst (M := mX12_begins) (v := 0) dX12_begins_110 rfl, w_putI (M := mX12_begins) dX12_begins_111 f_12_334 rfl (Or.inl rfl), w_goto (M := mX12_begins) (tgt := 160) dX12_begins_114 (by decide), w_aload_n0 (M := mX12_begins) dX12_begins_117, w_bipush (M := mX12_begins) (v := 40) dX12_begins_118 rfl, c_12_351 (M := mX12_begins) dX12_begins_120 rfl, w_if_eq (M := mX12_begins) (tgt := 136) dX12_begins_123 (by decide), w_aload_n0 (M := mX12_begins) dX12_begins_126, w_bipush (M := mX12_begins) (v := 6) dX12_begins_127 rfl, c_12_331 (M := mX12_begins) dX12_begins_129 rfl, w_istore_n (M := mX12_begins) (i := 2) dX12_begins_132 rfl (by decide), w_goto (M := mX12_begins) (tgt := 160) dX12_begins_133 (by decide), w_aload_n0 (M := mX12_begins) dX12_begins_136, w_bipush (M := mX12_begins) (v := 45) dX12_begins_137 rfl, c_12_351 (M := mX12_begins) dX12_begins_139 rfl, w_if_eq (M := mX12_begins) (tgt := 155) dX12_begins_142 (by decide), w_aload_n0 (M := mX12_begins) dX12_begins_145, w_bipush (M := mX12_begins) (v := 7) dX12_begins_146 rfl, c_12_331 (M := mX12_begins) dX12_begins_148 rfl, w_istore_n (M := mX12_begins) (i := 2) dX12_begins_151 rfl (by decide), w_goto (M := mX12_begins) (tgt := 160) dX12_begins_152 (by decide), w_aload_n0 (M := mX12_begins) dX12_begins_155, w_iconst (M := mX12_begins) (v := 1) dX12_begins_156 rfl, c_12_305 (M := mX12_begins) dX12_begins_157 rfl, w_vret (M := mX12_begins) dX12_begins_160 rfl, Kn_v_, Kn_n_, kl_i_, kl_a_, kl_l_, kl_n_, s1_0_, s2_0_, s1_1, s1_2, s1_3, s1_4, s1_5, s1_6, s1_7, s1_8, s1_9, s1_10, s1_11, s1_12, s1_13, s1_14, s2_1, s2_2, s2_3, s2_4, s2_5, s2_6, s2_7, s2_8, s2_9, s2_10, s2_11, s2_12, s2_13, s2_14, List.map_nil, List.map_cons, List.sum_nil, List.sum_cons, ct_i_, ct_r_, ct_l_, t_si_, t_sl_, t_sr_, n_si_, n_sl_, n_sr_, i_si_, i_sl_, i_sr_, l_si_, l_sl_, l_sr_, r_si_, r_sl_, r_sr_, vr_s_, vr_n_, nz_0_, nz_1_, hR.e, w17, g40, g45, r1]
theorem bg_sgn8 (P : okP t n T w j h) (hx : T[j]? = some x) (K : okK g φ ω 8 h) (hs : a_i h 126 28 = 1) (x1 : isS x 40 ∨ isS x 45) : ∃ h', flR 3 (nI x.2.2) h h' ∧ ∀ Q, LPH d h Q = LPH d h' Q := by
  have hR := P.R
  have z1 : x.1 = 4 := by rcases x1 with z | z <;> exact z.1
  have pre := bg_pre (d := d) P hx (by omega) (by omega)
  have w17 := rg_wd (d := d + 8) (z := 17) (p := False) P hx (y := 14) (by omega) rfl (by unfold isW; simp; omega)
  rw [if_neg (fun z => z)] at w17
  rcases x1 with x1 | x1
  · obtain ⟨h1, r1, r2⟩ := rq_open8 (d := d + 5) (a := 6) P hx K
    refine ⟨h1, r2, fun Q => lp_1 hR P.2.1 hs (fun Q => ?_)⟩
    rw [pre]
    have g40 := rg_sg (d := d + 8) (z := 40) (p := True) P hx (y := 40) (by unfold isg; omega) rfl (by simp; exact x1)
    rw [if_pos trivial] at g40
    simp [w_aload_n0 (M := mX12_begins) dX12_begins_92, w_bipush (M := mX12_begins) (v := 17) dX12_begins_93 rfl, c_12_328 (M := mX12_begins) dX12_begins_95 rfl, w_if_eq (M := mX12_begins) (tgt := 117) dX12_begins_98 (by decide), w_aload_n0 (M := mX12_begins) dX12_begins_101, w_iconst (M := mX12_begins) (v := 2) dX12_begins_102 rfl, c_12_331 (M := mX12_begins) dX12_begins_103 rfl, w_if_eq (M := mX12_begins) (tgt := 160) dX12_begins_106 (by decide), w_aload_n0 (M := mX12_begins) dX12_begins_109, w_iconst (M := mX12_begins) (v := 0) dX12_begins_110 rfl, w_putI (M := mX12_begins) dX12_begins_111 f_12_334 rfl (Or.inl rfl), w_goto (M := mX12_begins) (tgt := 160) dX12_begins_114 (by decide), w_aload_n0 (M := mX12_begins) dX12_begins_117, w_bipush (M := mX12_begins) (v := 40) dX12_begins_118 rfl, c_12_351 (M := mX12_begins) dX12_begins_120 rfl, w_if_eq (M := mX12_begins) (tgt := 136) dX12_begins_123 (by decide), w_aload_n0 (M := mX12_begins) dX12_begins_126, w_bipush (M := mX12_begins) (v := 6) dX12_begins_127 rfl, c_12_331 (M := mX12_begins) dX12_begins_129 rfl, w_istore_n (M := mX12_begins) (i := 2) dX12_begins_132 rfl (by decide), w_goto (M := mX12_begins) (tgt := 160) dX12_begins_133 (by decide), w_aload_n0 (M := mX12_begins) dX12_begins_136, w_bipush (M := mX12_begins) (v := 45) dX12_begins_137 rfl, c_12_351 (M := mX12_begins) dX12_begins_139 rfl, w_if_eq (M := mX12_begins) (tgt := 155) dX12_begins_142 (by decide), w_aload_n0 (M := mX12_begins) dX12_begins_145, w_bipush (M := mX12_begins) (v := 7) dX12_begins_146 rfl, c_12_331 (M := mX12_begins) dX12_begins_148 rfl, w_istore_n (M := mX12_begins) (i := 2) dX12_begins_151 rfl (by decide), w_goto (M := mX12_begins) (tgt := 160) dX12_begins_152 (by decide), w_aload_n0 (M := mX12_begins) dX12_begins_155, w_iconst (M := mX12_begins) (v := 1) dX12_begins_156 rfl, c_12_305 (M := mX12_begins) dX12_begins_157 rfl, w_vret (M := mX12_begins) dX12_begins_160 rfl, Kn_v_, Kn_n_, kl_i_, kl_a_, kl_l_, kl_n_, s1_0_, s2_0_, s1_1, s1_2, s1_3, s1_4, s1_5, s1_6, s1_7, s1_8, s1_9, s1_10, s1_11, s1_12, s1_13, s1_14, s2_1, s2_2, s2_3, s2_4, s2_5, s2_6, s2_7, s2_8, s2_9, s2_10, s2_11, s2_12, s2_13, s2_14, List.map_nil, List.map_cons, List.sum_nil, List.sum_cons, ct_i_, ct_r_, ct_l_, t_si_, t_sl_, t_sr_, n_si_, n_sl_, n_sr_, i_si_, i_sl_, i_sr_, l_si_, l_sl_, l_sr_, r_si_, r_sl_, r_sr_, vr_s_, vr_n_, nz_0_, nz_1_, hR.e, w17, g40, r1]
  · obtain ⟨h1, r1, r2⟩ := rq_open8 (d := d + 5) (a := 7) P hx K
    refine ⟨h1, r2, fun Q => lp_1 hR P.2.1 hs (fun Q => ?_)⟩
    rw [pre]
    have g40 := rg_sg (d := d + 8) (z := 40) (p := False) P hx (y := 40) (by unfold isg; omega) rfl (by unfold isS at x1 ⊢; simp; omega)
    have g45 := rg_sg (d := d + 8) (z := 45) (p := True) P hx (y := 45) (by unfold isg; omega) rfl (by simp; exact x1)
    rw [if_neg (fun z => z)] at g40
    rw [if_pos trivial] at g45
    simp [w_aload_n0 (M := mX12_begins) dX12_begins_92, w_bipush (M := mX12_begins) (v := 17) dX12_begins_93 rfl, c_12_328 (M := mX12_begins) dX12_begins_95 rfl, w_if_eq (M := mX12_begins) (tgt := 117) dX12_begins_98 (by decide), w_aload_n0 (M := mX12_begins) dX12_begins_101, w_iconst (M := mX12_begins) (v := 2) dX12_begins_102 rfl, c_12_331 (M := mX12_begins) dX12_begins_103 rfl, w_if_eq (M := mX12_begins) (tgt := 160) dX12_begins_106 (by decide), w_aload_n0 (M := mX12_begins) dX12_begins_109, w_iconst (M := mX12_begins) (v := 0) dX12_begins_110 rfl, w_putI (M := mX12_begins) dX12_begins_111 f_12_334 rfl (Or.inl rfl), w_goto (M := mX12_begins) (tgt := 160) dX12_begins_114 (by decide), w_aload_n0 (M := mX12_begins) dX12_begins_117, w_bipush (M := mX12_begins) (v := 40) dX12_begins_118 rfl, c_12_351 (M := mX12_begins) dX12_begins_120 rfl, w_if_eq (M := mX12_begins) (tgt := 136) dX12_begins_123 (by decide), w_aload_n0 (M := mX12_begins) dX12_begins_126, w_bipush (M := mX12_begins) (v := 6) dX12_begins_127 rfl, c_12_331 (M := mX12_begins) dX12_begins_129 rfl, w_istore_n (M := mX12_begins) (i := 2) dX12_begins_132 rfl (by decide), w_goto (M := mX12_begins) (tgt := 160) dX12_begins_133 (by decide), w_aload_n0 (M := mX12_begins) dX12_begins_136, w_bipush (M := mX12_begins) (v := 45) dX12_begins_137 rfl, c_12_351 (M := mX12_begins) dX12_begins_139 rfl, w_if_eq (M := mX12_begins) (tgt := 155) dX12_begins_142 (by decide), w_aload_n0 (M := mX12_begins) dX12_begins_145, w_bipush (M := mX12_begins) (v := 7) dX12_begins_146 rfl, c_12_331 (M := mX12_begins) dX12_begins_148 rfl, w_istore_n (M := mX12_begins) (i := 2) dX12_begins_151 rfl (by decide), w_goto (M := mX12_begins) (tgt := 160) dX12_begins_152 (by decide), w_aload_n0 (M := mX12_begins) dX12_begins_155, w_iconst (M := mX12_begins) (v := 1) dX12_begins_156 rfl, c_12_305 (M := mX12_begins) dX12_begins_157 rfl, w_vret (M := mX12_begins) dX12_begins_160 rfl, Kn_v_, Kn_n_, kl_i_, kl_a_, kl_l_, kl_n_, s1_0_, s2_0_, s1_1, s1_2, s1_3, s1_4, s1_5, s1_6, s1_7, s1_8, s1_9, s1_10, s1_11, s1_12, s1_13, s1_14, s2_1, s2_2, s2_3, s2_4, s2_5, s2_6, s2_7, s2_8, s2_9, s2_10, s2_11, s2_12, s2_13, s2_14, List.map_nil, List.map_cons, List.sum_nil, List.sum_cons, ct_i_, ct_r_, ct_l_, t_si_, t_sl_, t_sr_, n_si_, n_sl_, n_sr_, i_si_, i_sl_, i_sr_, l_si_, l_sl_, l_sr_, r_si_, r_sl_, r_sr_, vr_s_, vr_n_, nz_0_, nz_1_, hR.e, w17, g40, g45, r1]
theorem bg_err (P : okP t n T w j h) (hx : T[j]? = some x) (hs : a_i h 126 28 = 1) (x1 : ¬ x.1 = 2) (x2 : ¬ (x.1 = 3 ∧ 21 ≤ x.2.1 ∧ x.2.1 < 32)) (x3 : ¬ isW x 14) (x4 : ¬ isS x 40) (x5 : ¬ isS x 45) : ∃ h', flR 1 (nI x.2.2) h h' ∧ ∀ Q, LPH d h Q = LPH d h' Q := by
  have hR := P.R
  have pre := bg_pre (d := d) P hx x1 x2
  have w17 := rg_wd (d := d + 8) (z := 17) (p := False) P hx (y := 14) (by omega) rfl (by simp; exact x3)
  have g40 := rg_sg (d := d + 8) (z := 40) (p := False) P hx (y := 40) (by unfold isg; omega) rfl (by simp; exact x4)
  have g45 := rg_sg (d := d + 8) (z := 45) (p := False) P hx (y := 45) (by unfold isg; omega) rfl (by simp; exact x5)
  rw [if_neg (fun z => z)] at w17 g40 g45
  obtain ⟨h1, r1, r2⟩ := rq_errs P hx (f := 1) (by decide)
  refine ⟨h1, r2, fun Q => lp_1 hR P.2.1 hs (fun Q => ?_)⟩
  rw [pre]
  simp [w_aload_n0 (M := mX12_begins) dX12_begins_92, w_bipush (M := mX12_begins) (v := 17) dX12_begins_93 rfl, c_12_328 (M := mX12_begins) dX12_begins_95 rfl, w_if_eq (M := mX12_begins) (tgt := 117) dX12_begins_98 (by decide), w_aload_n0 (M := mX12_begins) dX12_begins_101, w_iconst (M := mX12_begins) (v := 2) dX12_begins_102 rfl, c_12_331 (M := mX12_begins) dX12_begins_103 rfl, w_if_eq (M := mX12_begins) (tgt := 160) dX12_begins_106 (by decide), w_aload_n0 (M := mX12_begins) dX12_begins_109, w_iconst (M := mX12_begins) (v := 0) dX12_begins_110 rfl, w_putI (M := mX12_begins) dX12_begins_111 f_12_334 rfl (Or.inl rfl), w_goto (M := mX12_begins) (tgt := 160) dX12_begins_114 (by decide), w_aload_n0 (M := mX12_begins) dX12_begins_117, w_bipush (M := mX12_begins) (v := 40) dX12_begins_118 rfl, c_12_351 (M := mX12_begins) dX12_begins_120 rfl, w_if_eq (M := mX12_begins) (tgt := 136) dX12_begins_123 (by decide), w_aload_n0 (M := mX12_begins) dX12_begins_126, w_bipush (M := mX12_begins) (v := 6) dX12_begins_127 rfl, c_12_331 (M := mX12_begins) dX12_begins_129 rfl, w_istore_n (M := mX12_begins) (i := 2) dX12_begins_132 rfl (by decide), w_goto (M := mX12_begins) (tgt := 160) dX12_begins_133 (by decide), w_aload_n0 (M := mX12_begins) dX12_begins_136, w_bipush (M := mX12_begins) (v := 45) dX12_begins_137 rfl, c_12_351 (M := mX12_begins) dX12_begins_139 rfl, w_if_eq (M := mX12_begins) (tgt := 155) dX12_begins_142 (by decide), w_aload_n0 (M := mX12_begins) dX12_begins_145, w_bipush (M := mX12_begins) (v := 7) dX12_begins_146 rfl, c_12_331 (M := mX12_begins) dX12_begins_148 rfl, w_istore_n (M := mX12_begins) (i := 2) dX12_begins_151 rfl (by decide), w_goto (M := mX12_begins) (tgt := 160) dX12_begins_152 (by decide), w_aload_n0 (M := mX12_begins) dX12_begins_155, w_iconst (M := mX12_begins) (v := 1) dX12_begins_156 rfl, c_12_305 (M := mX12_begins) dX12_begins_157 rfl, w_vret (M := mX12_begins) dX12_begins_160 rfl, Kn_v_, Kn_n_, kl_i_, kl_a_, kl_l_, kl_n_, s1_0_, s2_0_, s1_1, s1_2, s1_3, s1_4, s1_5, s1_6, s1_7, s1_8, s1_9, s1_10, s1_11, s1_12, s1_13, s1_14, s2_1, s2_2, s2_3, s2_4, s2_5, s2_6, s2_7, s2_8, s2_9, s2_10, s2_11, s2_12, s2_13, s2_14, List.map_nil, List.map_cons, List.sum_nil, List.sum_cons, ct_i_, ct_r_, ct_l_, t_si_, t_sl_, t_sr_, n_si_, n_sl_, n_sr_, i_si_, i_sl_, i_sr_, l_si_, l_sl_, l_sr_, r_si_, r_sl_, r_sr_, vr_s_, vr_n_, nz_0_, nz_1_, hR.e, w17, g40, g45, r1]
end RBEGIN
