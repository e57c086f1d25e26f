/-! a tenth: an end that speaks, one that is silent: the class -/
section CACT
variable {p e n m B d T : Nat} {s : TS} {h0 h : am_h} {V VW VS VL : (Nat → Int32) → Int32 → Int32} {g : Nat → Int32} {F : Nat → Bool}
theorem tw_b (hg : bt 0 (g (12 + 4 * e)) 99 ∧ bt 0 (g (12 + 4 * e + 1)) 24 ∧ bt 0 (g (12 + 4 * e + 2)) 99 ∧ bt 1 (g (12 + 4 * e + 3)) 99) {w : Nat} (hw : w < 3) : bt (lo5 w).toInt (tw g w e) (hi5 w).toInt := by
  have : w = 0 ∨ w = 1 ∨ w = 2 := by omega
  obtain ⟨g1, g2, g3, g4⟩ := hg
  rcases this with rfl | rfl | rfl
  · show bt 0 (g (12 + 4 * e)) 999
    unfold bt at *; omega
  · exact g3
  · exact g4
/-- what is known of an end's cells -/
theorem cK.en (K : cK m p h0 h s) (he : e < 4) : a_i h p 0 = s 0 1 ∧ a_i h p 1 = s 0 0 ∧ a_i h p 2 = s 0 2 ∧ a_i h p 3 = s 0 3 ∧ a_i h (p + 5 + e) 0 = s 1 e ∧ a_i h (p + 5 + e) 1 = s 2 e ∧ a_i h (p + 5 + e) 2 = s 3 e ∧ a_i h (p + 5 + e) 3 = s 4 e ∧ a_i h (p + 5 + e) 5 = s 5 e ∧ a_i h (p + 5 + e) 6 = s 6 e ∧ a_i h (p + 5 + e) 10 = s 18 e ∧ a_i h (p + 5 + e) 11 = s 19 e ∧ a_i h (p + 5 + e) 12 = s 20 e := by
  obtain ⟨⟨m0, m1, m2, m3, m4⟩, m5, m6⟩ := K.2.1
  obtain ⟨z1, z2, z3, z4, z5, z6, z7, z8, z9, -⟩ := m6 e he
  exact ⟨m0, m1, m2, m3, z1, z2, z3, z4, z5, z6, z7, z8, z9⟩
theorem cK.C (hC : sh_C (a_t h0) (a_r h0)) (K : cK m p h0 h s) : sh_C (a_t h) (a_r h) := by rw [K.1.1, K.1.2.1]; exact hC
theorem cK.of (hm : mpB m p B) (K : cK m p h0 h s) {w : Nat} (x : LX h0 w V) (hw : w < 3) (he : e < 4) (td : tdC h0 g e) (nb : ∀ b, b < 9 → inM (nmS g s e b)) : ∃ h', (∀ Q, Cal (d + 2) mX4_ofEnd [.ref 91, .int (nI w), .int (nI e), .ref 2, .ref p] h Q = Q (some (.int (V (nmS g s e) (tw g w e)))) h') ∧ lwf h h' := by
  obtain ⟨-, a1, -, -, -, -, -, -, -, -, a10, a11, -⟩ := K.en he
  have hC := K.C x.1
  obtain ⟨h', c1, c2⟩ := c_ofEnd (d := d) (K.X hm x) hw (shL_m hm hC) (by unfold mpB at hm; omega) he (K.td hm td) (g := g) (by rw [a1, a10, a11]; exact nb)
  rw [a1, a10, a11] at c1
  exact ⟨h', c1, c2⟩
set_option maxRecDepth 20000 in
set_option maxHeartbeats 2000000 in
theorem c_speakEnd (hm : mpB m p B) (hC : sh_C (a_t h0) (a_r h0)) {v : Int32} (K : cK m p h0 h (up s 4 e v)) (he : e < 4) (h1e : s 1 e = 1) (hi : m = 0 → ∃ i, i < 90 ∧ s 21 e = nI i) : ∃ h', (∀ Q, WP (d + 3) mX5_speakOn 71 [some (.ref p), some (.int (nI e)), some (.ref 2), some (.ref 91), some (.ref B), some (.ref (p + 5 + e))] [] h Q = Q none h') ∧ cK m p h0 h' (if s 23 e < s 22 e then up (up s 4 e v) 23 e (s 23 e + 1) else cls (up s 4 e v) e (Nn (s 21 e)) (s 0 1) 1) ∧ ∀ r, p + 5 ≤ r → r < p + 9 → a_i h' r 4 = a_i h r 4 := by
  have hCh := K.C hC
  obtain ⟨p1, p2, p3, p4, p5, p6, p7, p8, p9, p10⟩ := shL_m hm hCh
  obtain ⟨f1, f2⟩ := p6 e he
  have a0 : a_i h p 0 = s 0 1 := (K.en he).1.trans (upn (by omega))
  obtain ⟨y1, y2, y3⟩ := (K.2.1.2.2 e he).2.2.2.2.2.2.2.2.2.1 (by rw [upn (by omega)]; exact h1e)
  rw [upn (by omega)] at y1 y2 y3
  by_cases c : s 23 e < s 22 e
  · rw [if_pos c]
    refine ⟨s_i h (p + 5 + e) 9 (s 23 e + 1), fun Q => ?_, K.uc hm he (by omega), fun r _ _ => ine (by omega)⟩
    simp [w_aload5 (M := mX5_speakOn) dX5_speakOn_71, w_getI (M := mX5_speakOn) dX5_speakOn_73 f_5_107 rfl (by decide) (by decide), w_aload5 (M := mX5_speakOn) dX5_speakOn_76, w_getI (M := mX5_speakOn) dX5_speakOn_78 f_5_110 rfl (by decide) (by decide), w_ic_lt (M := mX5_speakOn) (tgt := 99) dX5_speakOn_81 (by decide), w_aload_n0 (M := mX5_speakOn) dX5_speakOn_84, w_iload_n1 (M := mX5_speakOn) dX5_speakOn_85, w_aload_n0 (M := mX5_speakOn) dX5_speakOn_86, w_getI (M := mX5_speakOn) dX5_speakOn_87 f_5_32 rfl (by decide) (by decide), w_iconst (M := mX5_speakOn) (v := 1) dX5_speakOn_90 rfl, w_aload4 (M := mX5_speakOn) dX5_speakOn_91, c_5_103 (M := mX5_speakOn) dX5_speakOn_93 rfl, w_goto (M := mX5_speakOn) (tgt := 110) dX5_speakOn_96 (by decide), w_aload5 (M := mX5_speakOn) dX5_speakOn_99, w_dup_int (M := mX5_speakOn) dX5_speakOn_101, w_dup_ref (M := mX5_speakOn) dX5_speakOn_101, w_getI (M := mX5_speakOn) dX5_speakOn_102 f_5_107 rfl (by decide) (by decide), w_iconst (M := mX5_speakOn) (v := 1) dX5_speakOn_105 rfl, w_iadd (M := mX5_speakOn) dX5_speakOn_106, w_putI (M := mX5_speakOn) dX5_speakOn_107 f_5_107 rfl (Or.inl rfl), w_vret (M := mX5_speakOn) dX5_speakOn_110 rfl, Kn_v_, Kn_n_, kl_i_, kl_a_, kl_l_, kl_n_, s1_0_, s2_0_, s1_1, s1_2, s1_3, s1_4, s1_5, s1_6, s1_7, s1_8, s1_9, s1_10, s1_11, s1_12, s1_13, s1_14, s2_1, s2_2, s2_3, s2_4, s2_5, s2_6, s2_7, s2_8, s2_9, s2_10, s2_11, s2_12, s2_13, s2_14, List.map_nil, List.map_cons, List.sum_nil, List.sum_cons, ct_i_, ct_r_, ct_l_, t_si_, t_sl_, t_sr_, n_si_, n_sl_, n_sr_, i_si_, i_sl_, i_sr_, l_si_, l_sl_, l_sr_, r_si_, r_sl_, r_sr_, vr_s_, vr_n_, nz_0_, nz_1_, f1, y2, y3, c]
  · rw [if_neg c]
    obtain ⟨h', c1, c2, c3⟩ := cK.xcls (d := d) (z := s 0 1) (kd := 1) hm hC K he (by rw [upn (by omega)]; exact h1e) (fun z => by rw [upn (by omega)]; exact hi z)
    rw [upn (by omega)] at c2
    refine ⟨h', fun Q => ?_, c2, c3⟩
    simp [w_aload5 (M := mX5_speakOn) dX5_speakOn_71, w_getI (M := mX5_speakOn) dX5_speakOn_73 f_5_107 rfl (by decide) (by decide), w_aload5 (M := mX5_speakOn) dX5_speakOn_76, w_getI (M := mX5_speakOn) dX5_speakOn_78 f_5_110 rfl (by decide) (by decide), w_ic_lt (M := mX5_speakOn) (tgt := 99) dX5_speakOn_81 (by decide), w_aload_n0 (M := mX5_speakOn) dX5_speakOn_84, w_iload_n1 (M := mX5_speakOn) dX5_speakOn_85, w_aload_n0 (M := mX5_speakOn) dX5_speakOn_86, w_getI (M := mX5_speakOn) dX5_speakOn_87 f_5_32 rfl (by decide) (by decide), w_iconst (M := mX5_speakOn) (v := 1) dX5_speakOn_90 rfl, w_aload4 (M := mX5_speakOn) dX5_speakOn_91, c_5_103 (M := mX5_speakOn) dX5_speakOn_93 rfl, w_goto (M := mX5_speakOn) (tgt := 110) dX5_speakOn_96 (by decide), w_aload5 (M := mX5_speakOn) dX5_speakOn_99, w_dup_int (M := mX5_speakOn) dX5_speakOn_101, w_dup_ref (M := mX5_speakOn) dX5_speakOn_101, w_getI (M := mX5_speakOn) dX5_speakOn_102 f_5_107 rfl (by decide) (by decide), w_iconst (M := mX5_speakOn) (v := 1) dX5_speakOn_105 rfl, w_iadd (M := mX5_speakOn) dX5_speakOn_106, w_putI (M := mX5_speakOn) dX5_speakOn_107 f_5_107 rfl (Or.inl rfl), w_vret (M := mX5_speakOn) dX5_speakOn_110 rfl, Kn_v_, Kn_n_, kl_i_, kl_a_, kl_l_, kl_n_, s1_0_, s2_0_, s1_1, s1_2, s1_3, s1_4, s1_5, s1_6, s1_7, s1_8, s1_9, s1_10, s1_11, s1_12, s1_13, s1_14, s2_1, s2_2, s2_3, s2_4, s2_5, s2_6, s2_7, s2_8, s2_9, s2_10, s2_11, s2_12, s2_13, s2_14, List.map_nil, List.map_cons, List.sum_nil, List.sum_cons, ct_i_, ct_r_, ct_l_, t_si_, t_sl_, t_sr_, n_si_, n_sl_, n_sr_, i_si_, i_sl_, i_sr_, l_si_, l_sl_, l_sr_, r_si_, r_sl_, r_sr_, vr_s_, vr_n_, nz_0_, nz_1_, f1, y2, y3, c, p1, a0, c1]
set_option maxRecDepth 20000 in
set_option maxHeartbeats 2000000 in
theorem c_speakOn (hm : mpB m p B) (K : cK m p h0 h s) (x1 : LX h0 1 VS) (he : e < 4) (td : tdC h0 g e) (hg : bt 0 (g (12 + 4 * e)) 99 ∧ bt 0 (g (12 + 4 * e + 1)) 24 ∧ bt 0 (g (12 + 4 * e + 2)) 99 ∧ bt 1 (g (12 + 4 * e + 3)) 99) (h1e : s 1 e = 1) (hi : m = 0 → ∃ i, i < 90 ∧ s 21 e = nI i) (nb : ∀ b, b < 9 → inM (nmS g s e b)) (hh : a_i h (p + 5 + e) 4 = nI (bN F)) : ∃ h', (∀ Q, Cal (d + 3) mX5_speakOn [.ref p, .int (nI e), .ref 2, .ref 91, .ref B] h Q = Q none h') ∧ cK m p h0 h' (aS g VS (decide (¬ bN F = 0)) s e) ∧ ∀ r, p + 5 ≤ r → r < p + 9 → a_i h' r 4 = a_i h r 4 := by
  have hC := x1.1
  have hCh := K.C hC
  obtain ⟨p1, p2, p3, p4, p5, p6, p7, p8, p9, p10⟩ := shL_m hm hCh
  obtain ⟨f1, f2⟩ := p6 e he
  obtain ⟨a0, a1, a2, a3, a4, a5, a6, a7, -⟩ := K.en he
  have ie : am_in1 (nI e) 4 = True := by rw [in1_n (by omega)]; exact eq_true he
  have ce : (nI e).toNatClampNeg = e := nI_c (by omega)
  have hz : (nI (bN F) = 0) = (bN F = 0) := nI_e0 (by have := bN_l (f := F); omega)
  have tb : (0 : Int32).toInt = 0 := rfl
  have stb := LX_b (w := 1) (by omega) x1 (N := nmS g s e) (tw_b hg (w := 1) (by omega))
  by_cases c0 : bN F = 0
  · have K1 : cK m p h0 (s_i h (p + 5 + e) 3 0) (up s 4 e 0) := K.uc hm he (by omega)
    obtain ⟨h', b1, b2, b3⟩ := c_speakEnd (d := d) hm hC K1 he h1e hi
    have eS : aS g VS (decide (¬ bN F = 0)) s e = (if s 23 e < s 22 e then up (up s 4 e 0) 23 e (s 23 e + 1) else cls (up s 4 e 0) e (Nn (s 21 e)) (s 0 1) 1) := by
      have hq : (if decide (¬ bN F = 0) = true then s 4 e + 1 else 0) = 0 := if_neg (by simp [c0])
      unfold aS
      rw [hq, if_neg (fun z => z.1 z.2.symm)]
    rw [eS]
    refine ⟨h', fun Q => ?_, b2, fun r r1 r2 => by rw [b3 r r1 r2]; exact ine (by omega)⟩
    unfold Cal
    rw [l_X5_speakOn]
    simp only [am_en, am_ag, ct_i, ct_r, ct_l, List.length_cons, List.length_nil, List.replicate]
    simp [w_aload_n0 (M := mX5_speakOn) dX5_speakOn_0, w_getA (M := mX5_speakOn) dX5_speakOn_1 f_5_27 rfl (by decide) (by decide), w_iload_n1 (M := mX5_speakOn) dX5_speakOn_4, w_aaload (M := mX5_speakOn) dX5_speakOn_5, w_astore (M := mX5_speakOn) dX5_speakOn_6 (by decide), w_aload5 (M := mX5_speakOn) dX5_speakOn_8, w_aload5 (M := mX5_speakOn) dX5_speakOn_10, w_getI (M := mX5_speakOn) dX5_speakOn_12 f_5_83 rfl (by decide) (by decide), w_if_eq (M := mX5_speakOn) (tgt := 28) dX5_speakOn_15 (by decide), w_aload5 (M := mX5_speakOn) dX5_speakOn_18, w_getI (M := mX5_speakOn) dX5_speakOn_20 f_5_92 rfl (by decide) (by decide), w_iconst (M := mX5_speakOn) (v := 1) dX5_speakOn_23 rfl, w_iadd (M := mX5_speakOn) dX5_speakOn_24, w_goto (M := mX5_speakOn) (tgt := 29) dX5_speakOn_25 (by decide), w_iconst (M := mX5_speakOn) (v := 0) dX5_speakOn_28 rfl, w_putI (M := mX5_speakOn) dX5_speakOn_29 f_5_92 rfl (Or.inl rfl), w_aload5 (M := mX5_speakOn) dX5_speakOn_32, w_getI (M := mX5_speakOn) dX5_speakOn_34 f_5_92 rfl (by decide) (by decide), w_if_le (M := mX5_speakOn) (tgt := 71) dX5_speakOn_37 (by decide), w_aload5 (M := mX5_speakOn) dX5_speakOn_40, w_getI (M := mX5_speakOn) dX5_speakOn_42 f_5_92 rfl (by decide) (by decide), w_aload_n3 (M := mX5_speakOn) dX5_speakOn_45, w_iconst (M := mX5_speakOn) (v := 1) dX5_speakOn_46 rfl, w_iload_n1 (M := mX5_speakOn) dX5_speakOn_47, w_aload_n2 (M := mX5_speakOn) dX5_speakOn_48, w_aload_n0 (M := mX5_speakOn) dX5_speakOn_49, c_5_97 (M := mX5_speakOn) dX5_speakOn_50 rfl, w_ic_ne (M := mX5_speakOn) (tgt := 71) dX5_speakOn_53 (by decide), w_aload_n0 (M := mX5_speakOn) dX5_speakOn_56, w_iload_n1 (M := mX5_speakOn) dX5_speakOn_57, w_aload_n0 (M := mX5_speakOn) dX5_speakOn_58, w_getI (M := mX5_speakOn) dX5_speakOn_59 f_5_32 rfl (by decide) (by decide), w_iconst (M := mX5_speakOn) (v := 2) dX5_speakOn_62 rfl, w_aload4 (M := mX5_speakOn) dX5_speakOn_63, c_5_103 (M := mX5_speakOn) dX5_speakOn_65 rfl, w_goto (M := mX5_speakOn) (tgt := 110) dX5_speakOn_68 (by decide), Kn_v_, Kn_n_, kl_i_, kl_a_, kl_l_, kl_n_, s1_0_, s2_0_, s1_1, s1_2, s1_3, s1_4, s1_5, s1_6, s1_7, s1_8, s1_9, s1_10, s1_11, s1_12, s1_13, s1_14, s2_1, s2_2, s2_3, s2_4, s2_5, s2_6, s2_7, s2_8, s2_9, s2_10, s2_11, s2_12, s2_13, s2_14, List.map_nil, List.map_cons, List.sum_nil, List.sum_cons, ct_i_, ct_r_, ct_l_, t_si_, t_sl_, t_sr_, n_si_, n_sl_, n_sr_, i_si_, i_sl_, i_sr_, l_si_, l_sl_, l_sr_, r_si_, r_sl_, r_sr_, vr_s_, vr_n_, nz_0_, nz_1_, p1, p5, p10, f1, f2, ie, ce, hh, hz, c0, b1, show nI 0 = 0 from rfl]
  · have K1 : cK m p h0 (s_i h (p + 5 + e) 3 (s 4 e + 1)) (up s 4 e (s 4 e + 1)) := K.uc hm he (by omega)
    have nm1 : nmS g (up s 4 e (s 4 e + 1)) e = nmS g s e := by
      unfold nmS
      rw [upn (by omega), upn (by omega), upn (by omega)]
    by_cases c1 : 0 < s 4 e + 1
    · obtain ⟨h2, o1, o2⟩ := cK.of (d := d) hm K1 x1 (by omega) he td (by rw [nm1]; exact nb)
      rw [nm1] at o1
      have e1 : nI 1 = 1 := rfl
      rw [e1] at o1
      have K2 := K1.lw hm o2
      have hC2 := K2.C hC
      have f12 : a_t h2 (p + 5 + e) = (3, 14) := by rw [o2.1.1]; exact f1
      have p12 : a_t h2 p = (5, 9) := by rw [o2.1.1]; exact p1
      have a02 : a_i h2 p 0 = s 0 1 := (K2.en he).1.trans (upn (by omega))
      have h42 : ∀ r, p + 5 ≤ r → r < p + 9 → a_i h2 r 4 = a_i h r 4 := fun r r1 r2 => by
        rw [o2.2.2 r 4 (by unfold mpB at hm; omega)]
        exact ine (by omega)
      by_cases c2 : s 4 e + 1 = VS (nmS g s e) (tw g 1 e)
      · obtain ⟨h', b1, b2, b3⟩ := cK.xcls (d := d) (z := s 0 1) (kd := 2) hm hC K2 he (by rw [upn (by omega)]; exact h1e) (fun z => by rw [upn (by omega)]; exact hi z)
        rw [upn (by omega)] at b2
        have eS : aS g VS (decide (¬ bN F = 0)) s e = cls (up s 4 e (s 4 e + 1)) e (Nn (s 21 e)) (s 0 1) 2 := by
          have hq : (if decide (¬ bN F = 0) = true then s 4 e + 1 else 0) = s 4 e + 1 := if_pos (by simp [c0])
          unfold aS
          rw [hq, if_pos ⟨fun z => by rw [z] at c2; rw [c2] at c1; exact absurd c1 (by decide), c2⟩]
        rw [eS]
        rw [← c2] at o1
        refine ⟨h', fun Q => ?_, b2, fun r r1 r2 => by rw [b3 r r1 r2]; exact h42 r r1 r2⟩
        unfold Cal
        rw [l_X5_speakOn]
        simp only [am_en, am_ag, ct_i, ct_r, ct_l, List.length_cons, List.length_nil, List.replicate]
        simp [w_aload_n0 (M := mX5_speakOn) dX5_speakOn_0, w_getA (M := mX5_speakOn) dX5_speakOn_1 f_5_27 rfl (by decide) (by decide), w_iload_n1 (M := mX5_speakOn) dX5_speakOn_4, w_aaload (M := mX5_speakOn) dX5_speakOn_5, w_astore (M := mX5_speakOn) dX5_speakOn_6 (by decide), w_aload5 (M := mX5_speakOn) dX5_speakOn_8, w_aload5 (M := mX5_speakOn) dX5_speakOn_10, w_getI (M := mX5_speakOn) dX5_speakOn_12 f_5_83 rfl (by decide) (by decide), w_if_eq (M := mX5_speakOn) (tgt := 28) dX5_speakOn_15 (by decide), w_aload5 (M := mX5_speakOn) dX5_speakOn_18, w_getI (M := mX5_speakOn) dX5_speakOn_20 f_5_92 rfl (by decide) (by decide), w_iconst (M := mX5_speakOn) (v := 1) dX5_speakOn_23 rfl, w_iadd (M := mX5_speakOn) dX5_speakOn_24, w_goto (M := mX5_speakOn) (tgt := 29) dX5_speakOn_25 (by decide), w_iconst (M := mX5_speakOn) (v := 0) dX5_speakOn_28 rfl, w_putI (M := mX5_speakOn) dX5_speakOn_29 f_5_92 rfl (Or.inl rfl), w_aload5 (M := mX5_speakOn) dX5_speakOn_32, w_getI (M := mX5_speakOn) dX5_speakOn_34 f_5_92 rfl (by decide) (by decide), w_if_le (M := mX5_speakOn) (tgt := 71) dX5_speakOn_37 (by decide), w_aload5 (M := mX5_speakOn) dX5_speakOn_40, w_getI (M := mX5_speakOn) dX5_speakOn_42 f_5_92 rfl (by decide) (by decide), w_aload_n3 (M := mX5_speakOn) dX5_speakOn_45, w_iconst (M := mX5_speakOn) (v := 1) dX5_speakOn_46 rfl, w_iload_n1 (M := mX5_speakOn) dX5_speakOn_47, w_aload_n2 (M := mX5_speakOn) dX5_speakOn_48, w_aload_n0 (M := mX5_speakOn) dX5_speakOn_49, c_5_97 (M := mX5_speakOn) dX5_speakOn_50 rfl, w_ic_ne (M := mX5_speakOn) (tgt := 71) dX5_speakOn_53 (by decide), w_aload_n0 (M := mX5_speakOn) dX5_speakOn_56, w_iload_n1 (M := mX5_speakOn) dX5_speakOn_57, w_aload_n0 (M := mX5_speakOn) dX5_speakOn_58, w_getI (M := mX5_speakOn) dX5_speakOn_59 f_5_32 rfl (by decide) (by decide), w_iconst (M := mX5_speakOn) (v := 2) dX5_speakOn_62 rfl, w_aload4 (M := mX5_speakOn) dX5_speakOn_63, c_5_103 (M := mX5_speakOn) dX5_speakOn_65 rfl, w_goto (M := mX5_speakOn) (tgt := 110) dX5_speakOn_68 (by decide), w_vret (M := mX5_speakOn) dX5_speakOn_110 rfl, Kn_v_, Kn_n_, kl_i_, kl_a_, kl_l_, kl_n_, s1_0_, s2_0_, s1_1, s1_2, s1_3, s1_4, s1_5, s1_6, s1_7, s1_8, s1_9, s1_10, s1_11, s1_12, s1_13, s1_14, s2_1, s2_2, s2_3, s2_4, s2_5, s2_6, s2_7, s2_8, s2_9, s2_10, s2_11, s2_12, s2_13, s2_14, List.map_nil, List.map_cons, List.sum_nil, List.sum_cons, ct_i_, ct_r_, ct_l_, t_si_, t_sl_, t_sr_, n_si_, n_sl_, n_sr_, i_si_, i_sl_, i_sr_, l_si_, l_sl_, l_sr_, r_si_, r_sl_, r_sr_, vr_s_, vr_n_, nz_0_, nz_1_, p1, p5, p10, f1, f2, ie, ce, hCh.e, hh, hz, c0, a7, c1, o1, p12, a02, b1]
      · obtain ⟨h', b1, b2, b3⟩ := c_speakEnd (d := d) hm hC K2 he h1e hi
        have eS : aS g VS (decide (¬ bN F = 0)) s e = (if s 23 e < s 22 e then up (up s 4 e (s 4 e + 1)) 23 e (s 23 e + 1) else cls (up s 4 e (s 4 e + 1)) e (Nn (s 21 e)) (s 0 1) 1) := by
          have hq : (if decide (¬ bN F = 0) = true then s 4 e + 1 else 0) = s 4 e + 1 := if_pos (by simp [c0])
          unfold aS
          rw [hq, if_neg (fun z => c2 z.2)]
        rw [eS]
        refine ⟨h', fun Q => ?_, b2, fun r r1 r2 => by rw [b3 r r1 r2]; exact h42 r r1 r2⟩
        unfold Cal
        rw [l_X5_speakOn]
        simp only [am_en, am_ag, ct_i, ct_r, ct_l, List.length_cons, List.length_nil, List.replicate]
        simp [w_aload_n0 (M := mX5_speakOn) dX5_speakOn_0, w_getA (M := mX5_speakOn) dX5_speakOn_1 f_5_27 rfl (by decide) (by decide), w_iload_n1 (M := mX5_speakOn) dX5_speakOn_4, w_aaload (M := mX5_speakOn) dX5_speakOn_5, w_astore (M := mX5_speakOn) dX5_speakOn_6 (by decide), w_aload5 (M := mX5_speakOn) dX5_speakOn_8, w_aload5 (M := mX5_speakOn) dX5_speakOn_10, w_getI (M := mX5_speakOn) dX5_speakOn_12 f_5_83 rfl (by decide) (by decide), w_if_eq (M := mX5_speakOn) (tgt := 28) dX5_speakOn_15 (by decide), w_aload5 (M := mX5_speakOn) dX5_speakOn_18, w_getI (M := mX5_speakOn) dX5_speakOn_20 f_5_92 rfl (by decide) (by decide), w_iconst (M := mX5_speakOn) (v := 1) dX5_speakOn_23 rfl, w_iadd (M := mX5_speakOn) dX5_speakOn_24, w_goto (M := mX5_speakOn) (tgt := 29) dX5_speakOn_25 (by decide), w_iconst (M := mX5_speakOn) (v := 0) dX5_speakOn_28 rfl, w_putI (M := mX5_speakOn) dX5_speakOn_29 f_5_92 rfl (Or.inl rfl), w_aload5 (M := mX5_speakOn) dX5_speakOn_32, w_getI (M := mX5_speakOn) dX5_speakOn_34 f_5_92 rfl (by decide) (by decide), w_if_le (M := mX5_speakOn) (tgt := 71) dX5_speakOn_37 (by decide), w_aload5 (M := mX5_speakOn) dX5_speakOn_40, w_getI (M := mX5_speakOn) dX5_speakOn_42 f_5_92 rfl (by decide) (by decide), w_aload_n3 (M := mX5_speakOn) dX5_speakOn_45, w_iconst (M := mX5_speakOn) (v := 1) dX5_speakOn_46 rfl, w_iload_n1 (M := mX5_speakOn) dX5_speakOn_47, w_aload_n2 (M := mX5_speakOn) dX5_speakOn_48, w_aload_n0 (M := mX5_speakOn) dX5_speakOn_49, c_5_97 (M := mX5_speakOn) dX5_speakOn_50 rfl, w_ic_ne (M := mX5_speakOn) (tgt := 71) dX5_speakOn_53 (by decide), w_aload_n0 (M := mX5_speakOn) dX5_speakOn_56, w_iload_n1 (M := mX5_speakOn) dX5_speakOn_57, w_aload_n0 (M := mX5_speakOn) dX5_speakOn_58, w_getI (M := mX5_speakOn) dX5_speakOn_59 f_5_32 rfl (by decide) (by decide), w_iconst (M := mX5_speakOn) (v := 2) dX5_speakOn_62 rfl, w_aload4 (M := mX5_speakOn) dX5_speakOn_63, c_5_103 (M := mX5_speakOn) dX5_speakOn_65 rfl, w_goto (M := mX5_speakOn) (tgt := 110) dX5_speakOn_68 (by decide), Kn_v_, Kn_n_, kl_i_, kl_a_, kl_l_, kl_n_, s1_0_, s2_0_, s1_1, s1_2, s1_3, s1_4, s1_5, s1_6, s1_7, s1_8, s1_9, s1_10, s1_11, s1_12, s1_13, s1_14, s2_1, s2_2, s2_3, s2_4, s2_5, s2_6, s2_7, s2_8, s2_9, s2_10, s2_11, s2_12, s2_13, s2_14, List.map_nil, List.map_cons, List.sum_nil, List.sum_cons, ct_i_, ct_r_, ct_l_, t_si_, t_sl_, t_sr_, n_si_, n_sl_, n_sr_, i_si_, i_sl_, i_sr_, l_si_, l_sl_, l_sr_, r_si_, r_sl_, r_sr_, vr_s_, vr_n_, nz_0_, nz_1_, p1, p5, p10, f1, f2, ie, ce, hCh.e, hh, hz, c0, a7, c1, o1, c2, b1]
    · obtain ⟨h', b1, b2, b3⟩ := c_speakEnd (d := d) hm hC K1 he h1e hi
      have eS : aS g VS (decide (¬ bN F = 0)) s e = (if s 23 e < s 22 e then up (up s 4 e (s 4 e + 1)) 23 e (s 23 e + 1) else cls (up s 4 e (s 4 e + 1)) e (Nn (s 21 e)) (s 0 1) 1) := by
        have hq : (if decide (¬ bN F = 0) = true then s 4 e + 1 else 0) = s 4 e + 1 := if_pos (by simp [c0])
        unfold aS
        rw [hq, if_neg (fun z => by
          obtain ⟨z1, z2⟩ := z
          have z3 : ¬ (VS (nmS g s e) (tw g 1 e)).toInt = 0 := fun w => z1 (Int32.toInt_inj.mp w)
          rw [i_lt, tb, z2] at c1
          have : (lo5 1).toInt = 0 := rfl
          unfold bt at stb
          omega)]
      rw [eS]
      refine ⟨h', fun Q => ?_, b2, fun r r1 r2 => by rw [b3 r r1 r2]; exact ine (by omega)⟩
      unfold Cal
      rw [l_X5_speakOn]
      simp only [am_en, am_ag, ct_i, ct_r, ct_l, List.length_cons, List.length_nil, List.replicate]
      simp [w_aload_n0 (M := mX5_speakOn) dX5_speakOn_0, w_getA (M := mX5_speakOn) dX5_speakOn_1 f_5_27 rfl (by decide) (by decide), w_iload_n1 (M := mX5_speakOn) dX5_speakOn_4, w_aaload (M := mX5_speakOn) dX5_speakOn_5, w_astore (M := mX5_speakOn) dX5_speakOn_6 (by decide), w_aload5 (M := mX5_speakOn) dX5_speakOn_8, w_aload5 (M := mX5_speakOn) dX5_speakOn_10, w_getI (M := mX5_speakOn) dX5_speakOn_12 f_5_83 rfl (by decide) (by decide), w_if_eq (M := mX5_speakOn) (tgt := 28) dX5_speakOn_15 (by decide), w_aload5 (M := mX5_speakOn) dX5_speakOn_18, w_getI (M := mX5_speakOn) dX5_speakOn_20 f_5_92 rfl (by decide) (by decide), w_iconst (M := mX5_speakOn) (v := 1) dX5_speakOn_23 rfl, w_iadd (M := mX5_speakOn) dX5_speakOn_24, w_goto (M := mX5_speakOn) (tgt := 29) dX5_speakOn_25 (by decide), w_iconst (M := mX5_speakOn) (v := 0) dX5_speakOn_28 rfl, w_putI (M := mX5_speakOn) dX5_speakOn_29 f_5_92 rfl (Or.inl rfl), w_aload5 (M := mX5_speakOn) dX5_speakOn_32, w_getI (M := mX5_speakOn) dX5_speakOn_34 f_5_92 rfl (by decide) (by decide), w_if_le (M := mX5_speakOn) (tgt := 71) dX5_speakOn_37 (by decide), w_aload5 (M := mX5_speakOn) dX5_speakOn_40, w_getI (M := mX5_speakOn) dX5_speakOn_42 f_5_92 rfl (by decide) (by decide), w_aload_n3 (M := mX5_speakOn) dX5_speakOn_45, w_iconst (M := mX5_speakOn) (v := 1) dX5_speakOn_46 rfl, w_iload_n1 (M := mX5_speakOn) dX5_speakOn_47, w_aload_n2 (M := mX5_speakOn) dX5_speakOn_48, w_aload_n0 (M := mX5_speakOn) dX5_speakOn_49, c_5_97 (M := mX5_speakOn) dX5_speakOn_50 rfl, w_ic_ne (M := mX5_speakOn) (tgt := 71) dX5_speakOn_53 (by decide), w_aload_n0 (M := mX5_speakOn) dX5_speakOn_56, w_iload_n1 (M := mX5_speakOn) dX5_speakOn_57, w_aload_n0 (M := mX5_speakOn) dX5_speakOn_58, w_getI (M := mX5_speakOn) dX5_speakOn_59 f_5_32 rfl (by decide) (by decide), w_iconst (M := mX5_speakOn) (v := 2) dX5_speakOn_62 rfl, w_aload4 (M := mX5_speakOn) dX5_speakOn_63, c_5_103 (M := mX5_speakOn) dX5_speakOn_65 rfl, w_goto (M := mX5_speakOn) (tgt := 110) dX5_speakOn_68 (by decide), Kn_v_, Kn_n_, kl_i_, kl_a_, kl_l_, kl_n_, s1_0_, s2_0_, s1_1, s1_2, s1_3, s1_4, s1_5, s1_6, s1_7, s1_8, s1_9, s1_10, s1_11, s1_12, s1_13, s1_14, s2_1, s2_2, s2_3, s2_4, s2_5, s2_6, s2_7, s2_8, s2_9, s2_10, s2_11, s2_12, s2_13, s2_14, List.map_nil, List.map_cons, List.sum_nil, List.sum_cons, ct_i_, ct_r_, ct_l_, t_si_, t_sl_, t_sr_, n_si_, n_sl_, n_sr_, i_si_, i_sl_, i_sr_, l_si_, l_sl_, l_sr_, r_si_, r_sl_, r_sr_, vr_s_, vr_n_, nz_0_, nz_1_, p1, p5, p10, f1, f2, ie, ce, hCh.e, hh, hz, c0, a7, c1, b1]
end CACT
