/-! the other side's beginning and its end -/
section RTEXT
variable {t : Nat → Nat} {T : List (Nat × Nat × Nat)} {n q w g j K d e p k i u : Nat} {h h' h'' hb h1 hr hr' : am_h} {Q : Option Value → am_h → Prop} {x : Nat × Nat × Nat} {f s v a b : Int32}
theorem nI_ex (v : Int32) : ∃ w, v = nI w := ⟨v.toBitVec.toNat, by
  apply Int32.toBitVec_inj.mp
  unfold nI
  simp⟩
theorem l1_in : am_in1 1 20150 = True := (in1_n (k := 1) (n := 20150) (by omega)).trans (eq_true (by omega))
theorem l1_c : (1 : Int32).toNatClampNeg = 1 := rfl
def rtB (h : am_h) (n : Nat) : am_h := s_i (s_i (s_i (s_i (s_i (s_i (s_i (s_i (s_i (s_i (s_i h 126 14 (nI n)) 126 3 0) 126 15 0) 126 19 0) 126 20 (-1)) 126 21 0) 126 22 0) 126 25 0) 126 28 4) 126 30 0) 126 37 0
theorem rtB_i {p i : Nat} (m : ¬ (p = 126 ∧ (i = 3 ∨ (14 ≤ i ∧ i ≤ 37)))) : a_i (rtB h n) p i = a_i h p i := by
  unfold rtB
  rw [ine (by omega), ine (by omega), ine (by omega), ine (by omega), ine (by omega), ine (by omega), ine (by omega), ine (by omega), ine (by omega), ine (by omega), ine (by omega)]
theorem rtB_o : a_i (rtB h n) 126 14 = nI n ∧ a_i (rtB h n) 126 15 = 0 ∧ a_i (rtB h n) 126 19 = 0 ∧ a_i (rtB h n) 126 20 = -1 ∧ a_i (rtB h n) 126 21 = 0 ∧ a_i (rtB h n) 126 22 = 0 ∧ a_i (rtB h n) 126 25 = 0 ∧ a_i (rtB h n) 126 28 = 4 ∧ a_i (rtB h n) 126 30 = 0 ∧ a_i (rtB h n) 126 37 = 0 ∧ a_i (rtB h n) 126 3 = 0 := by
  unfold rtB
  refine ⟨?_, ?_, ?_, ?_, ?_, ?_, ?_, ?_, ?_, ?_, ?_⟩ <;> simp (disch := omega) only [ine, ieq]
theorem rt_beg (hR : sh_R (a_t h) (a_r h)) (h3 : a_i h 126 3 = nI n) (hn : n ≤ 300) (ht : ∀ j, j < n → a_i h 129 j = b8 (t j) ∧ t j < 256) (nt : ¬ a_i h 127 1 = 4) : ∃ (w : Nat) (h1 : am_h), (∀ Q, Cal (d + 10) mX12_text [.ref 126] h Q = LPH d h1 Q) ∧ okP t n (tks t n 300 0 ++ [(0, 0, n)]) w 0 h1 ∧ okK 0 0 0 0 h1 ∧ a_i h1 126 28 = 4 ∧ a_i h1 126 30 = nI 0 ∧ a_i h1 126 20 = -1 ∧ a_i h1 126 3 = 0 ∧ sm h h1 ∧ a_l h1 = a_l h ∧ ∀ p i, ¬ (p = 126 ∧ (i = 3 ∨ (14 ≤ i ∧ i ≤ 37))) → a_i h1 p i = a_i h p i := by
  obtain ⟨w, ew⟩ := nI_ex (a_i h 126 31)
  obtain ⟨o1, o2, o3, o4, o5, o6, o7, o8, o9, o10, o11⟩ := rtB_o (h := h) (n := n)
  have e31 : a_i (rtB h n) 126 31 = nI w := by
    rw [← ew]
    unfold rtB
    simp (disch := omega) only [ine]
  obtain ⟨B, eB⟩ : ∃ B, B = rtB h n := ⟨_, rfl⟩
  rw [← eB] at o1 o2 o3 o4 o5 o6 o7 o8 o9 o10 o11 e31
  have Bi : ∀ p i, ¬ (p = 126 ∧ (i = 3 ∨ (14 ≤ i ∧ i ≤ 37))) → a_i B p i = a_i h p i := fun p i m => by rw [eB]; exact rtB_i m
  have sB : sm h B := by rw [eB]; exact ⟨rfl, rfl, rfl⟩
  have lB : a_l B = a_l h := by rw [eB]; rfl
  have TB : tpR B t n := ⟨by rw [sB.1, sB.2.1]; exact hR, o1, hn, fun j hj => ⟨(Bi _ _ (by omega)).trans (ht j hj).1, (ht j hj).2⟩⟩
  obtain ⟨h1, x, i', R, a1, a2, a3, a4, a5, a6, a7, a8⟩ := q_X12_next (d := d + 7) (i := 0) TB o2 (Nat.zero_le _)
  have N : ∀ i, ¬ (15 ≤ i ∧ i ≤ 18) → a_i h1 126 i = a_i B 126 i := fun i m => a3.2.2 _ _ (by omega)
  have eT : tks t n 300 0 ++ [(0, 0, n)] = x :: R := by
    rw [tks_ff 300 (n - 0) 0 (by omega) (by omega)]; exact a1
  refine ⟨w, h1, fun Q => ?_, ⟨⟨by rw [a3.1.1, a3.1.2.1]; exact TB.1, by rw [N _ (by omega)]; exact o1, hn, fun j hj => by rw [a3.2.2 _ _ (by omega)]; exact TB.2.2.2 j hj⟩, by rw [N _ (by omega)]; exact o3, by rw [N _ (by omega)]; exact e31, x, i', by rw [eT]; rfl, a4, a5, a6, a7, fun z => by rw [eT]; exact a8 z⟩, ⟨by rw [N _ (by omega)]; exact o5, by rw [N _ (by omega)]; exact o6, by rw [N _ (by omega)]; exact o7, by rw [N _ (by omega)]; exact o10, fun i hi => absurd hi (by omega)⟩, by rw [N _ (by omega)]; exact o8, by rw [N _ (by omega)]; exact o9, by rw [N _ (by omega)]; exact o4, by rw [N _ (by omega)]; exact o11, sB.tr a3.1, a3.2.1.trans lB, fun p i m => ?_⟩
  · rw [eB] at a2
    unfold rtB at a2
    unfold LPH Cal
    rw [show m_l mX12_text = 4 from rfl]
    simp only [am_en, am_ag, ct_i, ct_r, ct_l, List.length_cons, List.length_nil, List.replicate]
    simp [w_aload_n0 (M := mX12_text) dX12_text_0, w_getA (M := mX12_text) dX12_text_1 f_12_7 rfl (by decide) (by decide), w_iconst (M := mX12_text) (v := 1) dX12_text_4 rfl, w_iaload (M := mX12_text) dX12_text_5, w_iconst (M := mX12_text) (v := 4) dX12_text_6 rfl, w_ic_ne (M := mX12_text) (tgt := 17) dX12_text_7 (by decide), w_aload_n0 (M := mX12_text) dX12_text_17, w_aload_n0 (M := mX12_text) dX12_text_18, w_getI (M := mX12_text) dX12_text_19 f_12_194 rfl (by decide) (by decide), w_putI (M := mX12_text) dX12_text_22 f_12_268 rfl (Or.inl rfl), w_aload_n0 (M := mX12_text) dX12_text_25, w_iconst (M := mX12_text) (v := 0) dX12_text_26 rfl, w_putI (M := mX12_text) dX12_text_27 f_12_194 rfl (Or.inl rfl), w_aload_n0 (M := mX12_text) dX12_text_30, w_iconst (M := mX12_text) (v := 0) dX12_text_31 rfl, w_putI (M := mX12_text) dX12_text_32 f_12_265 rfl (Or.inl rfl), w_aload_n0 (M := mX12_text) dX12_text_35, w_iconst (M := mX12_text) (v := 0) dX12_text_36 rfl, w_putI (M := mX12_text) dX12_text_37 f_12_290 rfl (Or.inl rfl), w_aload_n0 (M := mX12_text) dX12_text_40, w_iconst (M := mX12_text) (v := (-1)) dX12_text_41 rfl, w_putI (M := mX12_text) dX12_text_42 f_12_293 rfl (Or.inl rfl), w_aload_n0 (M := mX12_text) dX12_text_45, w_iconst (M := mX12_text) (v := 0) dX12_text_46 rfl, w_putI (M := mX12_text) dX12_text_47 f_12_302 rfl (Or.inl rfl), w_aload_n0 (M := mX12_text) dX12_text_50, w_iconst (M := mX12_text) (v := 0) dX12_text_51 rfl, w_putI (M := mX12_text) dX12_text_52 f_12_299 rfl (Or.inl rfl), w_aload_n0 (M := mX12_text) dX12_text_55, w_iconst (M := mX12_text) (v := 0) dX12_text_56 rfl, w_putI (M := mX12_text) dX12_text_57 f_12_314 rfl (Or.inl rfl), w_aload_n0 (M := mX12_text) dX12_text_60, w_iconst (M := mX12_text) (v := 4) dX12_text_61 rfl, w_putI (M := mX12_text) dX12_text_62 f_12_334 rfl (Or.inl rfl), w_aload_n0 (M := mX12_text) dX12_text_65, w_iconst (M := mX12_text) (v := 0) dX12_text_66 rfl, w_putI (M := mX12_text) dX12_text_67 f_12_372 rfl (Or.inl rfl), w_aload_n0 (M := mX12_text) dX12_text_70, w_iconst (M := mX12_text) (v := 0) dX12_text_71 rfl, w_putI (M := mX12_text) dX12_text_72 f_12_296 rfl (Or.inl rfl), w_aload_n0 (M := mX12_text) dX12_text_75, c_12_311 (M := mX12_text) dX12_text_76 rfl, Kn_v_, Kn_n_, kl_i_, kl_a_, kl_l_, kl_n_, s1_0_, s2_0_, s1_1, s1_2, s1_3, s1_4, s1_5, s1_6, s1_7, s1_8, s1_9, s1_10, s1_11, s1_12, s1_13, s1_14, s2_1, s2_2, s2_3, s2_4, s2_5, s2_6, s2_7, s2_8, s2_9, s2_10, s2_11, s2_12, s2_13, s2_14, List.map_nil, List.map_cons, List.sum_nil, List.sum_cons, ct_i_, ct_r_, ct_l_, t_si_, t_sl_, t_sr_, n_si_, n_sl_, n_sr_, i_si_, i_sl_, i_sr_, l_si_, l_sl_, l_sr_, r_si_, r_sl_, r_sr_, vr_s_, vr_n_, nz_0_, nz_1_, hR.e, h3, nt, a2, l1_in, l1_c]
  · rw [a3.2.2 _ _ (by omega), Bi _ _ m]
/-- a fault: its end -/
theorem rt_bad (F : flR f s hb h) (hR : sh_R (a_t h) (a_r h)) : ∀ Q, LPH d h Q = Q (some (.int (-1))) (s_i (s_i h 126 4 f) 126 5 s) := fun Q => by
  have e19 := F.2.2.2.1
  have e20 := F.2.2.2.2.1
  have nz : ¬ f = 0 := fun z => by have := F.1; rw [z] at this; exact absurd this (by decide)
  have nl : ¬ f ≤ 0 := by simpa using F.1
  have pf := F.1
  unfold LPH
  rw [w_aload_n0 (M := mX12_text) dX12_text_79]
  simp [w_getI (M := mX12_text) dX12_text_80 f_12_290 rfl (by decide) (by decide), w_if_ne (M := mX12_text) (tgt := 171) dX12_text_83 (by decide), w_aload_n0 (M := mX12_text) dX12_text_171, w_aload_n0 (M := mX12_text) dX12_text_172, w_getI (M := mX12_text) dX12_text_173 f_12_290 rfl (by decide) (by decide), w_putI (M := mX12_text) dX12_text_176 f_12_20 rfl (Or.inl rfl), w_aload_n0 (M := mX12_text) dX12_text_179, w_aload_n0 (M := mX12_text) dX12_text_180, w_getI (M := mX12_text) dX12_text_181 f_12_293 rfl (by decide) (by decide), w_putI (M := mX12_text) dX12_text_184 f_12_24 rfl (Or.inl rfl), w_aload_n0 (M := mX12_text) dX12_text_187, w_getI (M := mX12_text) dX12_text_188 f_12_290 rfl (by decide) (by decide), w_if_le (M := mX12_text) (tgt := 196) dX12_text_191 (by decide), w_iconst (M := mX12_text) (v := (-1)) dX12_text_194 rfl, w_iret (M := mX12_text) dX12_text_195 rfl, Kn_v_, Kn_n_, kl_i_, kl_a_, kl_l_, kl_n_, s1_0_, s2_0_, s1_1, s1_2, s1_3, s1_4, s1_5, s1_6, s1_7, s1_8, s1_9, s1_10, s1_11, s1_12, s1_13, s1_14, s2_1, s2_2, s2_3, s2_4, s2_5, s2_6, s2_7, s2_8, s2_9, s2_10, s2_11, s2_12, s2_13, s2_14, List.map_nil, List.map_cons, List.sum_nil, List.sum_cons, ct_i_, ct_r_, ct_l_, t_si_, t_sl_, t_sr_, n_si_, n_sl_, n_sr_, i_si_, i_sl_, i_sr_, l_si_, l_sl_, l_sr_, r_si_, r_sl_, r_sr_, vr_s_, vr_n_, nz_0_, nz_1_, hR.e, e19, e20, nz, nl, pf]
/-- no fault: the new text is laid -/
def rtA (h : am_h) (u K : Nat) : am_h := s_i (s_i (s_i h 126 4 0) 126 5 (-1)) 130 u (nI K)
theorem rt_a (hR : sh_R (a_t h) (a_r h)) (e19 : a_i h 126 19 = 0) (e20 : a_i h 126 20 = -1) (hs : a_i h 126 28 = 4) (hk : a_i h 126 17 = 0) (hu : a_i h 127 1 = nI u) (lu : u < 4) (hK : a_i h 126 30 = nI K) : ∀ Q, LPH d h Q = WP (d + 10) mX12_text 215 [some (.ref 126), some (.int (nI u)), some (.int (nI 0)), none] [] (rtA h u K) Q := fun Q => by
  have x1 : am_in1 (nI u) 4 = True := by rw [in1_n (by omega)]; exact eq_true lu
  have x2 := nI_c (a := u) (by omega)
  unfold LPH rtA
  rw [w_aload_n0 (M := mX12_text) dX12_text_79]
  simp [w_getI (M := mX12_text) dX12_text_80 f_12_290 rfl (by decide) (by decide), w_if_ne (M := mX12_text) (tgt := 171) dX12_text_83 (by decide), w_aload_n0 (M := mX12_text) dX12_text_86, w_getI (M := mX12_text) dX12_text_87 f_12_334 rfl (by decide) (by decide), w_iconst (M := mX12_text) (v := 4) dX12_text_90 rfl, w_ic_ne (M := mX12_text) (tgt := 101) dX12_text_91 (by decide), w_aload_n0 (M := mX12_text) dX12_text_94, w_getI (M := mX12_text) dX12_text_95 f_12_274 rfl (by decide) (by decide), w_if_eq (M := mX12_text) (tgt := 171) dX12_text_98 (by decide), w_aload_n0 (M := mX12_text) dX12_text_171, w_aload_n0 (M := mX12_text) dX12_text_172, w_getI (M := mX12_text) dX12_text_173 f_12_290 rfl (by decide) (by decide), w_putI (M := mX12_text) dX12_text_176 f_12_20 rfl (Or.inl rfl), w_aload_n0 (M := mX12_text) dX12_text_179, w_aload_n0 (M := mX12_text) dX12_text_180, w_getI (M := mX12_text) dX12_text_181 f_12_293 rfl (by decide) (by decide), w_putI (M := mX12_text) dX12_text_184 f_12_24 rfl (Or.inl rfl), w_aload_n0 (M := mX12_text) dX12_text_187, w_getI (M := mX12_text) dX12_text_188 f_12_290 rfl (by decide) (by decide), w_if_le (M := mX12_text) (tgt := 196) dX12_text_191 (by decide), w_aload_n0 (M := mX12_text) dX12_text_196, w_getA (M := mX12_text) dX12_text_197 f_12_7 rfl (by decide) (by decide), w_iconst (M := mX12_text) (v := 1) dX12_text_200 rfl, w_iaload (M := mX12_text) dX12_text_201, w_istore_n (M := mX12_text) (i := 1) dX12_text_202 rfl (by decide), w_aload_n0 (M := mX12_text) dX12_text_203, w_getA (M := mX12_text) dX12_text_204 f_12_27 rfl (by decide) (by decide), w_iload_n1 (M := mX12_text) dX12_text_207, w_aload_n0 (M := mX12_text) dX12_text_208, w_getI (M := mX12_text) dX12_text_209 f_12_372 rfl (by decide) (by decide), w_iastore (M := mX12_text) dX12_text_212, w_iconst (M := mX12_text) (v := 0) dX12_text_213 rfl, w_istore_n (M := mX12_text) (i := 2) dX12_text_214 rfl (by decide), Kn_v_, Kn_n_, kl_i_, kl_a_, kl_l_, kl_n_, s1_0_, s2_0_, s1_1, s1_2, s1_3, s1_4, s1_5, s1_6, s1_7, s1_8, s1_9, s1_10, s1_11, s1_12, s1_13, s1_14, s2_1, s2_2, s2_3, s2_4, s2_5, s2_6, s2_7, s2_8, s2_9, s2_10, s2_11, s2_12, s2_13, s2_14, List.map_nil, List.map_cons, List.sum_nil, List.sum_cons, ct_i_, ct_r_, ct_l_, t_si_, t_sl_, t_sr_, n_si_, n_sl_, n_sr_, i_si_, i_sl_, i_sr_, l_si_, l_sl_, l_sr_, r_si_, r_sl_, r_sr_, vr_s_, vr_n_, nz_0_, nz_1_, hR.e, e19, e20, hs, hk, hu, hK, x1, x2, l1_in, l1_c, show nI 0 = 0 from rfl]
def cpV (h : am_h) (u p m : Nat) : Int32 := if p = 132 then 400 * nI u + a_i h 144 m else a_i h (p + 12) m
def cpP (h : am_h) (u k : Nat) (s : am_h) : Prop := sm h s ∧ a_l s = a_l h ∧ ∀ p i, a_i s p i = if 131 ≤ p ∧ p ≤ 135 ∧ 24 * u ≤ i ∧ i < 24 * u + k then cpV h u p (i - 24 * u) else a_i h p i
theorem cpP.ne {s : am_h} (P : cpP h u k s) {p i : Nat} (m : ¬ (131 ≤ p ∧ p ≤ 135 ∧ 24 * u ≤ i ∧ i < 24 * u + k)) : a_i s p i = a_i h p i := by rw [P.2.2, if_neg m]
theorem cpP.eq {s : am_h} (P : cpP h u k s) {p m : Nat} (m1 : 131 ≤ p ∧ p ≤ 135) (lm : m < k) : a_i s p (24 * u + m) = cpV h u p m := by
  rw [P.2.2, if_pos ⟨m1.1, m1.2, by omega, by omega⟩, show 24 * u + m - 24 * u = m by omega]
set_option maxRecDepth 20000 in
set_option maxHeartbeats 1000000 in
theorem rt_cp (hR : sh_R (a_t h) (a_r h)) (hK : a_i h 126 30 = nI K) (lK : K ≤ 24) (lu : u < 4) : ∃ s, (∀ Q, WP d mX12_text 215 [some (.ref 126), some (.int (nI u)), some (.int (nI 0)), none] [] h Q = WP d mX12_text 320 [some (.ref 126), some (.int (nI u)), some (.int (nI K)), none] [] s Q) ∧ cpP h u K s := by
  obtain ⟨s', r1, r2⟩ := lp (W := fun k s Q => WP d mX12_text 215 [some (.ref 126), some (.int (nI u)), some (.int (nI k)), none] [] s Q) (P := cpP h u) (n := K) (fun k s lk P => by
    have hRs : sh_R (a_t s) (a_r s) := by rw [P.1.1, P.1.2.1]; exact hR
    have hKs : a_i s 126 30 = nI K := (P.ne (by omega)).trans hK
    have c1 : (nI k < nI K) = True := nI_ltT lk (by omega)
    have c2 : (nI K ≤ nI k) = False := by rw [nI_lE (by omega) (by omega)]; exact eq_false (by omega)
    have x1 : am_in1 (nI k) 24 = True := by rw [in1_n (by omega)]; exact eq_true (by omega)
    have x2 := nI_c (a := k) (by omega)
    have x3 : nI k + 1 = nI (k + 1) := nI_a (b := 1)
    have m1 : 24 * nI u + nI k = nI (24 * u + k) := by rw [show (24 : Int32) = nI 24 from rfl, nI_m, nI_a]
    have x4 : am_in1 (nI (24 * u + k)) 96 = True := by rw [in1_n (by omega)]; exact eq_true (by omega)
    have x5 := nI_c (a := 24 * u + k) (by omega)
    refine ⟨s_i (s_i (s_i (s_i (s_i s 131 (24 * u + k) (a_i s 143 k)) 132 (24 * u + k) (400 * nI u + a_i s 144 k)) 133 (24 * u + k) (a_i s 145 k)) 134 (24 * u + k) (a_i s 146 k)) 135 (24 * u + k) (a_i s 147 k), fun Q => ?_, ⟨P.1.1, P.1.2.1, P.1.2.2⟩, P.2.1, fun p i => ?_⟩
    · show WP d mX12_text 215 [some (.ref 126), some (.int (nI u)), some (.int (nI k)), none] [] s Q = WP d mX12_text 215 [some (.ref 126), some (.int (nI u)), some (.int (nI (k + 1))), none] [] (s_i (s_i (s_i (s_i (s_i s 131 (24 * u + k) (a_i s 143 k)) 132 (24 * u + k) (400 * nI u + a_i s 144 k)) 133 (24 * u + k) (a_i s 145 k)) 134 (24 * u + k) (a_i s 146 k)) 135 (24 * u + k) (a_i s 147 k)) Q
      have s1 : WP d mX12_text 215 [some (.ref 126), some (.int (nI u)), some (.int (nI k)), none] [] s Q = WP d mX12_text 314 [some (.ref 126), some (.int (nI u)), some (.int (nI k)), none] [] (s_i (s_i (s_i (s_i (s_i s 131 (24 * u + k) (a_i s 143 k)) 132 (24 * u + k) (400 * nI u + a_i s 144 k)) 133 (24 * u + k) (a_i s 145 k)) 134 (24 * u + k) (a_i s 146 k)) 135 (24 * u + k) (a_i s 147 k)) Q := by
        simp [w_iload_n2 (M := mX12_text) dX12_text_215, w_aload_n0 (M := mX12_text) dX12_text_216, w_getI (M := mX12_text) dX12_text_217 f_12_372 rfl (by decide) (by decide), w_ic_ge (M := mX12_text) (tgt := 320) dX12_text_220 (by decide), w_aload_n0 (M := mX12_text) dX12_text_223, w_getA (M := mX12_text) dX12_text_224 f_12_30 rfl (by decide) (by decide), w_bipush (M := mX12_text) (v := 24) dX12_text_227 rfl, w_iload_n1 (M := mX12_text) dX12_text_229, w_imul (M := mX12_text) dX12_text_230, w_iload_n2 (M := mX12_text) dX12_text_231, w_iadd (M := mX12_text) dX12_text_232, w_aload_n0 (M := mX12_text) dX12_text_233, w_getA (M := mX12_text) dX12_text_234 f_12_66 rfl (by decide) (by decide), w_iload_n2 (M := mX12_text) dX12_text_237, w_iaload (M := mX12_text) dX12_text_238, w_iastore (M := mX12_text) dX12_text_239, w_aload_n0 (M := mX12_text) dX12_text_240, w_getA (M := mX12_text) dX12_text_241 f_12_33 rfl (by decide) (by decide), w_bipush (M := mX12_text) (v := 24) dX12_text_244 rfl, w_iload_n1 (M := mX12_text) dX12_text_246, w_imul (M := mX12_text) dX12_text_247, w_iload_n2 (M := mX12_text) dX12_text_248, w_iadd (M := mX12_text) dX12_text_249, w_sipush (M := mX12_text) (v := 400) dX12_text_250 rfl, w_iload_n1 (M := mX12_text) dX12_text_253, w_imul (M := mX12_text) dX12_text_254, w_aload_n0 (M := mX12_text) dX12_text_255, w_getA (M := mX12_text) dX12_text_256 f_12_69 rfl (by decide) (by decide), w_iload_n2 (M := mX12_text) dX12_text_259, w_iaload (M := mX12_text) dX12_text_260, w_iadd (M := mX12_text) dX12_text_261, w_iastore (M := mX12_text) dX12_text_262, w_aload_n0 (M := mX12_text) dX12_text_263, w_getA (M := mX12_text) dX12_text_264 f_12_36 rfl (by decide) (by decide), w_bipush (M := mX12_text) (v := 24) dX12_text_267 rfl, w_iload_n1 (M := mX12_text) dX12_text_269, w_imul (M := mX12_text) dX12_text_270, w_iload_n2 (M := mX12_text) dX12_text_271, w_iadd (M := mX12_text) dX12_text_272, w_aload_n0 (M := mX12_text) dX12_text_273, w_getA (M := mX12_text) dX12_text_274 f_12_72 rfl (by decide) (by decide), w_iload_n2 (M := mX12_text) dX12_text_277, w_iaload (M := mX12_text) dX12_text_278, w_iastore (M := mX12_text) dX12_text_279, w_aload_n0 (M := mX12_text) dX12_text_280, w_getA (M := mX12_text) dX12_text_281 f_12_39 rfl (by decide) (by decide), w_bipush (M := mX12_text) (v := 24) dX12_text_284 rfl, w_iload_n1 (M := mX12_text) dX12_text_286, w_imul (M := mX12_text) dX12_text_287, w_iload_n2 (M := mX12_text) dX12_text_288, w_iadd (M := mX12_text) dX12_text_289, w_aload_n0 (M := mX12_text) dX12_text_290, w_getA (M := mX12_text) dX12_text_291 f_12_75 rfl (by decide) (by decide), w_iload_n2 (M := mX12_text) dX12_text_294, w_iaload (M := mX12_text) dX12_text_295, w_iastore (M := mX12_text) dX12_text_296, w_aload_n0 (M := mX12_text) dX12_text_297, w_getA (M := mX12_text) dX12_text_298 f_12_42 rfl (by decide) (by decide), w_bipush (M := mX12_text) (v := 24) dX12_text_301 rfl, w_iload_n1 (M := mX12_text) dX12_text_303, w_imul (M := mX12_text) dX12_text_304, w_iload_n2 (M := mX12_text) dX12_text_305, w_iadd (M := mX12_text) dX12_text_306, w_aload_n0 (M := mX12_text) dX12_text_307, w_getA (M := mX12_text) dX12_text_308 f_12_78 rfl (by decide) (by decide), w_iload_n2 (M := mX12_text) dX12_text_311, w_iaload (M := mX12_text) dX12_text_312, w_iastore (M := mX12_text) dX12_text_313, Kn_v_, Kn_n_, kl_i_, kl_a_, kl_l_, kl_n_, s1_0_, s2_0_, s1_1, s1_2, s1_3, s1_4, s1_5, s1_6, s1_7, s1_8, s1_9, s1_10, s1_11, s1_12, s1_13, s1_14, s2_1, s2_2, s2_3, s2_4, s2_5, s2_6, s2_7, s2_8, s2_9, s2_10, s2_11, s2_12, s2_13, s2_14, List.map_nil, List.map_cons, List.sum_nil, List.sum_cons, ct_i_, ct_r_, ct_l_, t_si_, t_sl_, t_sr_, n_si_, n_sl_, n_sr_, i_si_, i_sl_, i_sr_, l_si_, l_sl_, l_sr_, r_si_, r_sl_, r_sr_, vr_s_, vr_n_, nz_0_, nz_1_, hRs.e, hKs, c1, c2, x1, x2, m1, x4, x5]
      have s2 : ∀ H, WP d mX12_text 314 [some (.ref 126), some (.int (nI u)), some (.int (nI k)), none] [] H Q = WP d mX12_text 215 [some (.ref 126), some (.int (nI u)), some (.int (nI (k + 1))), none] [] H Q := fun H => by
        simp [w_iinc2 (M := mX12_text) (v := 1) dX12_text_314 rfl (by decide), w_goto (M := mX12_text) (tgt := 215) dX12_text_317 (by decide), Kn_v_, Kn_n_, kl_i_, kl_a_, kl_l_, kl_n_, s1_0_, s2_0_, s1_1, s1_2, s1_3, s1_4, s1_5, s1_6, s1_7, s1_8, s1_9, s1_10, s1_11, s1_12, s1_13, s1_14, s2_1, s2_2, s2_3, s2_4, s2_5, s2_6, s2_7, s2_8, s2_9, s2_10, s2_11, s2_12, s2_13, s2_14, List.map_nil, List.map_cons, List.sum_nil, List.sum_cons, ct_i_, ct_r_, ct_l_, t_si_, t_sl_, t_sr_, n_si_, n_sl_, n_sr_, i_si_, i_sl_, i_sr_, l_si_, l_sl_, l_sr_, r_si_, r_sl_, r_sr_, vr_s_, vr_n_, nz_0_, nz_1_, x3]
      rw [s1, s2]
    · have o : ∀ p, ¬ (131 ≤ p ∧ p ≤ 135) → a_i s p k = a_i h p k := fun p m => P.ne (by omega)
      by_cases z : 131 ≤ p ∧ p ≤ 135 ∧ i = 24 * u + k
      · obtain ⟨z1, z2, z3⟩ := z
        subst z3
        rw [if_pos ⟨z1, z2, by omega, by omega⟩, show 24 * u + k - 24 * u = k by omega]
        unfold cpV
        have five : p = 131 ∨ p = 132 ∨ p = 133 ∨ p = 134 ∨ p = 135 := by omega
        rcases five with z | z | z | z | z <;> subst z
        · rw [if_neg (by omega), ine (by omega), ine (by omega), ine (by omega), ine (by omega), ieq rfl rfl]; exact o 143 (by omega)
        · rw [if_pos rfl, ine (by omega), ine (by omega), ine (by omega), ieq rfl rfl, o 144 (by omega)]
        · rw [if_neg (by omega), ine (by omega), ine (by omega), ieq rfl rfl]; exact o 145 (by omega)
        · rw [if_neg (by omega), ine (by omega), ieq rfl rfl]; exact o 146 (by omega)
        · rw [if_neg (by omega), ieq rfl rfl]; exact o 147 (by omega)
      · rw [ine (by omega), ine (by omega), ine (by omega), ine (by omega), ine (by omega), P.2.2]
        by_cases y : 131 ≤ p ∧ p ≤ 135 ∧ 24 * u ≤ i ∧ i < 24 * u + k
        · rw [if_pos y, if_pos ⟨y.1, y.2.1, y.2.2.1, by omega⟩]
        · rw [if_neg y, if_neg (by omega)]) K 0 h (by omega) ⟨sm.rf, rfl, fun p i => by rw [if_neg (by omega)]⟩
  refine ⟨s', fun Q => ?_, r2⟩
  have e : WP d mX12_text 215 [some (.ref 126), some (.int (nI u)), some (.int (nI 0)), none] [] h Q = WP d mX12_text 215 [some (.ref 126), some (.int (nI u)), some (.int (nI K)), none] [] s' Q := r1 Q
  rw [e]
  have hRs : sh_R (a_t s') (a_r s') := by rw [r2.1.1, r2.1.2.1]; exact hR
  have hKs : a_i s' 126 30 = nI K := (r2.ne (by omega)).trans hK
  have c1 : (nI K < nI K) = False := nI_ltF (Nat.le_refl _) (by omega)
  have c2 : (nI K ≤ nI K) = True := by rw [nI_lE (by omega) (by omega)]; exact eq_true (Nat.le_refl _)
  simp [w_iload_n2 (M := mX12_text) dX12_text_215, w_aload_n0 (M := mX12_text) dX12_text_216, w_getI (M := mX12_text) dX12_text_217 f_12_372 rfl (by decide) (by decide), w_ic_ge (M := mX12_text) (tgt := 320) dX12_text_220 (by decide), Kn_v_, Kn_n_, kl_i_, kl_a_, kl_l_, kl_n_, s1_0_, s2_0_, s1_1, s1_2, s1_3, s1_4, s1_5, s1_6, s1_7, s1_8, s1_9, s1_10, s1_11, s1_12, s1_13, s1_14, s2_1, s2_2, s2_3, s2_4, s2_5, s2_6, s2_7, s2_8, s2_9, s2_10, s2_11, s2_12, s2_13, s2_14, List.map_nil, List.map_cons, List.sum_nil, List.sum_cons, ct_i_, ct_r_, ct_l_, t_si_, t_sl_, t_sr_, n_si_, n_sl_, n_sr_, i_si_, i_sl_, i_sr_, l_si_, l_sl_, l_sr_, r_si_, r_sl_, r_sr_, vr_s_, vr_n_, nz_0_, nz_1_, hRs.e, hKs, c1, c2]
/-! the orders -/
def coV (h : am_h) (u p m : Nat) : Int32 := if p = 136 then a_i h 148 m else a_i h 149 m + (if a_i h 148 m = 403 ∨ a_i h 148 m = 404 then 400 * nI u else 0)
def coP (h : am_h) (u k : Nat) (s : am_h × Option Value) : Prop := sm h s.1 ∧ a_l s.1 = a_l h ∧ ∀ p i, a_i s.1 p i = if (p = 136 ∨ p = 137) ∧ 400 * u ≤ i ∧ i < 400 * u + k then coV h u p (i - 400 * u) else a_i h p i
theorem coP.ne {s : am_h × Option Value} (P : coP h u k s) {p i : Nat} (m : ¬ ((p = 136 ∨ p = 137) ∧ 400 * u ≤ i ∧ i < 400 * u + k)) : a_i s.1 p i = a_i h p i := by rw [P.2.2, if_neg m]
theorem coP.eq {s : am_h × Option Value} (P : coP h u k s) {p m : Nat} (m1 : p = 136 ∨ p = 137) (lm : m < k) : a_i s.1 p (400 * u + m) = coV h u p m := by
  rw [P.2.2, if_pos ⟨m1, by omega, by omega⟩, show 400 * u + m - 400 * u = m by omega]
set_option maxRecDepth 20000 in
set_option maxHeartbeats 1000000 in
theorem rt_co (hR : sh_R (a_t h) (a_r h)) (hg : a_i h 126 37 = nI g) (lg : g < 400) (lu : u < 4) (hu : a_i h 127 1 = nI u) (l0 : Nat) : ∃ s, (∀ Q, WP d mX12_text 320 [some (.ref 126), some (.int (nI u)), some (.int (nI l0)), none] [] h Q = Q (some (.int (nI u))) (s_i s.1 127 1 (nI (u + 1)))) ∧ coP h u g s := by
  obtain ⟨s', r1, r2⟩ := lp (W := fun k (s : am_h × Option Value) Q => WP d mX12_text 322 [some (.ref 126), some (.int (nI u)), some (.int (nI k)), s.2] [] s.1 Q) (P := coP h u) (n := g) (fun k s lk P => by
    obtain ⟨s, sl⟩ := s
    have hRs : sh_R (a_t s) (a_r s) := by rw [P.1.1, P.1.2.1]; exact hR
    have hgs : a_i s 126 37 = nI g := (P.ne (by omega)).trans hg
    have c1 : (nI k < nI g) = True := nI_ltT lk (by omega)
    have c2 : (nI g ≤ nI k) = False := by rw [nI_lE (by omega) (by omega)]; exact eq_false (by omega)
    have x1 : am_in1 (nI k) 400 = True := by rw [in1_n (by omega)]; exact eq_true (by omega)
    have x2 := nI_c (a := k) (by omega)
    have x3 : nI k + 1 = nI (k + 1) := nI_a (b := 1)
    have m1 : 400 * nI u + nI k = nI (400 * u + k) := by rw [show (400 : Int32) = nI 400 from rfl, nI_m, nI_a]
    have x4 : am_in1 (nI (400 * u + k)) 1600 = True := by rw [in1_n (by omega)]; exact eq_true (by omega)
    have x5 := nI_c (a := 400 * u + k) (by omega)
    refine ⟨(s_i (s_i s 136 (400 * u + k) (a_i s 148 k)) 137 (400 * u + k) (a_i s 149 k + (if a_i s 148 k = 403 ∨ a_i s 148 k = 404 then 400 * nI u else 0)), some (.int (if a_i s 148 k = 403 ∨ a_i s 148 k = 404 then 1 else 0))), fun Q => ?_, ⟨P.1.1, P.1.2.1, P.1.2.2⟩, P.2.1, fun p i => ?_⟩
    · show WP d mX12_text 322 [some (.ref 126), some (.int (nI u)), some (.int (nI k)), sl] [] s Q = WP d mX12_text 322 [some (.ref 126), some (.int (nI u)), some (.int (nI (k + 1))), some (.int (if a_i s 148 k = 403 ∨ a_i s 148 k = 404 then 1 else 0))] [] (s_i (s_i s 136 (400 * u + k) (a_i s 148 k)) 137 (400 * u + k) (a_i s 149 k + (if a_i s 148 k = 403 ∨ a_i s 148 k = 404 then 400 * nI u else 0))) Q
      have s2 : ∀ H sl, WP d mX12_text 410 [some (.ref 126), some (.int (nI u)), some (.int (nI k)), sl] [] H Q = WP d mX12_text 322 [some (.ref 126), some (.int (nI u)), some (.int (nI (k + 1))), sl] [] H Q := fun H sl => by
        simp [w_iinc2 (M := mX12_text) (v := 1) dX12_text_410 rfl (by decide), w_goto (M := mX12_text) (tgt := 322) dX12_text_413 (by decide), Kn_v_, Kn_n_, kl_i_, kl_a_, kl_l_, kl_n_, s1_0_, s2_0_, s1_1, s1_2, s1_3, s1_4, s1_5, s1_6, s1_7, s1_8, s1_9, s1_10, s1_11, s1_12, s1_13, s1_14, s2_1, s2_2, s2_3, s2_4, s2_5, s2_6, s2_7, s2_8, s2_9, s2_10, s2_11, s2_12, s2_13, s2_14, List.map_nil, List.map_cons, List.sum_nil, List.sum_cons, ct_i_, ct_r_, ct_l_, t_si_, t_sl_, t_sr_, n_si_, n_sl_, n_sr_, i_si_, i_sl_, i_sr_, l_si_, l_sl_, l_sr_, r_si_, r_sl_, r_sr_, vr_s_, vr_n_, nz_0_, nz_1_, x3]
      rw [← s2]
      by_cases z3 : a_i s 148 k = 403
      · simp [w_iload_n2 (M := mX12_text) dX12_text_322, w_aload_n0 (M := mX12_text) dX12_text_323, w_getI (M := mX12_text) dX12_text_324 f_12_296 rfl (by decide) (by decide), w_ic_ge (M := mX12_text) (tgt := 416) dX12_text_327 (by decide), w_aload_n0 (M := mX12_text) dX12_text_330, w_getA (M := mX12_text) dX12_text_331 f_12_81 rfl (by decide) (by decide), w_iload_n2 (M := mX12_text) dX12_text_334, w_iaload (M := mX12_text) dX12_text_335, w_sipush (M := mX12_text) (v := 403) dX12_text_336 rfl, w_ic_eq (M := mX12_text) (tgt := 354) dX12_text_339 (by decide), w_aload_n0 (M := mX12_text) dX12_text_342, w_getA (M := mX12_text) dX12_text_343 f_12_81 rfl (by decide) (by decide), w_iload_n2 (M := mX12_text) dX12_text_346, w_iaload (M := mX12_text) dX12_text_347, w_sipush (M := mX12_text) (v := 404) dX12_text_348 rfl, w_ic_ne (M := mX12_text) (tgt := 358) dX12_text_351 (by decide), w_iconst (M := mX12_text) (v := 1) dX12_text_354 rfl, w_goto (M := mX12_text) (tgt := 359) dX12_text_355 (by decide), w_iconst (M := mX12_text) (v := 0) dX12_text_358 rfl, w_istore_n (M := mX12_text) (i := 3) dX12_text_359 rfl (by decide), w_aload_n0 (M := mX12_text) dX12_text_360, w_getA (M := mX12_text) dX12_text_361 f_12_45 rfl (by decide) (by decide), w_sipush (M := mX12_text) (v := 400) dX12_text_364 rfl, w_iload_n1 (M := mX12_text) dX12_text_367, w_imul (M := mX12_text) dX12_text_368, w_iload_n2 (M := mX12_text) dX12_text_369, w_iadd (M := mX12_text) dX12_text_370, w_aload_n0 (M := mX12_text) dX12_text_371, w_getA (M := mX12_text) dX12_text_372 f_12_81 rfl (by decide) (by decide), w_iload_n2 (M := mX12_text) dX12_text_375, w_iaload (M := mX12_text) dX12_text_376, w_iastore (M := mX12_text) dX12_text_377, w_aload_n0 (M := mX12_text) dX12_text_378, w_getA (M := mX12_text) dX12_text_379 f_12_48 rfl (by decide) (by decide), w_sipush (M := mX12_text) (v := 400) dX12_text_382 rfl, w_iload_n1 (M := mX12_text) dX12_text_385, w_imul (M := mX12_text) dX12_text_386, w_iload_n2 (M := mX12_text) dX12_text_387, w_iadd (M := mX12_text) dX12_text_388, w_aload_n0 (M := mX12_text) dX12_text_389, w_getA (M := mX12_text) dX12_text_390 f_12_84 rfl (by decide) (by decide), w_iload_n2 (M := mX12_text) dX12_text_393, w_iaload (M := mX12_text) dX12_text_394, w_iload_n3 (M := mX12_text) dX12_text_395, w_if_eq (M := mX12_text) (tgt := 407) dX12_text_396 (by decide), w_sipush (M := mX12_text) (v := 400) dX12_text_399 rfl, w_iload_n1 (M := mX12_text) dX12_text_402, w_imul (M := mX12_text) dX12_text_403, w_goto (M := mX12_text) (tgt := 408) dX12_text_404 (by decide), w_iconst (M := mX12_text) (v := 0) dX12_text_407 rfl, w_iadd (M := mX12_text) dX12_text_408, w_iastore (M := mX12_text) dX12_text_409, Kn_v_, Kn_n_, kl_i_, kl_a_, kl_l_, kl_n_, s1_0_, s2_0_, s1_1, s1_2, s1_3, s1_4, s1_5, s1_6, s1_7, s1_8, s1_9, s1_10, s1_11, s1_12, s1_13, s1_14, s2_1, s2_2, s2_3, s2_4, s2_5, s2_6, s2_7, s2_8, s2_9, s2_10, s2_11, s2_12, s2_13, s2_14, List.map_nil, List.map_cons, List.sum_nil, List.sum_cons, ct_i_, ct_r_, ct_l_, t_si_, t_sl_, t_sr_, n_si_, n_sl_, n_sr_, i_si_, i_sl_, i_sr_, l_si_, l_sl_, l_sr_, r_si_, r_sl_, r_sr_, vr_s_, vr_n_, nz_0_, nz_1_, hRs.e, hgs, c1, c2, x1, x2, m1, x4, x5, z3]
      · by_cases z4 : a_i s 148 k = 404
        · simp [w_iload_n2 (M := mX12_text) dX12_text_322, w_aload_n0 (M := mX12_text) dX12_text_323, w_getI (M := mX12_text) dX12_text_324 f_12_296 rfl (by decide) (by decide), w_ic_ge (M := mX12_text) (tgt := 416) dX12_text_327 (by decide), w_aload_n0 (M := mX12_text) dX12_text_330, w_getA (M := mX12_text) dX12_text_331 f_12_81 rfl (by decide) (by decide), w_iload_n2 (M := mX12_text) dX12_text_334, w_iaload (M := mX12_text) dX12_text_335, w_sipush (M := mX12_text) (v := 403) dX12_text_336 rfl, w_ic_eq (M := mX12_text) (tgt := 354) dX12_text_339 (by decide), w_aload_n0 (M := mX12_text) dX12_text_342, w_getA (M := mX12_text) dX12_text_343 f_12_81 rfl (by decide) (by decide), w_iload_n2 (M := mX12_text) dX12_text_346, w_iaload (M := mX12_text) dX12_text_347, w_sipush (M := mX12_text) (v := 404) dX12_text_348 rfl, w_ic_ne (M := mX12_text) (tgt := 358) dX12_text_351 (by decide), w_iconst (M := mX12_text) (v := 1) dX12_text_354 rfl, w_goto (M := mX12_text) (tgt := 359) dX12_text_355 (by decide), w_iconst (M := mX12_text) (v := 0) dX12_text_358 rfl, w_istore_n (M := mX12_text) (i := 3) dX12_text_359 rfl (by decide), w_aload_n0 (M := mX12_text) dX12_text_360, w_getA (M := mX12_text) dX12_text_361 f_12_45 rfl (by decide) (by decide), w_sipush (M := mX12_text) (v := 400) dX12_text_364 rfl, w_iload_n1 (M := mX12_text) dX12_text_367, w_imul (M := mX12_text) dX12_text_368, w_iload_n2 (M := mX12_text) dX12_text_369, w_iadd (M := mX12_text) dX12_text_370, w_aload_n0 (M := mX12_text) dX12_text_371, w_getA (M := mX12_text) dX12_text_372 f_12_81 rfl (by decide) (by decide), w_iload_n2 (M := mX12_text) dX12_text_375, w_iaload (M := mX12_text) dX12_text_376, w_iastore (M := mX12_text) dX12_text_377, w_aload_n0 (M := mX12_text) dX12_text_378, w_getA (M := mX12_text) dX12_text_379 f_12_48 rfl (by decide) (by decide), w_sipush (M := mX12_text) (v := 400) dX12_text_382 rfl, w_iload_n1 (M := mX12_text) dX12_text_385, w_imul (M := mX12_text) dX12_text_386, w_iload_n2 (M := mX12_text) dX12_text_387, w_iadd (M := mX12_text) dX12_text_388, w_aload_n0 (M := mX12_text) dX12_text_389, w_getA (M := mX12_text) dX12_text_390 f_12_84 rfl (by decide) (by decide), w_iload_n2 (M := mX12_text) dX12_text_393, w_iaload (M := mX12_text) dX12_text_394, w_iload_n3 (M := mX12_text) dX12_text_395, w_if_eq (M := mX12_text) (tgt := 407) dX12_text_396 (by decide), w_sipush (M := mX12_text) (v := 400) dX12_text_399 rfl, w_iload_n1 (M := mX12_text) dX12_text_402, w_imul (M := mX12_text) dX12_text_403, w_goto (M := mX12_text) (tgt := 408) dX12_text_404 (by decide), w_iconst (M := mX12_text) (v := 0) dX12_text_407 rfl, w_iadd (M := mX12_text) dX12_text_408, w_iastore (M := mX12_text) dX12_text_409, Kn_v_, Kn_n_, kl_i_, kl_a_, kl_l_, kl_n_, s1_0_, s2_0_, s1_1, s1_2, s1_3, s1_4, s1_5, s1_6, s1_7, s1_8, s1_9, s1_10, s1_11, s1_12, s1_13, s1_14, s2_1, s2_2, s2_3, s2_4, s2_5, s2_6, s2_7, s2_8, s2_9, s2_10, s2_11, s2_12, s2_13, s2_14, List.map_nil, List.map_cons, List.sum_nil, List.sum_cons, ct_i_, ct_r_, ct_l_, t_si_, t_sl_, t_sr_, n_si_, n_sl_, n_sr_, i_si_, i_sl_, i_sr_, l_si_, l_sl_, l_sr_, r_si_, r_sl_, r_sr_, vr_s_, vr_n_, nz_0_, nz_1_, hRs.e, hgs, c1, c2, x1, x2, m1, x4, x5, z4]
        · simp [w_iload_n2 (M := mX12_text) dX12_text_322, w_aload_n0 (M := mX12_text) dX12_text_323, w_getI (M := mX12_text) dX12_text_324 f_12_296 rfl (by decide) (by decide), w_ic_ge (M := mX12_text) (tgt := 416) dX12_text_327 (by decide), w_aload_n0 (M := mX12_text) dX12_text_330, w_getA (M := mX12_text) dX12_text_331 f_12_81 rfl (by decide) (by decide), w_iload_n2 (M := mX12_text) dX12_text_334, w_iaload (M := mX12_text) dX12_text_335, w_sipush (M := mX12_text) (v := 403) dX12_text_336 rfl, w_ic_eq (M := mX12_text) (tgt := 354) dX12_text_339 (by decide), w_aload_n0 (M := mX12_text) dX12_text_342, w_getA (M := mX12_text) dX12_text_343 f_12_81 rfl (by decide) (by decide), w_iload_n2 (M := mX12_text) dX12_text_346, w_iaload (M := mX12_text) dX12_text_347, w_sipush (M := mX12_text) (v := 404) dX12_text_348 rfl, w_ic_ne (M := mX12_text) (tgt := 358) dX12_text_351 (by decide), w_iconst (M := mX12_text) (v := 1) dX12_text_354 rfl, w_goto (M := mX12_text) (tgt := 359) dX12_text_355 (by decide), w_iconst (M := mX12_text) (v := 0) dX12_text_358 rfl, w_istore_n (M := mX12_text) (i := 3) dX12_text_359 rfl (by decide), w_aload_n0 (M := mX12_text) dX12_text_360, w_getA (M := mX12_text) dX12_text_361 f_12_45 rfl (by decide) (by decide), w_sipush (M := mX12_text) (v := 400) dX12_text_364 rfl, w_iload_n1 (M := mX12_text) dX12_text_367, w_imul (M := mX12_text) dX12_text_368, w_iload_n2 (M := mX12_text) dX12_text_369, w_iadd (M := mX12_text) dX12_text_370, w_aload_n0 (M := mX12_text) dX12_text_371, w_getA (M := mX12_text) dX12_text_372 f_12_81 rfl (by decide) (by decide), w_iload_n2 (M := mX12_text) dX12_text_375, w_iaload (M := mX12_text) dX12_text_376, w_iastore (M := mX12_text) dX12_text_377, w_aload_n0 (M := mX12_text) dX12_text_378, w_getA (M := mX12_text) dX12_text_379 f_12_48 rfl (by decide) (by decide), w_sipush (M := mX12_text) (v := 400) dX12_text_382 rfl, w_iload_n1 (M := mX12_text) dX12_text_385, w_imul (M := mX12_text) dX12_text_386, w_iload_n2 (M := mX12_text) dX12_text_387, w_iadd (M := mX12_text) dX12_text_388, w_aload_n0 (M := mX12_text) dX12_text_389, w_getA (M := mX12_text) dX12_text_390 f_12_84 rfl (by decide) (by decide), w_iload_n2 (M := mX12_text) dX12_text_393, w_iaload (M := mX12_text) dX12_text_394, w_iload_n3 (M := mX12_text) dX12_text_395, w_if_eq (M := mX12_text) (tgt := 407) dX12_text_396 (by decide), w_sipush (M := mX12_text) (v := 400) dX12_text_399 rfl, w_iload_n1 (M := mX12_text) dX12_text_402, w_imul (M := mX12_text) dX12_text_403, w_goto (M := mX12_text) (tgt := 408) dX12_text_404 (by decide), w_iconst (M := mX12_text) (v := 0) dX12_text_407 rfl, w_iadd (M := mX12_text) dX12_text_408, w_iastore (M := mX12_text) dX12_text_409, Kn_v_, Kn_n_, kl_i_, kl_a_, kl_l_, kl_n_, s1_0_, s2_0_, s1_1, s1_2, s1_3, s1_4, s1_5, s1_6, s1_7, s1_8, s1_9, s1_10, s1_11, s1_12, s1_13, s1_14, s2_1, s2_2, s2_3, s2_4, s2_5, s2_6, s2_7, s2_8, s2_9, s2_10, s2_11, s2_12, s2_13, s2_14, List.map_nil, List.map_cons, List.sum_nil, List.sum_cons, ct_i_, ct_r_, ct_l_, t_si_, t_sl_, t_sr_, n_si_, n_sl_, n_sr_, i_si_, i_sl_, i_sr_, l_si_, l_sl_, l_sr_, r_si_, r_sl_, r_sr_, vr_s_, vr_n_, nz_0_, nz_1_, hRs.e, hgs, c1, c2, x1, x2, m1, x4, x5, z3, z4]
    · have o : ∀ p, ¬ (p = 136 ∨ p = 137) → a_i s p k = a_i h p k := fun p m => P.ne (s := (s, sl)) (by omega)
      show a_i (s_i (s_i s 136 (400 * u + k) (a_i s 148 k)) 137 (400 * u + k) (a_i s 149 k + (if a_i s 148 k = 403 ∨ a_i s 148 k = 404 then 400 * nI u else 0))) p i = _
      obtain ⟨V, eV⟩ : ∃ V : Int32, V = (if a_i s 148 k = 403 ∨ a_i s 148 k = 404 then 400 * nI u else 0) := ⟨_, rfl⟩
      rw [← eV]
      by_cases z : (p = 136 ∨ p = 137) ∧ i = 400 * u + k
      · obtain ⟨z1, z3⟩ := z
        subst z3
        rw [if_pos ⟨z1, by omega, by omega⟩, show 400 * u + k - 400 * u = k by omega]
        rcases z1 with z | z <;> subst z
        · have e1 : coV h u 136 k = a_i h 148 k := if_pos rfl
          rw [e1, ine (by omega), ieq rfl rfl]; exact o 148 (by omega)
        · have e1 : coV h u 137 k = a_i h 149 k + (if a_i h 148 k = 403 ∨ a_i h 148 k = 404 then 400 * nI u else 0) := if_neg (by omega)
          rw [e1, ieq rfl rfl, eV, o 148 (by omega), o 149 (by omega)]
      · have e := P.2.2 p i
        have e : a_i s p i = if (p = 136 ∨ p = 137) ∧ 400 * u ≤ i ∧ i < 400 * u + k then coV h u p (i - 400 * u) else a_i h p i := e
        rw [ine (by omega), ine (by omega), e]
        by_cases y : (p = 136 ∨ p = 137) ∧ 400 * u ≤ i ∧ i < 400 * u + k
        · rw [if_pos y, if_pos ⟨y.1, y.2.1, by omega⟩]
        · rw [if_neg y, if_neg (by omega)]) g 0 (h, none) (by omega) ⟨sm.rf, rfl, fun p i => by rw [if_neg (by omega)]⟩
  refine ⟨s', fun Q => ?_, r2⟩
  have e : WP d mX12_text 322 [some (.ref 126), some (.int (nI u)), some (.int (nI 0)), none] [] h Q = WP d mX12_text 322 [some (.ref 126), some (.int (nI u)), some (.int (nI g)), s'.2] [] s'.1 Q := r1 Q
  have s0 : WP d mX12_text 320 [some (.ref 126), some (.int (nI u)), some (.int (nI l0)), none] [] h Q = WP d mX12_text 322 [some (.ref 126), some (.int (nI u)), some (.int (nI 0)), none] [] h Q := by
    simp [w_iconst (M := mX12_text) (v := 0) dX12_text_320 rfl, w_istore_n (M := mX12_text) (i := 2) dX12_text_321 rfl (by decide), Kn_v_, Kn_n_, kl_i_, kl_a_, kl_l_, kl_n_, s1_0_, s2_0_, s1_1, s1_2, s1_3, s1_4, s1_5, s1_6, s1_7, s1_8, s1_9, s1_10, s1_11, s1_12, s1_13, s1_14, s2_1, s2_2, s2_3, s2_4, s2_5, s2_6, s2_7, s2_8, s2_9, s2_10, s2_11, s2_12, s2_13, s2_14, List.map_nil, List.map_cons, List.sum_nil, List.sum_cons, ct_i_, ct_r_, ct_l_, t_si_, t_sl_, t_sr_, n_si_, n_sl_, n_sr_, i_si_, i_sl_, i_sr_, l_si_, l_sl_, l_sr_, r_si_, r_sl_, r_sr_, vr_s_, vr_n_, nz_0_, nz_1_, show nI 0 = 0 from rfl]
  rw [s0, e]
  have hRs : sh_R (a_t s'.1) (a_r s'.1) := by rw [r2.1.1, r2.1.2.1]; exact hR
  have hgs : a_i s'.1 126 37 = nI g := (r2.ne (by omega)).trans hg
  have hus : a_i s'.1 127 1 = nI u := (r2.ne (by omega)).trans hu
  have c1 : (nI g < nI g) = False := nI_ltF (Nat.le_refl _) (by omega)
  have c2 : (nI g ≤ nI g) = True := by rw [nI_lE (by omega) (by omega)]; exact eq_true (Nat.le_refl _)
  have x3 : nI u + 1 = nI (u + 1) := nI_a (b := 1)
  simp [w_iload_n2 (M := mX12_text) dX12_text_322, w_aload_n0 (M := mX12_text) dX12_text_323, w_getI (M := mX12_text) dX12_text_324 f_12_296 rfl (by decide) (by decide), w_ic_ge (M := mX12_text) (tgt := 416) dX12_text_327 (by decide), w_aload_n0 (M := mX12_text) dX12_text_416, w_getA (M := mX12_text) dX12_text_417 f_12_7 rfl (by decide) (by decide), w_iconst (M := mX12_text) (v := 1) dX12_text_420 rfl, w_dup2 (M := mX12_text) dX12_text_421, w_iaload (M := mX12_text) dX12_text_422, w_iconst (M := mX12_text) (v := 1) dX12_text_423 rfl, w_iadd (M := mX12_text) dX12_text_424, w_iastore (M := mX12_text) dX12_text_425, w_iload_n1 (M := mX12_text) dX12_text_426, w_iret (M := mX12_text) dX12_text_427 rfl, Kn_v_, Kn_n_, kl_i_, kl_a_, kl_l_, kl_n_, s1_0_, s2_0_, s1_1, s1_2, s1_3, s1_4, s1_5, s1_6, s1_7, s1_8, s1_9, s1_10, s1_11, s1_12, s1_13, s1_14, s2_1, s2_2, s2_3, s2_4, s2_5, s2_6, s2_7, s2_8, s2_9, s2_10, s2_11, s2_12, s2_13, s2_14, List.map_nil, List.map_cons, List.sum_nil, List.sum_cons, ct_i_, ct_r_, ct_l_, t_si_, t_sl_, t_sr_, n_si_, n_sl_, n_sr_, i_si_, i_sl_, i_sr_, l_si_, l_sl_, l_sr_, r_si_, r_sl_, r_sr_, vr_s_, vr_n_, nz_0_, nz_1_, hRs.e, hgs, hus, c1, c2, x3, l1_in, l1_c]
/-- its end, all in one -/
theorem rt_ok (hR : sh_R (a_t h) (a_r h)) (e19 : a_i h 126 19 = 0) (e20 : a_i h 126 20 = -1) (hs : a_i h 126 28 = 4) (hk : a_i h 126 17 = 0) (hu : a_i h 127 1 = nI u) (lu : u < 4) (hK : a_i h 126 30 = nI K) (lK : K ≤ 24) (hg : a_i h 126 37 = nI g) (lg : g < 400) : ∃ h', (∀ Q, LPH d h Q = Q (some (.int (nI u))) h') ∧ sm h h' ∧ a_l h' = a_l h ∧ a_i h' 126 4 = 0 ∧ a_i h' 126 5 = -1 ∧ a_i h' 130 u = nI K ∧ a_i h' 127 1 = nI (u + 1) ∧ (∀ p m, 131 ≤ p → p ≤ 135 → m < K → a_i h' p (24 * u + m) = cpV h u p m) ∧ (∀ p m, p = 136 ∨ p = 137 → m < g → a_i h' p (400 * u + m) = coV h u p m) ∧ ∀ p i, ¬ (p = 126 ∧ (i = 4 ∨ i = 5)) → ¬ (p = 127 ∧ i = 1) → ¬ (p = 130 ∧ i = u) → ¬ (131 ≤ p ∧ p ≤ 135 ∧ 24 * u ≤ i ∧ i < 24 * u + 24) → ¬ ((p = 136 ∨ p = 137) ∧ 400 * u ≤ i ∧ i < 400 * u + 400) → a_i h' p i = a_i h p i := by
  have ra := rt_a (d := d) hR e19 e20 hs hk hu lu hK
  obtain ⟨A, eA⟩ : ∃ A, A = rtA h u K := ⟨_, rfl⟩
  rw [← eA] at ra
  have Ai : ∀ p i, ¬ (p = 126 ∧ (i = 4 ∨ i = 5)) → ¬ (p = 130 ∧ i = u) → a_i A p i = a_i h p i := fun p i m1 m2 => by
    rw [eA]
    unfold rtA
    rw [ine (by omega), ine (by omega), ine (by omega)]
  have sA : sm h A := by rw [eA]; exact ⟨rfl, rfl, rfl⟩
  have lA : a_l A = a_l h := by rw [eA]; rfl
  have A4 : a_i A 126 4 = 0 := by
    rw [eA]
    unfold rtA
    rw [ine (by omega), ine (by omega), ieq rfl rfl]
  have A5 : a_i A 126 5 = -1 := by
    rw [eA]
    unfold rtA
    rw [ine (by omega), ieq rfl rfl]
  have A130 : a_i A 130 u = nI K := by
    rw [eA]
    unfold rtA
    rw [ieq rfl rfl]
  have hRA : sh_R (a_t A) (a_r A) := by rw [sA.1, sA.2.1]; exact hR
  obtain ⟨B, r1, P⟩ := rt_cp (d := d + 10) hRA ((Ai _ _ (by omega) (by omega)).trans hK) lK lu
  have hRB : sh_R (a_t B) (a_r B) := by rw [P.1.1, P.1.2.1]; exact hRA
  obtain ⟨s, r2, P2⟩ := rt_co (d := d + 10) hRB ((P.ne (by omega)).trans ((Ai _ _ (by omega) (by omega)).trans hg)) lg lu ((P.ne (by omega)).trans ((Ai _ _ (by omega) (by omega)).trans hu)) K
  obtain ⟨D, sl⟩ := s
  have D_ : ∀ p i, ¬ (p = 127 ∧ i = 1) → ¬ (131 ≤ p ∧ p ≤ 135 ∧ 24 * u ≤ i ∧ i < 24 * u + K) → ¬ ((p = 136 ∨ p = 137) ∧ 400 * u ≤ i ∧ i < 400 * u + g) → a_i (s_i D 127 1 (nI (u + 1))) p i = a_i A p i := fun p i m1 m2 m3 => by
    rw [ine m1, P2.ne (s := (D, sl)) m3, P.ne m2]
  refine ⟨s_i D 127 1 (nI (u + 1)), fun Q => by rw [ra, r1, r2], ?_, ?_, by rw [D_ _ _ (by omega) (by omega) (by omega)]; exact A4, by rw [D_ _ _ (by omega) (by omega) (by omega)]; exact A5, by rw [D_ _ _ (by omega) (by omega) (by omega)]; exact A130, ieq rfl rfl, fun p m p1 p2 lm => ?_, fun p m p1 lm => ?_, fun p i m1 m2 m3 m4 m5 => by rw [D_ _ _ m2 (by omega) (by omega), Ai _ _ m1 m3]⟩
  · have : sm B D := P2.1
    exact sA.tr (P.1.tr ⟨this.1, this.2.1, this.2.2⟩)
  · have : a_l D = a_l B := P2.2.1
    exact this.trans (P.2.1.trans lA)
  · rw [ine (by omega), P2.ne (s := (D, sl)) (by omega), P.eq ⟨p1, p2⟩ lm]
    unfold cpV
    split
    · rw [Ai _ _ (by omega) (by omega)]
    · rw [Ai _ _ (by omega) (by omega)]
  · rw [ine (by omega), P2.eq (s := (D, sl)) p1 lm]
    unfold coV
    have o : ∀ p, 138 ≤ p → a_i B p m = a_i h p m := fun p lp => (P.ne (by omega)).trans (Ai _ _ (by omega) (by omega))
    rw [o 148 (by omega), o 149 (by omega)]
end RTEXT
