/-! the one side's beginning; both sides, clause by clause -/
section INTO
variable {t : Nat → Nat} {T : List (Nat × Nat × Nat)} {n q w c c' g g' j j' K d e p k i : Nat} {h h' h'' hb h1 hc hc' hc1 hc2 hr hr' hr1 : am_h} {Q : Option Value → am_h → Prop} {x : Nat × Nat × Nat} {f s v a b : Int32}
/-- a text is emptied -/
def emS (h : am_h) (q : Nat) (i : Nat) (s : am_h) : Prop := sm h s ∧ a_l s = a_l h ∧ a_i s q 4 = 0 ∧ a_i s q 8 = 0 ∧ (∀ w, w < i → a_i s (q + 5) w = -1) ∧ ∀ p j, ¬ (p = q ∧ (j = 4 ∨ j = 8)) → ¬ ((p = q + 5 ∨ p = q + 6) ∧ j < 5) → a_i s p j = a_i h p j
set_option maxRecDepth 20000 in
theorem q_X9_empty (Z : tQ q h) : ∃ h', (∀ Q, Cal d mX9_empty [.ref q] h Q = Q none h') ∧ emS h q 5 h' := by
  have lq := Z.2.1
  obtain ⟨s', r1, r2⟩ := lp (W := fun i s Q => WP d mX9_empty 12 [some (.ref q), some (.int (nI i))] [] s Q) (P := emS h q) (n := 5) (fun i s li K => by
    obtain ⟨k1, k2, k3, k4, k5, k6⟩ := K
    obtain ⟨hC, l1, l2, r4, tq, r0, r1, r2, r3, r5, r6, r7, t1, t2, t3, t4, t5, t6, t7⟩ := Z.sm k1
    have c1 : (nI i < 5) = True := by rw [show (5 : Int32) = nI 5 from rfl]; exact nI_ltT li (by omega)
    have c2 : (5 ≤ nI i) = False := by rw [show (5 : Int32) = nI 5 from rfl, nI_lE (by omega) (by omega)]; exact eq_false (by omega)
    have x1 : am_in1 (nI i) 5 = True := by rw [in1_n (by omega)]; exact eq_true li
    have x2 := nI_c (a := i) (by omega)
    have x3 : nI i + 1 = nI (i + 1) := nI_a (b := 1)
    refine ⟨s_i (s_i s (q + 5) i (-1)) (q + 6) i (-1), fun Q => ?_, ⟨⟨k1.1, k1.2.1, k1.2.2⟩, k2, ?_, ?_, fun w lw => ?_, fun p j n1 n2 => ?_⟩⟩
    · show WP d mX9_empty 12 [some (.ref q), some (.int (nI i))] [] s Q = WP d mX9_empty 12 [some (.ref q), some (.int (nI (i + 1)))] [] (s_i (s_i s (q + 5) i (-1)) (q + 6) i (-1)) Q
      have s1 : WP d mX9_empty 12 [some (.ref q), some (.int (nI i))] [] s Q = WP d mX9_empty 31 [some (.ref q), some (.int (nI i))] [] (s_i (s_i s (q + 5) i (-1)) (q + 6) i (-1)) Q := by
        simp [w_iload_n1 (M := mX9_empty) dX9_empty_12, w_iconst (M := mX9_empty) (v := 5) dX9_empty_13 rfl, w_ic_ge (M := mX9_empty) (tgt := 37) dX9_empty_14 (by decide), w_aload_n0 (M := mX9_empty) dX9_empty_17, w_getA (M := mX9_empty) dX9_empty_18 f_9_26 rfl (by decide) (by decide), w_iload_n1 (M := mX9_empty) dX9_empty_21, w_iconst (M := mX9_empty) (v := (-1)) dX9_empty_22 rfl, w_iastore (M := mX9_empty) dX9_empty_23, w_aload_n0 (M := mX9_empty) dX9_empty_24, w_getA (M := mX9_empty) dX9_empty_25 f_9_29 rfl (by decide) (by decide), w_iload_n1 (M := mX9_empty) dX9_empty_28, w_iconst (M := mX9_empty) (v := (-1)) dX9_empty_29 rfl, w_iastore (M := mX9_empty) dX9_empty_30, Kn_v_, Kn_n_, kl_i_, kl_a_, kl_l_, kl_n_, s1_0_, s2_0_, s1_1, s1_2, s1_3, s1_4, s1_5, s1_6, s1_7, s1_8, s1_9, s1_10, s1_11, s1_12, s1_13, s1_14, s2_1, s2_2, s2_3, s2_4, s2_5, s2_6, s2_7, s2_8, s2_9, s2_10, s2_11, s2_12, s2_13, s2_14, List.map_nil, List.map_cons, List.sum_nil, List.sum_cons, ct_i_, ct_r_, ct_l_, t_si_, t_sl_, t_sr_, n_si_, n_sl_, n_sr_, i_si_, i_sl_, i_sr_, l_si_, l_sl_, l_sr_, r_si_, r_sl_, r_sr_, vr_s_, vr_n_, nz_0_, nz_1_, tq, r5, r6, t5, t6, c1, c2, x1, x2]
      have s2 : WP d mX9_empty 31 [some (.ref q), some (.int (nI i))] [] (s_i (s_i s (q + 5) i (-1)) (q + 6) i (-1)) Q = WP d mX9_empty 12 [some (.ref q), some (.int (nI (i + 1)))] [] (s_i (s_i s (q + 5) i (-1)) (q + 6) i (-1)) Q := by
        simp [w_iinc1 (M := mX9_empty) (v := 1) dX9_empty_31 rfl (by decide), w_goto (M := mX9_empty) (tgt := 12) dX9_empty_34 (by decide), Kn_v_, Kn_n_, kl_i_, kl_a_, kl_l_, kl_n_, s1_0_, s2_0_, s1_1, s1_2, s1_3, s1_4, s1_5, s1_6, s1_7, s1_8, s1_9, s1_10, s1_11, s1_12, s1_13, s1_14, s2_1, s2_2, s2_3, s2_4, s2_5, s2_6, s2_7, s2_8, s2_9, s2_10, s2_11, s2_12, s2_13, s2_14, List.map_nil, List.map_cons, List.sum_nil, List.sum_cons, ct_i_, ct_r_, ct_l_, t_si_, t_sl_, t_sr_, n_si_, n_sl_, n_sr_, i_si_, i_sl_, i_sr_, l_si_, l_sl_, l_sr_, r_si_, r_sl_, r_sr_, vr_s_, vr_n_, nz_0_, nz_1_, x3]
      exact s1.trans s2
    · rw [ine (by omega), ine (by omega)]; exact k3
    · rw [ine (by omega), ine (by omega)]; exact k4
    · by_cases z : w = i
      · subst z; rw [ine (by omega), ieq rfl rfl]
      · rw [ine (by omega), ine (by omega)]; exact k5 w (by omega)
    · rw [ine (by omega), ine (by omega)]; exact k6 p j n1 n2) 5 0 (s_i (s_i h q 4 0) q 8 0) rfl ⟨sm.rf, rfl, by rw [ine (by omega), ieq rfl rfl], ieq rfl rfl, fun w lw => absurd lw (by omega), fun p j n1 n2 => by rw [ine (by omega), ine (by omega)]⟩
  refine ⟨s', fun Q => ?_, r2⟩
  have e := r1 Q
  have e : WP d mX9_empty 12 [some (.ref q), some (.int (nI 0))] [] (s_i (s_i h q 4 0) q 8 0) Q = WP d mX9_empty 12 [some (.ref q), some (.int (nI 5))] [] s' Q := e
  have s0 : Cal d mX9_empty [.ref q] h Q = WP d mX9_empty 12 [some (.ref q), some (.int (nI 0))] [] (s_i (s_i h q 4 0) q 8 0) Q := by
    obtain ⟨hC, l1, l2, r4, tq, r0, r1, r2, r3, r5, r6, r7, t1, t2, t3, t4, t5, t6, t7⟩ := Z
    unfold Cal
    rw [show m_l mX9_empty = 2 from rfl]
    simp only [am_en, am_ag, ct_i, ct_r, ct_l, List.length_cons, List.length_nil, List.replicate]
    simp [w_aload_n0 (M := mX9_empty) dX9_empty_0, w_iconst (M := mX9_empty) (v := 0) dX9_empty_1 rfl, w_putI (M := mX9_empty) dX9_empty_2 f_9_35 rfl (Or.inl rfl), w_aload_n0 (M := mX9_empty) dX9_empty_5, w_iconst (M := mX9_empty) (v := 0) dX9_empty_6 rfl, w_putI (M := mX9_empty) dX9_empty_7 f_9_39 rfl (Or.inl rfl), w_iconst (M := mX9_empty) (v := 0) dX9_empty_10 rfl, w_istore_n (M := mX9_empty) (i := 1) dX9_empty_11 rfl (by decide), Kn_v_, Kn_n_, kl_i_, kl_a_, kl_l_, kl_n_, s1_0_, s2_0_, s1_1, s1_2, s1_3, s1_4, s1_5, s1_6, s1_7, s1_8, s1_9, s1_10, s1_11, s1_12, s1_13, s1_14, s2_1, s2_2, s2_3, s2_4, s2_5, s2_6, s2_7, s2_8, s2_9, s2_10, s2_11, s2_12, s2_13, s2_14, List.map_nil, List.map_cons, List.sum_nil, List.sum_cons, ct_i_, ct_r_, ct_l_, t_si_, t_sl_, t_sr_, n_si_, n_sl_, n_sr_, i_si_, i_sl_, i_sr_, l_si_, l_sl_, l_sr_, r_si_, r_sl_, r_sr_, vr_s_, vr_n_, nz_0_, nz_1_, tq, show nI 0 = 0 from rfl]
  rw [s0, e]
  simp [w_iload_n1 (M := mX9_empty) dX9_empty_12, w_iconst (M := mX9_empty) (v := 5) dX9_empty_13 rfl, w_ic_ge (M := mX9_empty) (tgt := 37) dX9_empty_14 (by decide), w_vret (M := mX9_empty) dX9_empty_37 rfl, Kn_v_, Kn_n_, kl_i_, kl_a_, kl_l_, kl_n_, s1_0_, s2_0_, s1_1, s1_2, s1_3, s1_4, s1_5, s1_6, s1_7, s1_8, s1_9, s1_10, s1_11, s1_12, s1_13, s1_14, s2_1, s2_2, s2_3, s2_4, s2_5, s2_6, s2_7, s2_8, s2_9, s2_10, s2_11, s2_12, s2_13, s2_14, List.map_nil, List.map_cons, List.sum_nil, List.sum_cons, ct_i_, ct_r_, ct_l_, t_si_, t_sl_, t_sr_, n_si_, n_sl_, n_sr_, i_si_, i_sl_, i_sr_, l_si_, l_sl_, l_sr_, r_si_, r_sl_, r_sr_, vr_s_, vr_n_, nz_0_, nz_1_, show nI 5 = 5 from rfl]
/-! the loop over clauses -/
def riL (q i : Nat) : am_L := [some (.ref 86), some (.ref q), some (.int (nI i))]
theorem ri_end (hC : sh_C (a_t h) (a_r h)) (li : i ≤ 25) (e : a_i h 86 10 = 0 ∨ i = 25) : WP d mX7_readInto 37 (riL q i) [] h Q = Q none (s_i h 86 1 0) := by
  unfold riL
  by_cases z : i = 25
  · subst z
    simp [w_iload_n2 (M := mX7_readInto) dX7_readInto_37, w_bipush (M := mX7_readInto) (v := 24) dX7_readInto_38 rfl, w_ic_gt (M := mX7_readInto) (tgt := 60) dX7_readInto_40 (by decide), w_aload_n0 (M := mX7_readInto) dX7_readInto_60, w_iconst (M := mX7_readInto) (v := 0) dX7_readInto_61 rfl, w_putI (M := mX7_readInto) dX7_readInto_62 f_7_31 rfl (Or.inl rfl), w_vret (M := mX7_readInto) dX7_readInto_65 rfl, Kn_v_, Kn_n_, kl_i_, kl_a_, kl_l_, kl_n_, s1_0_, s2_0_, s1_1, s1_2, s1_3, s1_4, s1_5, s1_6, s1_7, s1_8, s1_9, s1_10, s1_11, s1_12, s1_13, s1_14, s2_1, s2_2, s2_3, s2_4, s2_5, s2_6, s2_7, s2_8, s2_9, s2_10, s2_11, s2_12, s2_13, s2_14, List.map_nil, List.map_cons, List.sum_nil, List.sum_cons, ct_i_, ct_r_, ct_l_, t_si_, t_sl_, t_sr_, n_si_, n_sl_, n_sr_, i_si_, i_sl_, i_sr_, l_si_, l_sl_, l_sr_, r_si_, r_sl_, r_sr_, vr_s_, vr_n_, nz_0_, nz_1_, hC.e, show nI 25 = 25 from rfl]
  · have e := e.resolve_right z
    have c1 : (nI i ≤ 24) = True := by rw [show (24 : Int32) = nI 24 from rfl, nI_lE (by omega) (by omega)]; exact eq_true (by omega)
    have c2 : (24 < nI i) = False := by rw [show (24 : Int32) = nI 24 from rfl]; exact nI_ltF (by omega) (by omega)
    simp [w_iload_n2 (M := mX7_readInto) dX7_readInto_37, w_bipush (M := mX7_readInto) (v := 24) dX7_readInto_38 rfl, w_ic_gt (M := mX7_readInto) (tgt := 60) dX7_readInto_40 (by decide), w_aload_n0 (M := mX7_readInto) dX7_readInto_43, w_getI (M := mX7_readInto) dX7_readInto_44 f_7_52 rfl (by decide) (by decide), w_if_eq (M := mX7_readInto) (tgt := 60) dX7_readInto_47 (by decide), w_aload_n0 (M := mX7_readInto) dX7_readInto_60, w_iconst (M := mX7_readInto) (v := 0) dX7_readInto_61 rfl, w_putI (M := mX7_readInto) dX7_readInto_62 f_7_31 rfl (Or.inl rfl), w_vret (M := mX7_readInto) dX7_readInto_65 rfl, Kn_v_, Kn_n_, kl_i_, kl_a_, kl_l_, kl_n_, s1_0_, s2_0_, s1_1, s1_2, s1_3, s1_4, s1_5, s1_6, s1_7, s1_8, s1_9, s1_10, s1_11, s1_12, s1_13, s1_14, s2_1, s2_2, s2_3, s2_4, s2_5, s2_6, s2_7, s2_8, s2_9, s2_10, s2_11, s2_12, s2_13, s2_14, List.map_nil, List.map_cons, List.sum_nil, List.sum_cons, ct_i_, ct_r_, ct_l_, t_si_, t_sl_, t_sr_, n_si_, n_sl_, n_sr_, i_si_, i_sl_, i_sr_, l_si_, l_sl_, l_sr_, r_si_, r_sl_, r_sr_, vr_s_, vr_n_, nz_0_, nz_1_, hC.e, c1, c2, e]
theorem ri_go (hC : sh_C (a_t h) (a_r h)) (li : i ≤ 24) (e : ¬ a_i h 86 10 = 0) (rc : ∀ Q, Cal d mX7_readClause [.ref 86] h Q = Q none h1) : WP (d + 1) mX7_readInto 37 (riL q i) [] h Q = WP (d + 1) mX7_readInto 37 (riL q (i + 1)) [] h1 Q := by
  have c1 : (nI i ≤ 24) = True := by rw [show (24 : Int32) = nI 24 from rfl, nI_lE (by omega) (by omega)]; exact eq_true (by omega)
  have c2 : (24 < nI i) = False := by rw [show (24 : Int32) = nI 24 from rfl]; exact nI_ltF (by omega) (by omega)
  have x3 : nI i + 1 = nI (i + 1) := nI_a (b := 1)
  have s1 : WP (d + 1) mX7_readInto 37 (riL q i) [] h Q = WP (d + 1) mX7_readInto 54 (riL q i) [] h1 Q := by
    unfold riL
    simp [w_iload_n2 (M := mX7_readInto) dX7_readInto_37, w_bipush (M := mX7_readInto) (v := 24) dX7_readInto_38 rfl, w_ic_gt (M := mX7_readInto) (tgt := 60) dX7_readInto_40 (by decide), w_aload_n0 (M := mX7_readInto) dX7_readInto_43, w_getI (M := mX7_readInto) dX7_readInto_44 f_7_52 rfl (by decide) (by decide), w_if_eq (M := mX7_readInto) (tgt := 60) dX7_readInto_47 (by decide), w_aload_n0 (M := mX7_readInto) dX7_readInto_50, c_7_55 (M := mX7_readInto) dX7_readInto_51 rfl, Kn_v_, Kn_n_, kl_i_, kl_a_, kl_l_, kl_n_, s1_0_, s2_0_, s1_1, s1_2, s1_3, s1_4, s1_5, s1_6, s1_7, s1_8, s1_9, s1_10, s1_11, s1_12, s1_13, s1_14, s2_1, s2_2, s2_3, s2_4, s2_5, s2_6, s2_7, s2_8, s2_9, s2_10, s2_11, s2_12, s2_13, s2_14, List.map_nil, List.map_cons, List.sum_nil, List.sum_cons, ct_i_, ct_r_, ct_l_, t_si_, t_sl_, t_sr_, n_si_, n_sl_, n_sr_, i_si_, i_sl_, i_sr_, l_si_, l_sl_, l_sr_, r_si_, r_sl_, r_sr_, vr_s_, vr_n_, nz_0_, nz_1_, hC.e, c1, c2, e, rc]
  have s2 : WP (d + 1) mX7_readInto 54 (riL q i) [] h1 Q = WP (d + 1) mX7_readInto 37 (riL q (i + 1)) [] h1 Q := by
    unfold riL
    simp [w_iinc2 (M := mX7_readInto) (v := 1) dX7_readInto_54 rfl (by decide), w_goto (M := mX7_readInto) (tgt := 37) dX7_readInto_57 (by decide), Kn_v_, Kn_n_, kl_i_, kl_a_, kl_l_, kl_n_, s1_0_, s2_0_, s1_1, s1_2, s1_3, s1_4, s1_5, s1_6, s1_7, s1_8, s1_9, s1_10, s1_11, s1_12, s1_13, s1_14, s2_1, s2_2, s2_3, s2_4, s2_5, s2_6, s2_7, s2_8, s2_9, s2_10, s2_11, s2_12, s2_13, s2_14, List.map_nil, List.map_cons, List.sum_nil, List.sum_cons, ct_i_, ct_r_, ct_l_, t_si_, t_sl_, t_sr_, n_si_, n_sl_, n_sr_, i_si_, i_sl_, i_sr_, l_si_, l_sl_, l_sr_, r_si_, r_sl_, r_sr_, vr_s_, vr_n_, nz_0_, nz_1_, x3]
  exact s1.trans s2
theorem fl_ri (F : flS q f s hb h) (Z : tQ q hb) : ∀ (k i : Nat), i + k = 25 → WP (d + 2) mX7_readInto 37 (riL q i) [] h Q = Q none (s_i h 86 1 0) := by
  have hC := (F.C Z).1
  have e1 : a_i h 86 10 = 1 := F.2.2.2.2.2.1
  have rc : ∀ Q, Cal (d + 1) mX7_readClause [.ref 86] h Q = Q none h := fun Q => cl_1 (d := d) hC (by rw [e1]; intro z; exact absurd z.1 (by decide)) (fun Q => fl_fail F Z)
  intro k
  induction k with
  | zero => intro i e; exact ri_end hC (by omega) (Or.inr (by omega))
  | succ k ih =>
    intro i e
    rw [ri_go (d := d + 1) hC (by omega) (by rw [e1]; decide) rc]
    exact ih (i + 1) (by omega)
theorem loop_at : ∀ (k j c g K : Nat) (hc hr : am_h), T.length - j ≤ k → clS t n T q j c g K hc hr →
    (∃ (j' c' g' K' : Nat) (hc' hr' : am_h) (x : Nat × Nat × Nat), (∀ Q, WP (e + 65) mX7_readInto 37 (riL q K) [] hc Q = Q none (s_i hc' 86 1 0)) ∧ clS t n T q j' c' g' K' hc' hr' ∧ T[j']? = some x ∧ x.1 = 0 ∧ cX q hc hc' ∧ rX hr hr' ∧ ∀ Q, LPH d hr Q = LPH d hr' Q)
    ∨ ∃ (f s : Int32) (hc' hr' : am_h), (∀ Q, WP (e + 65) mX7_readInto 37 (riL q K) [] hc Q = Q none (s_i hc' 86 1 0)) ∧ flX q f s hc hc' ∧ (∀ Q, LPH d hr Q = LPH d hr' Q) ∧ flR f s hr hr' := by
  intro k
  induction k with
  | zero =>
    intro j c g K hc hr l S
    have := S.1.len
    omega
  | succ k ih =>
    intro j c g K hc hr l S
    obtain ⟨C, ⟨w0, P⟩, KK, s28, s30, c4, lK, lg, R, -, -⟩ := id S
    have hC := C.1.1
    obtain ⟨x, hx⟩ : ∃ x, T[j]? = some x := ⟨_, List.getElem?_eq_getElem C.len.1⟩
    obtain ⟨y1, y2, -⟩ := C.tk hx
    have sx := (P.tk hx).2.small
    by_cases z : x.1 = 0
    · exact Or.inl ⟨j, c, g, K, hc, hr, x, fun Q => ri_end hC (by omega) (Or.inl (by rw [y1, z]; rfl)), S, hx, z, cX.rf, rX.rf, fun Q => rfl⟩
    · have nz : ¬ a_i hc 86 10 = 0 := by
        rw [y1, show (0 : Int32) = nI 0 from rfl, nI_inj (by have := sx.1; omega) (by omega)]
        exact z
      rcases clause_at (d := d) (e := e) S hx z with ⟨j1, c1, g1, hc1, hr1, a1, a2, a3, a4, a5, a6⟩ | ⟨f, s, hc1, hr1, a1, a2, a3, a4⟩
      · rcases ih j1 c1 g1 (K + 1) hc1 hr1 (by omega) a3 with ⟨j2, c2, g2, K2, hc2, hr2, x2, b1, b2, b3, b4, b5, b6, b7⟩ | ⟨f, s, hc2, hr2, b1, b2, b3, b4⟩
        · exact Or.inl ⟨j2, c2, g2, K2, hc2, hr2, x2, fun Q => by rw [ri_go (d := e + 64) hC lK nz a2, b1], b2, b3, b4, a4.tr b5, a5.tr b6, fun Q => (a6 Q).trans (b7 Q)⟩
        · exact Or.inr ⟨f, s, hc2, hr2, fun Q => by rw [ri_go (d := e + 64) hC lK nz a2, b1], flX.re a4 b2, fun Q => (a6 Q).trans (b3 Q), flR.rx a5 b4⟩
      · have Z1 : tQ q hc1 := C.1.sm a2.2.1.1
        exact Or.inr ⟨f, s, hc1, hr1, fun Q => by rw [ri_go (d := e + 64) hC lK nz a1, fl_ri (d := e + 63) a2.S Z1 (24 - K) (K + 1) (by omega)], a2, a3, a4⟩
/-! the one side's beginning -/
theorem tks_l : ∀ (f i : Nat), (tks t n f i).length ≤ f := by
  intro f
  induction f with
  | zero => intro i; exact Nat.le_refl _
  | succ f ih =>
    intro i
    rw [tks_1]
    split
    · split
      · have := ih (scn t n (n - i) i 0).1
        rw [List.length_cons]; omega
      · split
        · have := ih (scw t n (n - i) i)
          rw [List.length_cons]; omega
        · split
          · have := ih (i + 1)
            omega
          · split
            · have := ih (i + 2)
              rw [List.length_cons]; omega
            · have := ih (i + 1)
              rw [List.length_cons]; omega
    · exact Nat.zero_le _
theorem rd_beg {u : Nat} (lu : u < 4) (eq : q = 94 + 8 * u) (z : tpC h t n) (tx : txC h) : ∃ h1, (∀ Q, Cal (d + 9) mX7_readInto [.ref 86, .ref q] h Q = WP (d + 9) mX7_readInto 37 (riL q 0) [] h1 Q) ∧ okC q (tks t n 300 0 ++ [(0, 0, n)]) 0 0 h1 ∧ a_i h1 q 4 = nI 0 ∧ (∀ w, w < 5 → a_i h1 (q + 5) w = -1) ∧ a_i h1 86 3 = -1 ∧ a_t h1 = a_t h ∧ h1.1 = h.1 ∧ a_l h1 = a_l h ∧ (∀ p j, ¬ (p = 86 ∧ j = 4) → a_r h1 p j = a_r h p j) ∧ ∀ p j, ¬ (p = 86 ∧ (j = 2 ∨ j = 3 ∨ (9 ≤ j ∧ j ≤ 13))) → ¬ (88 ≤ p ∧ p ≤ 90) → ¬ (q ≤ p ∧ p ≤ q + 7) → a_i h1 p j = a_i h p j := by
  obtain ⟨hC, e1, hn, ht⟩ := id z
  obtain ⟨A, eA⟩ : ∃ A, A = s_r h 86 4 (some q) := ⟨_, rfl⟩
  have At : a_t A = a_t h := by rw [eA]; rfl
  have A1 : A.1 = h.1 := by rw [eA]; rfl
  have Al : a_l A = a_l h := by rw [eA]; rfl
  have Ai : a_i A = a_i h := by rw [eA]; rfl
  have Ar : ∀ p j, ¬ (p = 86 ∧ j = 4) → a_r A p j = a_r h p j := fun p j m => by rw [eA]; exact if_neg m
  have Ar4 : a_r A 86 4 = some q := by rw [eA, r_sr_, if_pos (And.intro rfl rfl)]
  have hCA : sh_C (a_t A) (a_r A) := sh_C_fr (fun p _ => by rw [At]) (fun p j _ m => Ar p j (by omega)) hC
  have ZA : tQ q A := by rw [eq]; exact tQ.of hCA lu (by rw [Ar4, eq])
  obtain ⟨B, rB, B1, B2, B3, B4, B5, B6⟩ := q_X9_empty (d := d + 8) ZA
  obtain ⟨D, eD⟩ : ∃ D, D = s_i (s_i B 86 2 0) 86 3 (-1) := ⟨_, rfl⟩
  have sD : sm A D := by rw [eD]; exact ⟨B1.1, B1.2.1, B1.2.2⟩
  have lq := ZA.2.1
  have Di : ∀ p j, ¬ (p = 86 ∧ (j = 2 ∨ j = 3)) → ¬ (p = q ∧ (j = 4 ∨ j = 8)) → ¬ ((p = q + 5 ∨ p = q + 6) ∧ j < 5) → a_i D p j = a_i h p j := fun p j m1 m2 m3 => by
    rw [eD, ine (by omega), ine (by omega), B6 _ _ m2 m3, Ai]
  have zD : tpC D t n := ⟨by rw [sD.1, sD.2.1]; exact hCA, (Di _ _ (by omega) (by omega) (by omega)).trans e1, hn, fun j hj => ⟨(Di _ _ (by omega) (by omega) (by omega)).trans (ht j hj).1, (ht j hj).2⟩⟩
  have xD : txC D := by
    obtain ⟨⟨x1, x2, x3⟩, x4, x5, x6⟩ := tx
    have l118 := ZA.2.2.1
    refine ⟨⟨by rw [sD.1, At]; exact x1, by rw [sD.1, At]; exact x2, fun j => (Di _ j (by omega) (by omega) (by omega)).trans (x3 j)⟩, by rw [sD.1, At]; exact x4, by rw [sD.1, At]; exact x5, fun j => (Di _ j (by omega) (by omega) (by omega)).trans (x6 j)⟩
  obtain ⟨E, rE, T1, T2, T3, T4, T5, T6, T7⟩ := q_X7_splitTape (d := d) zD xD
  have l118 := ZA.2.2.1
  have tl := tks_l (t := t) (n := n) 300 0
  obtain ⟨T, eT⟩ : ∃ T, T = tks t n 300 0 ++ [(0, 0, n)] := ⟨_, rfl⟩
  have lT : 0 < T.length ∧ T.length ≤ 301 := by
    rw [eT, List.length_append]
    show 0 < (tks t n 300 0).length + 1 ∧ (tks t n 300 0).length + 1 ≤ 301
    omega
  rw [← eT] at T5 T7
  rw [← eT]
  have hCE : sh_C (a_t E) (a_r E) := by rw [T2, T3]; exact zD.1
  obtain ⟨F, eF⟩ : ∃ F, F = s_i E 86 13 0 := ⟨_, rfl⟩
  have hCF : sh_C (a_t F) (a_r F) := by rw [eF]; exact hCE
  have F2 : a_i F 86 2 = 0 := by rw [eF, ine (by omega), T6 _ _ (by omega) (by omega) (by omega) (by omega), eD, ine (by omega), ieq rfl rfl]
  have F9 : a_i F 86 9 = nI T.length := by rw [eF, ine (by omega)]; exact T5
  have ce : ∀ Q, Cal (d + 8) mX7_come [.ref 86] F Q = Q none (cmA F 0) := fun Q => q_X7_come hCF F2 F9 (by rw [eF]; exact ieq rfl rfl) lT.1 lT.2
  obtain ⟨x, ex⟩ : ∃ x, T[0]? = some x := ⟨_, List.getElem?_eq_getElem lT.1⟩
  obtain ⟨w1, w2, w3⟩ := T7 0 x ex
  have Ci : ∀ p i, ¬ (p = 86 ∧ 10 ≤ i ∧ i ≤ 13) → a_i (cmA F 0) p i = a_i E p i := fun p i m => by
    unfold cmA
    rw [ine (by omega), ine (by omega), ine (by omega), ine (by omega), eF, ine (by omega)]
  have Fe : ∀ p i, ¬ p = 86 → a_i F p i = a_i E p i := fun p i m => by rw [eF, ine (by omega)]
  have sF : sm A (cmA F 0) := by
    have : a_t (cmA F 0) = a_t E ∧ a_r (cmA F 0) = a_r E ∧ (cmA F 0).1 = E.1 := by rw [eF]; exact ⟨rfl, rfl, rfl⟩
    exact ⟨this.1.trans (T2.trans sD.1), this.2.1.trans (T3.trans sD.2.1), this.2.2.trans (T1.trans sD.2.2)⟩
  have lF : a_l (cmA F 0) = a_l h := by
    have : a_l (cmA F 0) = a_l E := by rw [eF]; rfl
    rw [this, T4, eD]
    exact B2.trans Al
  have En : ∀ p i, ¬ p = 86 → ¬ (88 ≤ p ∧ p ≤ 90) → a_i (cmA F 0) p i = a_i D p i := fun p i m1 m2 => by
    rw [Ci _ _ (by omega), T6 _ _ (by omega) (by omega) (by omega) (by omega)]
  refine ⟨cmA F 0, fun Q => ?_, ⟨ZA.sm sF, ⟨by rw [Ci _ _ (by omega)]; exact T5, lT.2, fun i y ey => ?_⟩, ?_, ?_, ?_, Nat.le_refl _, x, ex, ?_, ?_, ?_⟩, ?_, fun w lw => ?_, ?_, sF.1.trans At, sF.2.2.trans A1, lF, fun p j m => ?_, fun p j m1 m2 m3 => ?_⟩
  · have tqh : a_t h q = (9, 9) := by rw [← At]; exact ZA.2.2.2.2.1
    rw [eD] at rE
    rw [eA] at rB
    subst eF
    have hCB : sh_C (a_t B) (a_r B) := by rw [B1.1, B1.2.1]; exact hCA
    unfold Cal riL
    rw [show m_l mX7_readInto = 3 from rfl]
    simp only [am_en, am_ag, ct_i, ct_r, ct_l, List.length_cons, List.length_nil, List.replicate]
    simp [w_aload_n0 (M := mX7_readInto) dX7_readInto_0, w_aload_n1 (M := mX7_readInto) dX7_readInto_1, w_putO (M := mX7_readInto) dX7_readInto_2 f_7_34 rfl (Or.inl rfl), w_putON (M := mX7_readInto) dX7_readInto_2 f_7_34 rfl (Or.inl rfl), w_aload_n0 (M := mX7_readInto) dX7_readInto_5, w_getO (M := mX7_readInto) dX7_readInto_6 f_7_34 rfl (by decide) (by decide), c_7_38 (M := mX7_readInto) dX7_readInto_9 rfl, w_aload_n0 (M := mX7_readInto) dX7_readInto_12, w_iconst (M := mX7_readInto) (v := 0) dX7_readInto_13 rfl, w_putI (M := mX7_readInto) dX7_readInto_14 f_7_15 rfl (Or.inl rfl), w_aload_n0 (M := mX7_readInto) dX7_readInto_17, w_iconst (M := mX7_readInto) (v := (-1)) dX7_readInto_18 rfl, w_putI (M := mX7_readInto) dX7_readInto_19 f_7_19 rfl (Or.inl rfl), w_aload_n0 (M := mX7_readInto) dX7_readInto_22, c_7_43 (M := mX7_readInto) dX7_readInto_23 rfl, w_aload_n0 (M := mX7_readInto) dX7_readInto_26, w_iconst (M := mX7_readInto) (v := 0) dX7_readInto_27 rfl, w_putI (M := mX7_readInto) dX7_readInto_28 f_7_46 rfl (Or.inl rfl), w_aload_n0 (M := mX7_readInto) dX7_readInto_31, c_7_49 (M := mX7_readInto) dX7_readInto_32 rfl, w_iconst (M := mX7_readInto) (v := 0) dX7_readInto_35 rfl, w_istore_n (M := mX7_readInto) (i := 2) dX7_readInto_36 rfl (by decide), Kn_v_, Kn_n_, kl_i_, kl_a_, kl_l_, kl_n_, s1_0_, s2_0_, s1_1, s1_2, s1_3, s1_4, s1_5, s1_6, s1_7, s1_8, s1_9, s1_10, s1_11, s1_12, s1_13, s1_14, s2_1, s2_2, s2_3, s2_4, s2_5, s2_6, s2_7, s2_8, s2_9, s2_10, s2_11, s2_12, s2_13, s2_14, List.map_nil, List.map_cons, List.sum_nil, List.sum_cons, ct_i_, ct_r_, ct_l_, t_si_, t_sl_, t_sr_, n_si_, n_sl_, n_sr_, i_si_, i_sl_, i_sr_, l_si_, l_sl_, l_sr_, r_si_, r_sl_, r_sr_, vr_s_, vr_n_, nz_0_, nz_1_, hC.e, hCB.e, hCE.e, tqh, rB, rE, ce, show nI 0 = 0 from rfl]
  · obtain ⟨v1, v2, v3⟩ := T7 i y ey
    rw [Ci _ _ (by omega), Ci _ _ (by omega), Ci _ _ (by omega)]
    exact ⟨v1, v2, v3⟩
  · rw [Ci _ _ (by omega), T6 _ _ (by omega) (by omega) (by omega) (by omega), eD, ine (by omega), ieq rfl rfl]
  · unfold cmA
    rw [ieq rfl rfl]
  · rw [En _ _ (by omega) (by omega), eD, ine (by omega), ine (by omega)]; exact B4
  · unfold cmA
    rw [ine (by omega), ine (by omega), ine (by omega), ieq rfl rfl, Fe _ _ (by omega)]; exact w1
  · unfold cmA
    rw [ine (by omega), ine (by omega), ieq rfl rfl, Fe _ _ (by omega)]; exact w2
  · unfold cmA
    rw [ine (by omega), ieq rfl rfl, Fe _ _ (by omega)]; exact w3
  · rw [En _ _ (by omega) (by omega), eD, ine (by omega), ine (by omega)]; exact B3
  · rw [En _ _ (by omega) (by omega), eD, ine (by omega), ine (by omega)]; exact B5 w lw
  · rw [Ci _ _ (by omega), T6 _ _ (by omega) (by omega) (by omega) (by omega), eD, ieq rfl rfl]
  · rw [sF.2.1]; exact Ar p j m
  · by_cases z86 : p = 86
    · subst z86
      rw [Ci _ _ (by omega), T6 _ _ (by omega) (by omega) (by omega) (by omega), Di _ _ (by omega) (by omega) (by omega)]
    · rw [En _ _ z86 m2, Di _ _ (by omega) (by omega) (by omega)]
end INTO
