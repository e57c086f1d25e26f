/-! the other side: a clause begins -/
section RCLAUSE2
variable {d n g j φ ω o w y m k K : Nat} {h h' h'' h1 h2 h3 h4 h5 : am_h} {Q : Option Value → am_h → Prop} {f s a b v : Int32} {T : List (Nat × Nat × Nat)} {x : Nat × Nat × Nat} {t : Nat → Nat}
/-- what reading clauses changes -/
def rX (h h' : am_h) : Prop := sm h h' ∧ a_l h' = a_l h ∧ ∀ p i, ¬ (p = 126 ∧ 15 ≤ i ∧ i ≤ 37) → ¬ (138 ≤ p ∧ p ≤ 149) → a_i h' p i = a_i h p i
theorem rX.rf : rX h h := ⟨sm.rf, rfl, fun _ _ _ _ => rfl⟩
theorem rX.tr (k1 : rX h h') (k2 : rX h' h'') : rX h h'' := ⟨k1.1.tr k2.1, k2.2.1.trans k1.2.1, fun p i n1 n2 => (k2.2.2 p i n1 n2).trans (k1.2.2 p i n1 n2)⟩
theorem nxR.X (k : nxR h h') : rX h h' := ⟨k.1, k.2.1, fun p i n1 _ => k.2.2 p i (by omega)⟩
theorem rF.X (k : rF φ ω g h h') : rX h h' := ⟨k.1, k.2.1, fun p i n1 n2 => k.2.2 p i (by omega) (by omega) (by omega) (by omega) (by omega) (by omega)⟩
theorem flR.X (k : flR f s h h') : rX h h' := ⟨k.2.1, k.2.2.1, k.2.2.2.2.2⟩
theorem flR.rx (k1 : rX h h') (k2 : flR f s h' h'') : flR f s h h'' := by
  obtain ⟨z1, z2, z3, z4, z5, z6⟩ := k2
  exact ⟨z1, k1.1.tr z2, z3.trans k1.2.1, z4, z5, fun p i n1 n2 => (z6 p i n1 n2).trans (k1.2.2 p i n1 n2)⟩
theorem flR.xr (k1 : flR f s h h') (k2 : rX h' h'') (e1 : a_i h'' 126 19 = a_i h' 126 19) (e2 : a_i h'' 126 20 = a_i h' 126 20) : flR f s h h'' := by
  obtain ⟨z1, z2, z3, z4, z5, z6⟩ := k1
  exact ⟨z1, z2.tr k2.1, k2.2.1.trans z3, e1.trans z4, e2.trans z5, fun p i n1 n2 => (k2.2.2 p i n1 n2).trans (z6 p i n1 n2)⟩
theorem wm_10 : ∀ w, w < 32 → (wm w ≤ 10 ↔ w ≤ 10) ∧ (w ≤ 10 → wm w = w) := by decide
theorem tk_3 {s v : Int32} (k : tkR x s v) (x1 : x.1 = 3) (x2 : x.2.1 ≤ 10) : s = 1 ∧ v = nI x.2.1 := by
  rcases k with ⟨k1, k2⟩ | ⟨k1, k2, -⟩ | ⟨k1, ⟨k4, k2, k3⟩ | ⟨k4, k2⟩⟩ | ⟨k1, k2, k3, k4⟩ | ⟨k1, k2⟩
  · omega
  · omega
  · exact ⟨k2, by rw [k3, (wm_10 _ k4).2 x2]⟩
  · omega
  · omega
  · omega
theorem tk_n3 {s v : Int32} (k : tkR x s v) (nb : ¬ (x.1 = 3 ∧ x.2.1 ≤ 10)) : ¬ (s = 1 ∧ v ≤ 10) := by
  rcases k with ⟨k1, k2⟩ | ⟨k1, k2, -⟩ | ⟨k1, ⟨k4, k2, k3⟩ | ⟨k4, k2⟩⟩ | ⟨k1, k2, k3, k4⟩ | ⟨k1, k2 | ⟨k2, -⟩⟩
  · rintro ⟨z, -⟩; rw [k2] at z; exact absurd z (by decide)
  · rintro ⟨z, -⟩; rw [k2] at z; exact absurd z (by decide)
  · rintro ⟨-, z⟩
    have wb := wm_b _ k4
    rw [k3, show (10 : Int32) = nI 10 from rfl, nI_lE (by omega) (by omega)] at z
    exact nb ⟨k1, (wm_10 _ k4).1.mp z⟩
  · rintro ⟨z, -⟩; rw [k2] at z; exact absurd z (by decide)
  · rintro ⟨z, -⟩; rw [k2] at z; exact absurd z (by decide)
  · rintro ⟨z, -⟩; rw [k2] at z; exact absurd z (by decide)
  · rintro ⟨z, -⟩; rw [k2] at z; exact absurd z (by decide)
/-! was it told -/
theorem wt_1 (hR : sh_R (a_t h) (a_r h)) (hK : a_i h 126 30 = nI K) (lK : K ≤ 24) : ∀ k i, i + k = K → WP d mX12_wasTold 4 [some (.ref 126), some (.int v), some (.int 1), some (.int (nI i))] [] h Q = Q (some (.int 1)) h := by
  intro k
  induction k with
  | zero =>
    intro i e
    have c1 : (nI i < nI K) = False := nI_ltF (by omega) (by omega)
    have c2 : (nI K ≤ nI i) = True := by rw [nI_lE (by omega) (by omega)]; exact eq_true (by omega)
    simp [w_iload_n3 (M := mX12_wasTold) dX12_wasTold_4, w_aload_n0 (M := mX12_wasTold) dX12_wasTold_5, w_getI (M := mX12_wasTold) dX12_wasTold_6 f_12_372 rfl (by decide) (by decide), w_ic_ge (M := mX12_wasTold) (tgt := 38) dX12_wasTold_9 (by decide), w_iload_n2 (M := mX12_wasTold) dX12_wasTold_12, w_if_ne (M := mX12_wasTold) (tgt := 26) dX12_wasTold_13 (by decide), w_aload_n0 (M := mX12_wasTold) dX12_wasTold_16, w_getA (M := mX12_wasTold) dX12_wasTold_17 f_12_66 rfl (by decide) (by decide), w_iload_n3 (M := mX12_wasTold) dX12_wasTold_20, w_iaload (M := mX12_wasTold) dX12_wasTold_21, w_iload_n1 (M := mX12_wasTold) dX12_wasTold_22, w_ic_ne (M := mX12_wasTold) (tgt := 30) dX12_wasTold_23 (by decide), w_iconst (M := mX12_wasTold) (v := 1) dX12_wasTold_26 rfl, w_goto (M := mX12_wasTold) (tgt := 31) dX12_wasTold_27 (by decide), w_iconst (M := mX12_wasTold) (v := 0) dX12_wasTold_30 rfl, w_istore_n (M := mX12_wasTold) (i := 2) dX12_wasTold_31 rfl (by decide), w_iinc3 (M := mX12_wasTold) (v := 1) dX12_wasTold_32 rfl (by decide), w_goto (M := mX12_wasTold) (tgt := 4) dX12_wasTold_35 (by decide), w_iload_n2 (M := mX12_wasTold) dX12_wasTold_38, w_ireturn (M := mX12_wasTold) dX12_wasTold_39 rfl, Kn_v_, Kn_n_, kl_i_, kl_a_, kl_l_, kl_n_, s1_0_, s2_0_, s1_1, s1_2, s1_3, s1_4, s1_5, s1_6, s1_7, s1_8, s1_9, s1_10, s1_11, s1_12, s1_13, s1_14, s2_1, s2_2, s2_3, s2_4, s2_5, s2_6, s2_7, s2_8, s2_9, s2_10, s2_11, s2_12, s2_13, s2_14, List.map_nil, List.map_cons, List.sum_nil, List.sum_cons, ct_i_, ct_r_, ct_l_, t_si_, t_sl_, t_sr_, n_si_, n_sl_, n_sr_, i_si_, i_sl_, i_sr_, l_si_, l_sl_, l_sr_, r_si_, r_sl_, r_sr_, vr_s_, vr_n_, nz_0_, nz_1_, hR.e, hK, c1, c2]
  | succ k ih =>
    intro i e
    have c1 : (nI i < nI K) = True := nI_ltT (by omega) (by omega)
    have c2 : (nI K ≤ nI i) = False := by rw [nI_lE (by omega) (by omega)]; exact eq_false (by omega)
    have x3 : nI i + 1 = nI (i + 1) := nI_a (b := 1)
    have s1 : WP d mX12_wasTold 4 [some (.ref 126), some (.int v), some (.int 1), some (.int (nI i))] [] h Q = WP d mX12_wasTold 32 [some (.ref 126), some (.int v), some (.int 1), some (.int (nI i))] [] h Q := by
      simp [w_iload_n3 (M := mX12_wasTold) dX12_wasTold_4, w_aload_n0 (M := mX12_wasTold) dX12_wasTold_5, w_getI (M := mX12_wasTold) dX12_wasTold_6 f_12_372 rfl (by decide) (by decide), w_ic_ge (M := mX12_wasTold) (tgt := 38) dX12_wasTold_9 (by decide), w_iload_n2 (M := mX12_wasTold) dX12_wasTold_12, w_if_ne (M := mX12_wasTold) (tgt := 26) dX12_wasTold_13 (by decide), w_aload_n0 (M := mX12_wasTold) dX12_wasTold_16, w_getA (M := mX12_wasTold) dX12_wasTold_17 f_12_66 rfl (by decide) (by decide), w_iload_n3 (M := mX12_wasTold) dX12_wasTold_20, w_iaload (M := mX12_wasTold) dX12_wasTold_21, w_iload_n1 (M := mX12_wasTold) dX12_wasTold_22, w_ic_ne (M := mX12_wasTold) (tgt := 30) dX12_wasTold_23 (by decide), w_iconst (M := mX12_wasTold) (v := 1) dX12_wasTold_26 rfl, w_goto (M := mX12_wasTold) (tgt := 31) dX12_wasTold_27 (by decide), w_iconst (M := mX12_wasTold) (v := 0) dX12_wasTold_30 rfl, w_istore_n (M := mX12_wasTold) (i := 2) dX12_wasTold_31 rfl (by decide), Kn_v_, Kn_n_, kl_i_, kl_a_, kl_l_, kl_n_, s1_0_, s2_0_, s1_1, s1_2, s1_3, s1_4, s1_5, s1_6, s1_7, s1_8, s1_9, s1_10, s1_11, s1_12, s1_13, s1_14, s2_1, s2_2, s2_3, s2_4, s2_5, s2_6, s2_7, s2_8, s2_9, s2_10, s2_11, s2_12, s2_13, s2_14, List.map_nil, List.map_cons, List.sum_nil, List.sum_cons, ct_i_, ct_r_, ct_l_, t_si_, t_sl_, t_sr_, n_si_, n_sl_, n_sr_, i_si_, i_sl_, i_sr_, l_si_, l_sl_, l_sr_, r_si_, r_sl_, r_sr_, vr_s_, vr_n_, nz_0_, nz_1_, hR.e, hK, c1, c2]
    have s2 : WP d mX12_wasTold 32 [some (.ref 126), some (.int v), some (.int 1), some (.int (nI i))] [] h Q = WP d mX12_wasTold 4 [some (.ref 126), some (.int v), some (.int 1), some (.int (nI (i + 1)))] [] h Q := by
      simp [w_iinc3 (M := mX12_wasTold) (v := 1) dX12_wasTold_32 rfl (by decide), w_goto (M := mX12_wasTold) (tgt := 4) dX12_wasTold_35 (by decide), Kn_v_, Kn_n_, kl_i_, kl_a_, kl_l_, kl_n_, s1_0_, s2_0_, s1_1, s1_2, s1_3, s1_4, s1_5, s1_6, s1_7, s1_8, s1_9, s1_10, s1_11, s1_12, s1_13, s1_14, s2_1, s2_2, s2_3, s2_4, s2_5, s2_6, s2_7, s2_8, s2_9, s2_10, s2_11, s2_12, s2_13, s2_14, List.map_nil, List.map_cons, List.sum_nil, List.sum_cons, ct_i_, ct_r_, ct_l_, t_si_, t_sl_, t_sr_, n_si_, n_sl_, n_sr_, i_si_, i_sl_, i_sr_, l_si_, l_sl_, l_sr_, r_si_, r_sl_, r_sr_, vr_s_, vr_n_, nz_0_, nz_1_, x3]
    rw [s1, s2, ih (i + 1) (by omega)]
theorem wt_s (hR : sh_R (a_t h) (a_r h)) (hK : a_i h 126 30 = nI K) (lK : K ≤ 24) {i : Nat} (l : i < K) : WP d mX12_wasTold 4 [some (.ref 126), some (.int v), some (.int 0), some (.int (nI i))] [] h Q = WP d mX12_wasTold 4 [some (.ref 126), some (.int v), some (.int (if a_i h 143 i = v then 1 else 0)), some (.int (nI (i + 1)))] [] h Q := by
  have c1 : (nI i < nI K) = True := nI_ltT (by omega) (by omega)
  have c2 : (nI K ≤ nI i) = False := by rw [nI_lE (by omega) (by omega)]; exact eq_false (by omega)
  have x1 : am_in1 (nI i) 24 = True := by rw [in1_n (by omega)]; exact eq_true (by omega)
  have x2 := nI_c (a := i) (by omega)
  have x3 : nI i + 1 = nI (i + 1) := nI_a (b := 1)
  by_cases c : a_i h 143 i = v
  · rw [if_pos c]
    have s1 : WP d mX12_wasTold 4 [some (.ref 126), some (.int v), some (.int 0), some (.int (nI i))] [] h Q = WP d mX12_wasTold 32 [some (.ref 126), some (.int v), some (.int 1), some (.int (nI i))] [] h Q := by
      simp [w_iload_n3 (M := mX12_wasTold) dX12_wasTold_4, w_aload_n0 (M := mX12_wasTold) dX12_wasTold_5, w_getI (M := mX12_wasTold) dX12_wasTold_6 f_12_372 rfl (by decide) (by decide), w_ic_ge (M := mX12_wasTold) (tgt := 38) dX12_wasTold_9 (by decide), w_iload_n2 (M := mX12_wasTold) dX12_wasTold_12, w_if_ne (M := mX12_wasTold) (tgt := 26) dX12_wasTold_13 (by decide), w_aload_n0 (M := mX12_wasTold) dX12_wasTold_16, w_getA (M := mX12_wasTold) dX12_wasTold_17 f_12_66 rfl (by decide) (by decide), w_iload_n3 (M := mX12_wasTold) dX12_wasTold_20, w_iaload (M := mX12_wasTold) dX12_wasTold_21, w_iload_n1 (M := mX12_wasTold) dX12_wasTold_22, w_ic_ne (M := mX12_wasTold) (tgt := 30) dX12_wasTold_23 (by decide), w_iconst (M := mX12_wasTold) (v := 1) dX12_wasTold_26 rfl, w_goto (M := mX12_wasTold) (tgt := 31) dX12_wasTold_27 (by decide), w_iconst (M := mX12_wasTold) (v := 0) dX12_wasTold_30 rfl, w_istore_n (M := mX12_wasTold) (i := 2) dX12_wasTold_31 rfl (by decide), Kn_v_, Kn_n_, kl_i_, kl_a_, kl_l_, kl_n_, s1_0_, s2_0_, s1_1, s1_2, s1_3, s1_4, s1_5, s1_6, s1_7, s1_8, s1_9, s1_10, s1_11, s1_12, s1_13, s1_14, s2_1, s2_2, s2_3, s2_4, s2_5, s2_6, s2_7, s2_8, s2_9, s2_10, s2_11, s2_12, s2_13, s2_14, List.map_nil, List.map_cons, List.sum_nil, List.sum_cons, ct_i_, ct_r_, ct_l_, t_si_, t_sl_, t_sr_, n_si_, n_sl_, n_sr_, i_si_, i_sl_, i_sr_, l_si_, l_sl_, l_sr_, r_si_, r_sl_, r_sr_, vr_s_, vr_n_, nz_0_, nz_1_, hR.e, hK, c1, c2, x1, x2, c]
    have s2 : WP d mX12_wasTold 32 [some (.ref 126), some (.int v), some (.int 1), some (.int (nI i))] [] h Q = WP d mX12_wasTold 4 [some (.ref 126), some (.int v), some (.int 1), some (.int (nI (i + 1)))] [] h Q := by
      simp [w_iinc3 (M := mX12_wasTold) (v := 1) dX12_wasTold_32 rfl (by decide), w_goto (M := mX12_wasTold) (tgt := 4) dX12_wasTold_35 (by decide), Kn_v_, Kn_n_, kl_i_, kl_a_, kl_l_, kl_n_, s1_0_, s2_0_, s1_1, s1_2, s1_3, s1_4, s1_5, s1_6, s1_7, s1_8, s1_9, s1_10, s1_11, s1_12, s1_13, s1_14, s2_1, s2_2, s2_3, s2_4, s2_5, s2_6, s2_7, s2_8, s2_9, s2_10, s2_11, s2_12, s2_13, s2_14, List.map_nil, List.map_cons, List.sum_nil, List.sum_cons, ct_i_, ct_r_, ct_l_, t_si_, t_sl_, t_sr_, n_si_, n_sl_, n_sr_, i_si_, i_sl_, i_sr_, l_si_, l_sl_, l_sr_, r_si_, r_sl_, r_sr_, vr_s_, vr_n_, nz_0_, nz_1_, x3]
    exact s1.trans s2
  · rw [if_neg c]
    have s1 : WP d mX12_wasTold 4 [some (.ref 126), some (.int v), some (.int 0), some (.int (nI i))] [] h Q = WP d mX12_wasTold 32 [some (.ref 126), some (.int v), some (.int 0), some (.int (nI i))] [] h Q := by
      simp [w_iload_n3 (M := mX12_wasTold) dX12_wasTold_4, w_aload_n0 (M := mX12_wasTold) dX12_wasTold_5, w_getI (M := mX12_wasTold) dX12_wasTold_6 f_12_372 rfl (by decide) (by decide), w_ic_ge (M := mX12_wasTold) (tgt := 38) dX12_wasTold_9 (by decide), w_iload_n2 (M := mX12_wasTold) dX12_wasTold_12, w_if_ne (M := mX12_wasTold) (tgt := 26) dX12_wasTold_13 (by decide), w_aload_n0 (M := mX12_wasTold) dX12_wasTold_16, w_getA (M := mX12_wasTold) dX12_wasTold_17 f_12_66 rfl (by decide) (by decide), w_iload_n3 (M := mX12_wasTold) dX12_wasTold_20, w_iaload (M := mX12_wasTold) dX12_wasTold_21, w_iload_n1 (M := mX12_wasTold) dX12_wasTold_22, w_ic_ne (M := mX12_wasTold) (tgt := 30) dX12_wasTold_23 (by decide), w_iconst (M := mX12_wasTold) (v := 1) dX12_wasTold_26 rfl, w_goto (M := mX12_wasTold) (tgt := 31) dX12_wasTold_27 (by decide), w_iconst (M := mX12_wasTold) (v := 0) dX12_wasTold_30 rfl, w_istore_n (M := mX12_wasTold) (i := 2) dX12_wasTold_31 rfl (by decide), Kn_v_, Kn_n_, kl_i_, kl_a_, kl_l_, kl_n_, s1_0_, s2_0_, s1_1, s1_2, s1_3, s1_4, s1_5, s1_6, s1_7, s1_8, s1_9, s1_10, s1_11, s1_12, s1_13, s1_14, s2_1, s2_2, s2_3, s2_4, s2_5, s2_6, s2_7, s2_8, s2_9, s2_10, s2_11, s2_12, s2_13, s2_14, List.map_nil, List.map_cons, List.sum_nil, List.sum_cons, ct_i_, ct_r_, ct_l_, t_si_, t_sl_, t_sr_, n_si_, n_sl_, n_sr_, i_si_, i_sl_, i_sr_, l_si_, l_sl_, l_sr_, r_si_, r_sl_, r_sr_, vr_s_, vr_n_, nz_0_, nz_1_, hR.e, hK, c1, c2, x1, x2, c]
    have s2 : WP d mX12_wasTold 32 [some (.ref 126), some (.int v), some (.int 0), some (.int (nI i))] [] h Q = WP d mX12_wasTold 4 [some (.ref 126), some (.int v), some (.int 0), some (.int (nI (i + 1)))] [] h Q := by
      simp [w_iinc3 (M := mX12_wasTold) (v := 1) dX12_wasTold_32 rfl (by decide), w_goto (M := mX12_wasTold) (tgt := 4) dX12_wasTold_35 (by decide), Kn_v_, Kn_n_, kl_i_, kl_a_, kl_l_, kl_n_, s1_0_, s2_0_, s1_1, s1_2, s1_3, s1_4, s1_5, s1_6, s1_7, s1_8, s1_9, s1_10, s1_11, s1_12, s1_13, s1_14, s2_1, s2_2, s2_3, s2_4, s2_5, s2_6, s2_7, s2_8, s2_9, s2_10, s2_11, s2_12, s2_13, s2_14, List.map_nil, List.map_cons, List.sum_nil, List.sum_cons, ct_i_, ct_r_, ct_l_, t_si_, t_sl_, t_sr_, n_si_, n_sl_, n_sr_, i_si_, i_sl_, i_sr_, l_si_, l_sl_, l_sr_, r_si_, r_sl_, r_sr_, vr_s_, vr_n_, nz_0_, nz_1_, x3]
    exact s1.trans s2
theorem wt_no (hR : sh_R (a_t h) (a_r h)) (hK : a_i h 126 30 = nI K) (lK : K ≤ 24) (no : ∀ m, m < K → ¬ a_i h 143 m = v) : ∀ k i, i + k = K → WP d mX12_wasTold 4 [some (.ref 126), some (.int v), some (.int 0), some (.int (nI i))] [] h Q = Q (some (.int 0)) h := by
  intro k
  induction k with
  | zero =>
    intro i e
    have c1 : (nI i < nI K) = False := nI_ltF (by omega) (by omega)
    have c2 : (nI K ≤ nI i) = True := by rw [nI_lE (by omega) (by omega)]; exact eq_true (by omega)
    simp [w_iload_n3 (M := mX12_wasTold) dX12_wasTold_4, w_aload_n0 (M := mX12_wasTold) dX12_wasTold_5, w_getI (M := mX12_wasTold) dX12_wasTold_6 f_12_372 rfl (by decide) (by decide), w_ic_ge (M := mX12_wasTold) (tgt := 38) dX12_wasTold_9 (by decide), w_iload_n2 (M := mX12_wasTold) dX12_wasTold_12, w_if_ne (M := mX12_wasTold) (tgt := 26) dX12_wasTold_13 (by decide), w_aload_n0 (M := mX12_wasTold) dX12_wasTold_16, w_getA (M := mX12_wasTold) dX12_wasTold_17 f_12_66 rfl (by decide) (by decide), w_iload_n3 (M := mX12_wasTold) dX12_wasTold_20, w_iaload (M := mX12_wasTold) dX12_wasTold_21, w_iload_n1 (M := mX12_wasTold) dX12_wasTold_22, w_ic_ne (M := mX12_wasTold) (tgt := 30) dX12_wasTold_23 (by decide), w_iconst (M := mX12_wasTold) (v := 1) dX12_wasTold_26 rfl, w_goto (M := mX12_wasTold) (tgt := 31) dX12_wasTold_27 (by decide), w_iconst (M := mX12_wasTold) (v := 0) dX12_wasTold_30 rfl, w_istore_n (M := mX12_wasTold) (i := 2) dX12_wasTold_31 rfl (by decide), w_iinc3 (M := mX12_wasTold) (v := 1) dX12_wasTold_32 rfl (by decide), w_goto (M := mX12_wasTold) (tgt := 4) dX12_wasTold_35 (by decide), w_iload_n2 (M := mX12_wasTold) dX12_wasTold_38, w_ireturn (M := mX12_wasTold) dX12_wasTold_39 rfl, Kn_v_, Kn_n_, kl_i_, kl_a_, kl_l_, kl_n_, s1_0_, s2_0_, s1_1, s1_2, s1_3, s1_4, s1_5, s1_6, s1_7, s1_8, s1_9, s1_10, s1_11, s1_12, s1_13, s1_14, s2_1, s2_2, s2_3, s2_4, s2_5, s2_6, s2_7, s2_8, s2_9, s2_10, s2_11, s2_12, s2_13, s2_14, List.map_nil, List.map_cons, List.sum_nil, List.sum_cons, ct_i_, ct_r_, ct_l_, t_si_, t_sl_, t_sr_, n_si_, n_sl_, n_sr_, i_si_, i_sl_, i_sr_, l_si_, l_sl_, l_sr_, r_si_, r_sl_, r_sr_, vr_s_, vr_n_, nz_0_, nz_1_, hR.e, hK, c1, c2]
  | succ k ih =>
    intro i e
    rw [wt_s hR hK lK (by omega), if_neg (no i (by omega)), ih (i + 1) (by omega)]
theorem wt_yes (hR : sh_R (a_t h) (a_r h)) (hK : a_i h 126 30 = nI K) (lK : K ≤ 24) (ym : m < K) (yv : a_i h 143 m = v) : ∀ k i, i + k = K → i ≤ m → WP d mX12_wasTold 4 [some (.ref 126), some (.int v), some (.int 0), some (.int (nI i))] [] h Q = Q (some (.int 1)) h := by
  intro k
  induction k with
  | zero => intro i e l; omega
  | succ k ih =>
    intro i e l
    rw [wt_s hR hK lK (by omega)]
    by_cases c : a_i h 143 i = v
    · rw [if_pos c]
      exact wt_1 hR hK lK k (i + 1) (by omega)
    · rw [if_neg c]
      refine ih (i + 1) (by omega) ?_
      by_cases z : i = m
      · subst z; exact absurd yv c
      · omega
theorem rq_told0 (hR : sh_R (a_t h) (a_r h)) (hK : a_i h 126 30 = nI K) (lK : K ≤ 24) (no : ∀ m, m < K → ¬ a_i h 143 m = v) : Cal d mX12_wasTold [.ref 126, .int v] h Q = Q (some (.int 0)) h := by
  have e := wt_no (d := d) (Q := Q) hR hK lK no K 0 (by omega)
  rw [show nI 0 = 0 from rfl] at e
  rw [← e]
  unfold Cal
  rw [show m_l mX12_wasTold = 4 from rfl]
  simp only [am_en, am_ag, ct_i, ct_r, ct_l, List.length_cons, List.length_nil, List.replicate]
  simp [w_iconst (M := mX12_wasTold) (v := 0) dX12_wasTold_0 rfl, w_istore_n (M := mX12_wasTold) (i := 2) dX12_wasTold_1 rfl (by decide), w_iconst (M := mX12_wasTold) (v := 0) dX12_wasTold_2 rfl, w_istore_n (M := mX12_wasTold) (i := 3) dX12_wasTold_3 rfl (by decide), Kn_v_, Kn_n_, kl_i_, kl_a_, kl_l_, kl_n_, s1_0_, s2_0_, s1_1, s1_2, s1_3, s1_4, s1_5, s1_6, s1_7, s1_8, s1_9, s1_10, s1_11, s1_12, s1_13, s1_14, s2_1, s2_2, s2_3, s2_4, s2_5, s2_6, s2_7, s2_8, s2_9, s2_10, s2_11, s2_12, s2_13, s2_14, List.map_nil, List.map_cons, List.sum_nil, List.sum_cons, ct_i_, ct_r_, ct_l_, t_si_, t_sl_, t_sr_, n_si_, n_sl_, n_sr_, i_si_, i_sl_, i_sr_, l_si_, l_sl_, l_sr_, r_si_, r_sl_, r_sr_, vr_s_, vr_n_, nz_0_, nz_1_]
theorem rq_told1 (hR : sh_R (a_t h) (a_r h)) (hK : a_i h 126 30 = nI K) (lK : K ≤ 24) (ym : m < K) (yv : a_i h 143 m = v) : Cal d mX12_wasTold [.ref 126, .int v] h Q = Q (some (.int 1)) h := by
  have e := wt_yes (d := d) (Q := Q) hR hK lK ym yv K 0 (by omega) (Nat.zero_le _)
  rw [show nI 0 = 0 from rfl] at e
  rw [← e]
  unfold Cal
  rw [show m_l mX12_wasTold = 4 from rfl]
  simp only [am_en, am_ag, ct_i, ct_r, ct_l, List.length_cons, List.length_nil, List.replicate]
  simp [w_iconst (M := mX12_wasTold) (v := 0) dX12_wasTold_0 rfl, w_istore_n (M := mX12_wasTold) (i := 2) dX12_wasTold_1 rfl (by decide), w_iconst (M := mX12_wasTold) (v := 0) dX12_wasTold_2 rfl, w_istore_n (M := mX12_wasTold) (i := 3) dX12_wasTold_3 rfl (by decide), Kn_v_, Kn_n_, kl_i_, kl_a_, kl_l_, kl_n_, s1_0_, s2_0_, s1_1, s1_2, s1_3, s1_4, s1_5, s1_6, s1_7, s1_8, s1_9, s1_10, s1_11, s1_12, s1_13, s1_14, s2_1, s2_2, s2_3, s2_4, s2_5, s2_6, s2_7, s2_8, s2_9, s2_10, s2_11, s2_12, s2_13, s2_14, List.map_nil, List.map_cons, List.sum_nil, List.sum_cons, ct_i_, ct_r_, ct_l_, t_si_, t_sl_, t_sr_, n_si_, n_sl_, n_sr_, i_si_, i_sl_, i_sr_, l_si_, l_sl_, l_sr_, r_si_, r_sl_, r_sr_, vr_s_, vr_n_, nz_0_, nz_1_]
/-! a clause -/
theorem rcl_1 (P : okP t n T w j h) (hx : T[j]? = some x) (nb : ¬ (x.1 = 3 ∧ x.2.1 ≤ 10)) : ∃ h', (∀ Q, Cal (d + 4) mX12_clause [.ref 126] h Q = Q none h') ∧ flR 1 (nI x.2.2) h h' := by
  have hR := P.R
  have nk := tk_n3 (P.tk hx).2 nb
  obtain ⟨h', r1, r2⟩ := rq_errs P hx (f := 1) (by decide)
  refine ⟨h', fun Q => ?_, r2⟩
  unfold Cal
  rw [show m_l mX12_clause = 1 from rfl]
  simp only [am_en, am_ag, ct_i, ct_r, ct_l, List.length_cons, List.length_nil, List.replicate]
  by_cases c1 : a_i h 126 17 = 1
  · have c2 : (a_i h 126 18 ≤ 10) = False := eq_false (fun z => nk ⟨c1, z⟩)
    have c3 : (10 < a_i h 126 18) = True := by
      rw [← Int32.not_le, c2]; simp
    simp [w_aload_n0 (M := mX12_clause) dX12_clause_0, w_getI (M := mX12_clause) dX12_clause_1 f_12_274 rfl (by decide) (by decide), w_iconst (M := mX12_clause) (v := 1) dX12_clause_4 rfl, w_ic_ne (M := mX12_clause) (tgt := 17) dX12_clause_5 (by decide), w_aload_n0 (M := mX12_clause) dX12_clause_8, w_getI (M := mX12_clause) dX12_clause_9 f_12_286 rfl (by decide) (by decide), w_bipush (M := mX12_clause) (v := 10) dX12_clause_12 rfl, w_ic_le (M := mX12_clause) (tgt := 23) dX12_clause_14 (by decide), w_aload_n0 (M := mX12_clause) dX12_clause_17, w_iconst (M := mX12_clause) (v := 1) dX12_clause_18 rfl, c_12_305 (M := mX12_clause) dX12_clause_19 rfl, w_vret (M := mX12_clause) dX12_clause_22 rfl, Kn_v_, Kn_n_, kl_i_, kl_a_, kl_l_, kl_n_, s1_0_, s2_0_, s1_1, s1_2, s1_3, s1_4, s1_5, s1_6, s1_7, s1_8, s1_9, s1_10, s1_11, s1_12, s1_13, s1_14, s2_1, s2_2, s2_3, s2_4, s2_5, s2_6, s2_7, s2_8, s2_9, s2_10, s2_11, s2_12, s2_13, s2_14, List.map_nil, List.map_cons, List.sum_nil, List.sum_cons, ct_i_, ct_r_, ct_l_, t_si_, t_sl_, t_sr_, n_si_, n_sl_, n_sr_, i_si_, i_sl_, i_sr_, l_si_, l_sl_, l_sr_, r_si_, r_sl_, r_sr_, vr_s_, vr_n_, nz_0_, nz_1_, hR.e, c1, c2, c3, r1]
  · simp [w_aload_n0 (M := mX12_clause) dX12_clause_0, w_getI (M := mX12_clause) dX12_clause_1 f_12_274 rfl (by decide) (by decide), w_iconst (M := mX12_clause) (v := 1) dX12_clause_4 rfl, w_ic_ne (M := mX12_clause) (tgt := 17) dX12_clause_5 (by decide), w_aload_n0 (M := mX12_clause) dX12_clause_8, w_getI (M := mX12_clause) dX12_clause_9 f_12_286 rfl (by decide) (by decide), w_bipush (M := mX12_clause) (v := 10) dX12_clause_12 rfl, w_ic_le (M := mX12_clause) (tgt := 23) dX12_clause_14 (by decide), w_aload_n0 (M := mX12_clause) dX12_clause_17, w_iconst (M := mX12_clause) (v := 1) dX12_clause_18 rfl, c_12_305 (M := mX12_clause) dX12_clause_19 rfl, w_vret (M := mX12_clause) dX12_clause_22 rfl, Kn_v_, Kn_n_, kl_i_, kl_a_, kl_l_, kl_n_, s1_0_, s2_0_, s1_1, s1_2, s1_3, s1_4, s1_5, s1_6, s1_7, s1_8, s1_9, s1_10, s1_11, s1_12, s1_13, s1_14, s2_1, s2_2, s2_3, s2_4, s2_5, s2_6, s2_7, s2_8, s2_9, s2_10, s2_11, s2_12, s2_13, s2_14, List.map_nil, List.map_cons, List.sum_nil, List.sum_cons, ct_i_, ct_r_, ct_l_, t_si_, t_sl_, t_sr_, n_si_, n_sl_, n_sr_, i_si_, i_sl_, i_sr_, l_si_, l_sl_, l_sr_, r_si_, r_sl_, r_sr_, vr_s_, vr_n_, nz_0_, nz_1_, hR.e, c1, r1]
/-- its kind is kept -/
theorem okP.wk {w' : Nat} (P : okP t n T w j h) : okP t n T w' j (s_i h 126 31 (nI w')) := by
  obtain ⟨⟨T1, T2, T3, T4⟩, k2, k3, x, i, k4, k5, k6, k7, k8, k9⟩ := P
  exact ⟨⟨T1, by rw [ine (by omega)]; exact T2, T3, fun j hj => by rw [ine (by omega)]; exact T4 j hj⟩, by rw [ine (by omega)]; exact k2, ieq rfl rfl, x, i, k4, by rw [ine (by omega)]; exact k5, k6, by rw [ine (by omega)]; exact k7, by rw [ine (by omega), ine (by omega)]; exact k8, k9⟩
theorem rcl_c (lw : y ≤ 10) : (nI y ≤ 10) = True ∧ (10 < nI y) = False ∧ ((y < 5 ∧ (nI y ≤ 4) = True ∧ (4 < nI y) = False) ∨ (5 ≤ y ∧ (nI y ≤ 4) = False ∧ (4 < nI y) = True)) := by
  refine ⟨by rw [show (10 : Int32) = nI 10 from rfl, nI_lE (by omega) (by omega)]; exact eq_true lw, by rw [show (10 : Int32) = nI 10 from rfl]; exact nI_ltF (by omega) (by omega), ?_⟩
  by_cases c : y < 5
  · exact Or.inl ⟨c, by rw [show (4 : Int32) = nI 4 from rfl, nI_lE (by omega) (by omega)]; exact eq_true (by omega), by rw [show (4 : Int32) = nI 4 from rfl]; exact nI_ltF (by omega) (by omega)⟩
  · exact Or.inr ⟨by omega, by rw [show (4 : Int32) = nI 4 from rfl, nI_lE (by omega) (by omega)]; exact eq_false (by omega), by rw [show (4 : Int32) = nI 4 from rfl]; exact nI_ltT (by omega) (by omega)⟩
/-- told before -/
theorem rcl_4 (P : okP t n T w j h) (hx : T[j]? = some x) (x1 : x.1 = 3) (x2 : x.2.1 < 5) (hK : a_i h 126 30 = nI K) (lK : K ≤ 24) (ym : m < K) (yv : a_i h 143 m = nI x.2.1) : ∃ h', (∀ Q, Cal (d + 4) mX12_clause [.ref 126] h Q = Q none h') ∧ flR 4 (nI x.2.2) h h' := by
  have hR := P.R
  obtain ⟨s1, s2⟩ := tk_3 (P.tk hx).2 x1 (by omega)
  obtain ⟨c1, c2, c3⟩ := rcl_c (y := x.2.1) (by omega)
  obtain ⟨A, eA⟩ : ∃ A, A = s_i h 126 31 (nI x.2.1) := ⟨_, rfl⟩
  have PA : okP t n T x.2.1 j A := by rw [eA]; exact P.wk
  have XA : rX h A := by rw [eA]; exact ⟨sm.rf, rfl, fun p i n1 _ => ine (by omega)⟩
  have wt : ∀ Q, Cal (d + 3) mX12_wasTold [.ref 126, .int (nI x.2.1)] A Q = Q (some (.int 1)) A := fun Q => rq_told1 PA.R (by rw [eA, ine (by omega)]; exact hK) lK ym (by rw [eA, ine (by omega)]; exact yv)
  obtain ⟨h', r1, r2⟩ := rq_errs PA hx (f := 4) (by decide)
  have hR' : sh_R (a_t h') (a_r h') := by rw [r2.2.1.1, r2.2.1.2.1]; exact PA.R
  have e19 : a_i h' 126 19 = 4 := r2.2.2.2.1
  refine ⟨h', fun Q => ?_, flR.rx XA r2⟩
  have s3 : Cal (d + 4) mX12_clause [.ref 126] h Q = WP (d + 4) mX12_clause 31 [some (.ref 126)] [] A Q := by
    rw [eA]
    unfold Cal
    rw [show m_l mX12_clause = 1 from rfl]
    simp only [am_en, am_ag, ct_i, ct_r, ct_l, List.length_cons, List.length_nil, List.replicate]
    simp [w_aload_n0 (M := mX12_clause) dX12_clause_0, w_getI (M := mX12_clause) dX12_clause_1 f_12_274 rfl (by decide) (by decide), w_iconst (M := mX12_clause) (v := 1) dX12_clause_4 rfl, w_ic_ne (M := mX12_clause) (tgt := 17) dX12_clause_5 (by decide), w_aload_n0 (M := mX12_clause) dX12_clause_8, w_getI (M := mX12_clause) dX12_clause_9 f_12_286 rfl (by decide) (by decide), w_bipush (M := mX12_clause) (v := 10) dX12_clause_12 rfl, w_ic_le (M := mX12_clause) (tgt := 23) dX12_clause_14 (by decide), w_aload_n0 (M := mX12_clause) dX12_clause_23, w_aload_n0 (M := mX12_clause) dX12_clause_24, w_getI (M := mX12_clause) dX12_clause_25 f_12_286 rfl (by decide) (by decide), w_putI (M := mX12_clause) dX12_clause_28 f_12_344 rfl (Or.inl rfl), Kn_v_, Kn_n_, kl_i_, kl_a_, kl_l_, kl_n_, s1_0_, s2_0_, s1_1, s1_2, s1_3, s1_4, s1_5, s1_6, s1_7, s1_8, s1_9, s1_10, s1_11, s1_12, s1_13, s1_14, s2_1, s2_2, s2_3, s2_4, s2_5, s2_6, s2_7, s2_8, s2_9, s2_10, s2_11, s2_12, s2_13, s2_14, List.map_nil, List.map_cons, List.sum_nil, List.sum_cons, ct_i_, ct_r_, ct_l_, t_si_, t_sl_, t_sr_, n_si_, n_sl_, n_sr_, i_si_, i_sl_, i_sr_, l_si_, l_sl_, l_sr_, r_si_, r_sl_, r_sr_, vr_s_, vr_n_, nz_0_, nz_1_, hR.e, s1, s2, c1, c2]
  have e31 : a_i A 126 31 = nI x.2.1 := by rw [eA, ieq rfl rfl]
  rw [s3]
  rcases c3 with ⟨-, c4, c5⟩ | ⟨c4, -, -⟩
  · simp [w_aload_n0 (M := mX12_clause) dX12_clause_31, w_getI (M := mX12_clause) dX12_clause_32 f_12_344 rfl (by decide) (by decide), w_iconst (M := mX12_clause) (v := 4) dX12_clause_35 rfl, w_ic_gt (M := mX12_clause) (tgt := 58) dX12_clause_36 (by decide), w_aload_n0 (M := mX12_clause) dX12_clause_39, w_aload_n0 (M := mX12_clause) dX12_clause_40, w_getI (M := mX12_clause) dX12_clause_41 f_12_344 rfl (by decide) (by decide), c_12_382 (M := mX12_clause) dX12_clause_44 rfl, w_if_eq (M := mX12_clause) (tgt := 58) dX12_clause_47 (by decide), w_aload_n0 (M := mX12_clause) dX12_clause_50, w_iconst (M := mX12_clause) (v := 4) dX12_clause_51 rfl, c_12_305 (M := mX12_clause) dX12_clause_52 rfl, w_goto (M := mX12_clause) (tgt := 73) dX12_clause_55 (by decide), w_aload_n0 (M := mX12_clause) dX12_clause_73, w_getI (M := mX12_clause) dX12_clause_74 f_12_290 rfl (by decide) (by decide), w_if_le (M := mX12_clause) (tgt := 81) dX12_clause_77 (by decide), w_vret (M := mX12_clause) dX12_clause_80 rfl, Kn_v_, Kn_n_, kl_i_, kl_a_, kl_l_, kl_n_, s1_0_, s2_0_, s1_1, s1_2, s1_3, s1_4, s1_5, s1_6, s1_7, s1_8, s1_9, s1_10, s1_11, s1_12, s1_13, s1_14, s2_1, s2_2, s2_3, s2_4, s2_5, s2_6, s2_7, s2_8, s2_9, s2_10, s2_11, s2_12, s2_13, s2_14, List.map_nil, List.map_cons, List.sum_nil, List.sum_cons, ct_i_, ct_r_, ct_l_, t_si_, t_sl_, t_sr_, n_si_, n_sl_, n_sr_, i_si_, i_sl_, i_sr_, l_si_, l_sl_, l_sr_, r_si_, r_sl_, r_sr_, vr_s_, vr_n_, nz_0_, nz_1_, PA.R.e, hR'.e, e31, c4, c5, wt, r1, e19]
  · omega
theorem rcl_6 (P : okP t n T w j h) (hx : T[j]? = some x) (x1 : x.1 = 3) (x2 : x.2.1 ≤ 10) (hK : a_i h 126 30 = nI 24) (nt : x.2.1 < 5 → ∀ m, m < 24 → ¬ a_i h 143 m = nI x.2.1) : ∃ h', (∀ Q, Cal (d + 4) mX12_clause [.ref 126] h Q = Q none h') ∧ flR 6 (nI x.2.2) h h' := by
  have hR := P.R
  obtain ⟨s1, s2⟩ := tk_3 (P.tk hx).2 x1 (by omega)
  obtain ⟨c1, c2, c3⟩ := rcl_c (y := x.2.1) (by omega)
  obtain ⟨A, eA⟩ : ∃ A, A = s_i h 126 31 (nI x.2.1) := ⟨_, rfl⟩
  have PA : okP t n T x.2.1 j A := by rw [eA]; exact P.wk
  have XA : rX h A := by rw [eA]; exact ⟨sm.rf, rfl, fun p i n1 _ => ine (by omega)⟩
  obtain ⟨h', r1, r2⟩ := rq_errs PA hx (f := 6) (by decide)
  have hR' : sh_R (a_t h') (a_r h') := by rw [r2.2.1.1, r2.2.1.2.1]; exact PA.R
  have e19 : a_i h' 126 19 = 6 := r2.2.2.2.1
  refine ⟨h', fun Q => ?_, flR.rx XA r2⟩
  have s3 : Cal (d + 4) mX12_clause [.ref 126] h Q = WP (d + 4) mX12_clause 31 [some (.ref 126)] [] A Q := by
    rw [eA]
    unfold Cal
    rw [show m_l mX12_clause = 1 from rfl]
    simp only [am_en, am_ag, ct_i, ct_r, ct_l, List.length_cons, List.length_nil, List.replicate]
    simp [w_aload_n0 (M := mX12_clause) dX12_clause_0, w_getI (M := mX12_clause) dX12_clause_1 f_12_274 rfl (by decide) (by decide), w_iconst (M := mX12_clause) (v := 1) dX12_clause_4 rfl, w_ic_ne (M := mX12_clause) (tgt := 17) dX12_clause_5 (by decide), w_aload_n0 (M := mX12_clause) dX12_clause_8, w_getI (M := mX12_clause) dX12_clause_9 f_12_286 rfl (by decide) (by decide), w_bipush (M := mX12_clause) (v := 10) dX12_clause_12 rfl, w_ic_le (M := mX12_clause) (tgt := 23) dX12_clause_14 (by decide), w_aload_n0 (M := mX12_clause) dX12_clause_23, w_aload_n0 (M := mX12_clause) dX12_clause_24, w_getI (M := mX12_clause) dX12_clause_25 f_12_286 rfl (by decide) (by decide), w_putI (M := mX12_clause) dX12_clause_28 f_12_344 rfl (Or.inl rfl), Kn_v_, Kn_n_, kl_i_, kl_a_, kl_l_, kl_n_, s1_0_, s2_0_, s1_1, s1_2, s1_3, s1_4, s1_5, s1_6, s1_7, s1_8, s1_9, s1_10, s1_11, s1_12, s1_13, s1_14, s2_1, s2_2, s2_3, s2_4, s2_5, s2_6, s2_7, s2_8, s2_9, s2_10, s2_11, s2_12, s2_13, s2_14, List.map_nil, List.map_cons, List.sum_nil, List.sum_cons, ct_i_, ct_r_, ct_l_, t_si_, t_sl_, t_sr_, n_si_, n_sl_, n_sr_, i_si_, i_sl_, i_sr_, l_si_, l_sl_, l_sr_, r_si_, r_sl_, r_sr_, vr_s_, vr_n_, nz_0_, nz_1_, hR.e, s1, s2, c1, c2]
  have e31 : a_i A 126 31 = nI x.2.1 := by rw [eA, ieq rfl rfl]
  have e30 : a_i A 126 30 = 24 := by rw [eA, ine (by omega)]; exact hK
  rw [s3]
  rcases c3 with ⟨c3, c4, c5⟩ | ⟨c3, c4, c5⟩
  · have wt : ∀ Q, Cal (d + 3) mX12_wasTold [.ref 126, .int (nI x.2.1)] A Q = Q (some (.int 0)) A := fun Q => rq_told0 (K := 24) PA.R (by rw [eA, ine (by omega)]; exact hK) (by omega) (fun m lm => by rw [eA, ine (by omega)]; exact nt c3 m lm)
    simp [w_aload_n0 (M := mX12_clause) dX12_clause_31, w_getI (M := mX12_clause) dX12_clause_32 f_12_344 rfl (by decide) (by decide), w_iconst (M := mX12_clause) (v := 4) dX12_clause_35 rfl, w_ic_gt (M := mX12_clause) (tgt := 58) dX12_clause_36 (by decide), w_aload_n0 (M := mX12_clause) dX12_clause_39, w_aload_n0 (M := mX12_clause) dX12_clause_40, w_getI (M := mX12_clause) dX12_clause_41 f_12_344 rfl (by decide) (by decide), c_12_382 (M := mX12_clause) dX12_clause_44 rfl, w_if_eq (M := mX12_clause) (tgt := 58) dX12_clause_47 (by decide), w_aload_n0 (M := mX12_clause) dX12_clause_50, w_iconst (M := mX12_clause) (v := 4) dX12_clause_51 rfl, c_12_305 (M := mX12_clause) dX12_clause_52 rfl, w_goto (M := mX12_clause) (tgt := 73) dX12_clause_55 (by decide), w_aload_n0 (M := mX12_clause) dX12_clause_58, w_getI (M := mX12_clause) dX12_clause_59 f_12_372 rfl (by decide) (by decide), w_bipush (M := mX12_clause) (v := 24) dX12_clause_62 rfl, w_ic_ne (M := mX12_clause) (tgt := 73) dX12_clause_64 (by decide), w_aload_n0 (M := mX12_clause) dX12_clause_67, w_bipush (M := mX12_clause) (v := 6) dX12_clause_68 rfl, c_12_305 (M := mX12_clause) dX12_clause_70 rfl, w_aload_n0 (M := mX12_clause) dX12_clause_73, w_getI (M := mX12_clause) dX12_clause_74 f_12_290 rfl (by decide) (by decide), w_if_le (M := mX12_clause) (tgt := 81) dX12_clause_77 (by decide), w_vret (M := mX12_clause) dX12_clause_80 rfl, Kn_v_, Kn_n_, kl_i_, kl_a_, kl_l_, kl_n_, s1_0_, s2_0_, s1_1, s1_2, s1_3, s1_4, s1_5, s1_6, s1_7, s1_8, s1_9, s1_10, s1_11, s1_12, s1_13, s1_14, s2_1, s2_2, s2_3, s2_4, s2_5, s2_6, s2_7, s2_8, s2_9, s2_10, s2_11, s2_12, s2_13, s2_14, List.map_nil, List.map_cons, List.sum_nil, List.sum_cons, ct_i_, ct_r_, ct_l_, t_si_, t_sl_, t_sr_, n_si_, n_sl_, n_sr_, i_si_, i_sl_, i_sr_, l_si_, l_sl_, l_sr_, r_si_, r_sl_, r_sr_, vr_s_, vr_n_, nz_0_, nz_1_, PA.R.e, hR'.e, e31, e30, c4, c5, wt, r1, e19]
  · simp [w_aload_n0 (M := mX12_clause) dX12_clause_31, w_getI (M := mX12_clause) dX12_clause_32 f_12_344 rfl (by decide) (by decide), w_iconst (M := mX12_clause) (v := 4) dX12_clause_35 rfl, w_ic_gt (M := mX12_clause) (tgt := 58) dX12_clause_36 (by decide), w_aload_n0 (M := mX12_clause) dX12_clause_39, w_aload_n0 (M := mX12_clause) dX12_clause_40, w_getI (M := mX12_clause) dX12_clause_41 f_12_344 rfl (by decide) (by decide), c_12_382 (M := mX12_clause) dX12_clause_44 rfl, w_if_eq (M := mX12_clause) (tgt := 58) dX12_clause_47 (by decide), w_aload_n0 (M := mX12_clause) dX12_clause_50, w_iconst (M := mX12_clause) (v := 4) dX12_clause_51 rfl, c_12_305 (M := mX12_clause) dX12_clause_52 rfl, w_goto (M := mX12_clause) (tgt := 73) dX12_clause_55 (by decide), w_aload_n0 (M := mX12_clause) dX12_clause_58, w_getI (M := mX12_clause) dX12_clause_59 f_12_372 rfl (by decide) (by decide), w_bipush (M := mX12_clause) (v := 24) dX12_clause_62 rfl, w_ic_ne (M := mX12_clause) (tgt := 73) dX12_clause_64 (by decide), w_aload_n0 (M := mX12_clause) dX12_clause_67, w_bipush (M := mX12_clause) (v := 6) dX12_clause_68 rfl, c_12_305 (M := mX12_clause) dX12_clause_70 rfl, w_aload_n0 (M := mX12_clause) dX12_clause_73, w_getI (M := mX12_clause) dX12_clause_74 f_12_290 rfl (by decide) (by decide), w_if_le (M := mX12_clause) (tgt := 81) dX12_clause_77 (by decide), w_vret (M := mX12_clause) dX12_clause_80 rfl, Kn_v_, Kn_n_, kl_i_, kl_a_, kl_l_, kl_n_, s1_0_, s2_0_, s1_1, s1_2, s1_3, s1_4, s1_5, s1_6, s1_7, s1_8, s1_9, s1_10, s1_11, s1_12, s1_13, s1_14, s2_1, s2_2, s2_3, s2_4, s2_5, s2_6, s2_7, s2_8, s2_9, s2_10, s2_11, s2_12, s2_13, s2_14, List.map_nil, List.map_cons, List.sum_nil, List.sum_cons, ct_i_, ct_r_, ct_l_, t_si_, t_sl_, t_sr_, n_si_, n_sl_, n_sr_, i_si_, i_sl_, i_sr_, l_si_, l_sl_, l_sr_, r_si_, r_sl_, r_sr_, vr_s_, vr_n_, nz_0_, nz_1_, PA.R.e, hR'.e, e31, e30, c4, c5, r1, e19]
theorem rcl_go (P : okP t n T w j h) (hx : T[j]? = some x) (x1 : x.1 = 3) (x2 : x.2.1 ≤ 10) (KK : okK g 0 0 o h) (hK : a_i h 126 30 = nI K) (lK : K < 24) (nt : x.2.1 < 5 → ∀ m, m < K → ¬ a_i h 143 m = nI x.2.1) : ∃ h3, okP t n T x.2.1 (j + 1) h3 ∧ okK g 0 0 o h3 ∧ sm h h3 ∧ a_l h3 = a_l h ∧ a_i h3 143 K = nI x.2.1 ∧ a_i h3 144 K = nI g ∧ (∀ p i, ¬ (p = 126 ∧ ((15 ≤ i ∧ i ≤ 18) ∨ i = 31)) → ¬ ((p = 143 ∨ p = 144) ∧ i = K) → a_i h3 p i = a_i h p i) ∧ ∀ Q, Cal (d + 4) mX12_clause [.ref 126] h Q = WP (d + 4) mX12_clause 111 [some (.ref 126)] [] h3 Q := by
  have hR := P.R
  obtain ⟨s1, s2⟩ := tk_3 (P.tk hx).2 x1 (by omega)
  obtain ⟨c1, c2, c3⟩ := rcl_c (y := x.2.1) (by omega)
  obtain ⟨A, eA⟩ : ∃ A, A = s_i h 126 31 (nI x.2.1) := ⟨_, rfl⟩
  have PA : okP t n T x.2.1 j A := by rw [eA]; exact P.wk
  obtain ⟨B, eB⟩ : ∃ B, B = s_i (s_i A 143 K (nI x.2.1)) 144 K (nI g) := ⟨_, rfl⟩
  have PB : okP t n T x.2.1 j B := by rw [eB]; exact PA.fr sm.rf (fun k hk => by rw [ine (by omega), ine (by omega)]) (fun k => by rw [ine (by omega), ine (by omega)])
  have KB : okK g 0 0 o B := by
    obtain ⟨k1, k2, k3, k4, k5⟩ := KK
    rw [eB, eA]
    exact ⟨by rw [ine (by omega), ine (by omega), ine (by omega)]; exact k1, by rw [ine (by omega), ine (by omega), ine (by omega)]; exact k2, by rw [ine (by omega), ine (by omega), ine (by omega)]; exact k3, by rw [ine (by omega), ine (by omega), ine (by omega)]; exact k4, fun i hi => absurd hi (by omega)⟩
  obtain ⟨h3, nx, fr, P3⟩ := rq_next (d := d + 1) PB hx (by omega)
  refine ⟨h3, P3, KB.nx fr, ?_, ?_, ?_, ?_, fun p i n1 n2 => ?_, fun Q => ?_⟩
  · have : sm B h3 := fr.1
    rw [eB, eA] at this
    exact this
  · rw [fr.2.1, eB, eA]; rfl
  · rw [fr.2.2 _ _ (by omega), eB, ine (by omega), ieq rfl rfl]
  · rw [fr.2.2 _ _ (by omega), eB, ieq rfl rfl]
  · rw [fr.2.2 _ _ (by omega), eB, ine (by omega), ine (by omega), eA, ine (by omega)]
  · have s3 : Cal (d + 4) mX12_clause [.ref 126] h Q = WP (d + 4) mX12_clause 31 [some (.ref 126)] [] A Q := by
      rw [eA]
      unfold Cal
      rw [show m_l mX12_clause = 1 from rfl]
      simp only [am_en, am_ag, ct_i, ct_r, ct_l, List.length_cons, List.length_nil, List.replicate]
      simp [w_aload_n0 (M := mX12_clause) dX12_clause_0, w_getI (M := mX12_clause) dX12_clause_1 f_12_274 rfl (by decide) (by decide), w_iconst (M := mX12_clause) (v := 1) dX12_clause_4 rfl, w_ic_ne (M := mX12_clause) (tgt := 17) dX12_clause_5 (by decide), w_aload_n0 (M := mX12_clause) dX12_clause_8, w_getI (M := mX12_clause) dX12_clause_9 f_12_286 rfl (by decide) (by decide), w_bipush (M := mX12_clause) (v := 10) dX12_clause_12 rfl, w_ic_le (M := mX12_clause) (tgt := 23) dX12_clause_14 (by decide), w_aload_n0 (M := mX12_clause) dX12_clause_23, w_aload_n0 (M := mX12_clause) dX12_clause_24, w_getI (M := mX12_clause) dX12_clause_25 f_12_286 rfl (by decide) (by decide), w_putI (M := mX12_clause) dX12_clause_28 f_12_344 rfl (Or.inl rfl), Kn_v_, Kn_n_, kl_i_, kl_a_, kl_l_, kl_n_, s1_0_, s2_0_, s1_1, s1_2, s1_3, s1_4, s1_5, s1_6, s1_7, s1_8, s1_9, s1_10, s1_11, s1_12, s1_13, s1_14, s2_1, s2_2, s2_3, s2_4, s2_5, s2_6, s2_7, s2_8, s2_9, s2_10, s2_11, s2_12, s2_13, s2_14, List.map_nil, List.map_cons, List.sum_nil, List.sum_cons, ct_i_, ct_r_, ct_l_, t_si_, t_sl_, t_sr_, n_si_, n_sl_, n_sr_, i_si_, i_sl_, i_sr_, l_si_, l_sl_, l_sr_, r_si_, r_sl_, r_sr_, vr_s_, vr_n_, nz_0_, nz_1_, hR.e, s1, s2, c1, c2]
    have e31 : a_i A 126 31 = nI x.2.1 := by rw [eA, ieq rfl rfl]
    have e30 : a_i A 126 30 = nI K := by rw [eA, ine (by omega)]; exact hK
    have e19 : a_i A 126 19 = 0 := PA.2.1
    have e37 : a_i A 126 37 = nI g := by rw [eA, ine (by omega)]; exact KK.2.2.2.1
    have y1 : am_in1 (nI K) 24 = True := by rw [in1_n (by omega)]; exact eq_true lK
    have y2 := nI_c (a := K) (by omega)
    have y3 : (nI K = 24) = False := by rw [show (24 : Int32) = nI 24 from rfl, nI_inj (by omega) (by omega)]; exact eq_false (by omega)
    rw [eB] at nx
    rw [s3]
    rcases c3 with ⟨c3, c4, c5⟩ | ⟨c3, c4, c5⟩
    · have wt : ∀ Q, Cal (d + 3) mX12_wasTold [.ref 126, .int (nI x.2.1)] A Q = Q (some (.int 0)) A := fun Q => rq_told0 PA.R e30 (by omega) (fun m lm => by rw [eA, ine (by omega)]; exact nt c3 m lm)
      simp [w_aload_n0 (M := mX12_clause) dX12_clause_31, w_getI (M := mX12_clause) dX12_clause_32 f_12_344 rfl (by decide) (by decide), w_iconst (M := mX12_clause) (v := 4) dX12_clause_35 rfl, w_ic_gt (M := mX12_clause) (tgt := 58) dX12_clause_36 (by decide), w_aload_n0 (M := mX12_clause) dX12_clause_39, w_aload_n0 (M := mX12_clause) dX12_clause_40, w_getI (M := mX12_clause) dX12_clause_41 f_12_344 rfl (by decide) (by decide), c_12_382 (M := mX12_clause) dX12_clause_44 rfl, w_if_eq (M := mX12_clause) (tgt := 58) dX12_clause_47 (by decide), w_aload_n0 (M := mX12_clause) dX12_clause_58, w_getI (M := mX12_clause) dX12_clause_59 f_12_372 rfl (by decide) (by decide), w_bipush (M := mX12_clause) (v := 24) dX12_clause_62 rfl, w_ic_ne (M := mX12_clause) (tgt := 73) dX12_clause_64 (by decide), w_aload_n0 (M := mX12_clause) dX12_clause_73, w_getI (M := mX12_clause) dX12_clause_74 f_12_290 rfl (by decide) (by decide), w_if_le (M := mX12_clause) (tgt := 81) dX12_clause_77 (by decide), w_aload_n0 (M := mX12_clause) dX12_clause_81, w_getA (M := mX12_clause) dX12_clause_82 f_12_66 rfl (by decide) (by decide), w_aload_n0 (M := mX12_clause) dX12_clause_85, w_getI (M := mX12_clause) dX12_clause_86 f_12_372 rfl (by decide) (by decide), w_aload_n0 (M := mX12_clause) dX12_clause_89, w_getI (M := mX12_clause) dX12_clause_90 f_12_344 rfl (by decide) (by decide), w_iastore (M := mX12_clause) dX12_clause_93, w_aload_n0 (M := mX12_clause) dX12_clause_94, w_getA (M := mX12_clause) dX12_clause_95 f_12_69 rfl (by decide) (by decide), w_aload_n0 (M := mX12_clause) dX12_clause_98, w_getI (M := mX12_clause) dX12_clause_99 f_12_372 rfl (by decide) (by decide), w_aload_n0 (M := mX12_clause) dX12_clause_102, w_getI (M := mX12_clause) dX12_clause_103 f_12_296 rfl (by decide) (by decide), w_iastore (M := mX12_clause) dX12_clause_106, w_aload_n0 (M := mX12_clause) dX12_clause_107, c_12_311 (M := mX12_clause) dX12_clause_108 rfl, Kn_v_, Kn_n_, kl_i_, kl_a_, kl_l_, kl_n_, s1_0_, s2_0_, s1_1, s1_2, s1_3, s1_4, s1_5, s1_6, s1_7, s1_8, s1_9, s1_10, s1_11, s1_12, s1_13, s1_14, s2_1, s2_2, s2_3, s2_4, s2_5, s2_6, s2_7, s2_8, s2_9, s2_10, s2_11, s2_12, s2_13, s2_14, List.map_nil, List.map_cons, List.sum_nil, List.sum_cons, ct_i_, ct_r_, ct_l_, t_si_, t_sl_, t_sr_, n_si_, n_sl_, n_sr_, i_si_, i_sl_, i_sr_, l_si_, l_sl_, l_sr_, r_si_, r_sl_, r_sr_, vr_s_, vr_n_, nz_0_, nz_1_, PA.R.e, e31, e30, e19, e37, c4, c5, y1, y2, y3, wt, nx]
    · simp [w_aload_n0 (M := mX12_clause) dX12_clause_31, w_getI (M := mX12_clause) dX12_clause_32 f_12_344 rfl (by decide) (by decide), w_iconst (M := mX12_clause) (v := 4) dX12_clause_35 rfl, w_ic_gt (M := mX12_clause) (tgt := 58) dX12_clause_36 (by decide), w_aload_n0 (M := mX12_clause) dX12_clause_58, w_getI (M := mX12_clause) dX12_clause_59 f_12_372 rfl (by decide) (by decide), w_bipush (M := mX12_clause) (v := 24) dX12_clause_62 rfl, w_ic_ne (M := mX12_clause) (tgt := 73) dX12_clause_64 (by decide), w_aload_n0 (M := mX12_clause) dX12_clause_73, w_getI (M := mX12_clause) dX12_clause_74 f_12_290 rfl (by decide) (by decide), w_if_le (M := mX12_clause) (tgt := 81) dX12_clause_77 (by decide), w_aload_n0 (M := mX12_clause) dX12_clause_81, w_getA (M := mX12_clause) dX12_clause_82 f_12_66 rfl (by decide) (by decide), w_aload_n0 (M := mX12_clause) dX12_clause_85, w_getI (M := mX12_clause) dX12_clause_86 f_12_372 rfl (by decide) (by decide), w_aload_n0 (M := mX12_clause) dX12_clause_89, w_getI (M := mX12_clause) dX12_clause_90 f_12_344 rfl (by decide) (by decide), w_iastore (M := mX12_clause) dX12_clause_93, w_aload_n0 (M := mX12_clause) dX12_clause_94, w_getA (M := mX12_clause) dX12_clause_95 f_12_69 rfl (by decide) (by decide), w_aload_n0 (M := mX12_clause) dX12_clause_98, w_getI (M := mX12_clause) dX12_clause_99 f_12_372 rfl (by decide) (by decide), w_aload_n0 (M := mX12_clause) dX12_clause_102, w_getI (M := mX12_clause) dX12_clause_103 f_12_296 rfl (by decide) (by decide), w_iastore (M := mX12_clause) dX12_clause_106, w_aload_n0 (M := mX12_clause) dX12_clause_107, c_12_311 (M := mX12_clause) dX12_clause_108 rfl, Kn_v_, Kn_n_, kl_i_, kl_a_, kl_l_, kl_n_, s1_0_, s2_0_, s1_1, s1_2, s1_3, s1_4, s1_5, s1_6, s1_7, s1_8, s1_9, s1_10, s1_11, s1_12, s1_13, s1_14, s2_1, s2_2, s2_3, s2_4, s2_5, s2_6, s2_7, s2_8, s2_9, s2_10, s2_11, s2_12, s2_13, s2_14, List.map_nil, List.map_cons, List.sum_nil, List.sum_cons, ct_i_, ct_r_, ct_l_, t_si_, t_sl_, t_sr_, n_si_, n_sl_, n_sr_, i_si_, i_sl_, i_sr_, l_si_, l_sl_, l_sr_, r_si_, r_sl_, r_sr_, vr_s_, vr_n_, nz_0_, nz_1_, PA.R.e, e31, e30, e19, e37, c4, c5, y1, y2, y3, nx]
/-- a law's sum begins -/
theorem rcl_law (P : okP t n T w j h) (lw : w < 5) (KK : okK g 0 0 o h) : ∀ Q, WP (d + 4) mX12_clause 111 [some (.ref 126)] [] h Q = Q none (s_i (pfH h 0 1) 126 28 1) := fun Q => by
  have hR := P.R
  have e31 : a_i h 126 31 = nI w := P.2.2.1
  have c4 : (nI w ≤ 4) = True := by rw [show (4 : Int32) = nI 4 from rfl, nI_lE (by omega) (by omega)]; exact eq_true (by omega)
  have c5 : (4 < nI w) = False := by rw [show (4 : Int32) = nI 4 from rfl]; exact nI_ltF (by omega) (by omega)
  have pu : ∀ Q, Cal (d + 3) mX12_opensFrame [.ref 126, .int 1] h Q = Q none (pfH h 0 1) := fun Q => rq_push hR KK.2.1 (by omega)
  have hR1 := (P.pf (φ := 0) (a := 1)).R
  simp [w_aload_n0 (M := mX12_clause) dX12_clause_111, w_getI (M := mX12_clause) dX12_clause_112 f_12_344 rfl (by decide) (by decide), w_iconst (M := mX12_clause) (v := 4) dX12_clause_115 rfl, w_ic_gt (M := mX12_clause) (tgt := 130) dX12_clause_116 (by decide), w_aload_n0 (M := mX12_clause) dX12_clause_119, w_iconst (M := mX12_clause) (v := 1) dX12_clause_120 rfl, c_12_308 (M := mX12_clause) dX12_clause_121 rfl, w_aload_n0 (M := mX12_clause) dX12_clause_124, w_iconst (M := mX12_clause) (v := 1) dX12_clause_125 rfl, w_putI (M := mX12_clause) dX12_clause_126 f_12_334 rfl (Or.inl rfl), w_vret (M := mX12_clause) dX12_clause_129 rfl, Kn_v_, Kn_n_, kl_i_, kl_a_, kl_l_, kl_n_, s1_0_, s2_0_, s1_1, s1_2, s1_3, s1_4, s1_5, s1_6, s1_7, s1_8, s1_9, s1_10, s1_11, s1_12, s1_13, s1_14, s2_1, s2_2, s2_3, s2_4, s2_5, s2_6, s2_7, s2_8, s2_9, s2_10, s2_11, s2_12, s2_13, s2_14, List.map_nil, List.map_cons, List.sum_nil, List.sum_cons, ct_i_, ct_r_, ct_l_, t_si_, t_sl_, t_sr_, n_si_, n_sl_, n_sr_, i_si_, i_sl_, i_sr_, l_si_, l_sl_, l_sr_, r_si_, r_sl_, r_sr_, vr_s_, vr_n_, nz_0_, nz_1_, hR.e, hR1.e, e31, c4, c5, pu]
theorem rcl_a (P : okP t n T w j h) (lw : 5 ≤ w ∧ w ≤ 10) (dn : ∀ Q, Cal (d + 3) mX12_doing [.ref 126] h Q = Q none h4) : ∀ Q, WP (d + 4) mX12_clause 111 [some (.ref 126)] [] h Q = WP (d + 4) mX12_clause 134 [some (.ref 126)] [] h4 Q := fun Q => by
  have hR := P.R
  have e31 : a_i h 126 31 = nI w := P.2.2.1
  have c4 : (nI w ≤ 4) = False := by rw [show (4 : Int32) = nI 4 from rfl, nI_lE (by omega) (by omega)]; exact eq_false (by omega)
  have c5 : (4 < nI w) = True := by rw [show (4 : Int32) = nI 4 from rfl]; exact nI_ltT (by omega) (by omega)
  simp [w_aload_n0 (M := mX12_clause) dX12_clause_111, w_getI (M := mX12_clause) dX12_clause_112 f_12_344 rfl (by decide) (by decide), w_iconst (M := mX12_clause) (v := 4) dX12_clause_115 rfl, w_ic_gt (M := mX12_clause) (tgt := 130) dX12_clause_116 (by decide), w_aload_n0 (M := mX12_clause) dX12_clause_130, c_12_385 (M := mX12_clause) dX12_clause_131 rfl, Kn_v_, Kn_n_, kl_i_, kl_a_, kl_l_, kl_n_, s1_0_, s2_0_, s1_1, s1_2, s1_3, s1_4, s1_5, s1_6, s1_7, s1_8, s1_9, s1_10, s1_11, s1_12, s1_13, s1_14, s2_1, s2_2, s2_3, s2_4, s2_5, s2_6, s2_7, s2_8, s2_9, s2_10, s2_11, s2_12, s2_13, s2_14, List.map_nil, List.map_cons, List.sum_nil, List.sum_cons, ct_i_, ct_r_, ct_l_, t_si_, t_sl_, t_sr_, n_si_, n_sl_, n_sr_, i_si_, i_sl_, i_sr_, l_si_, l_sl_, l_sr_, r_si_, r_sl_, r_sr_, vr_s_, vr_n_, nz_0_, nz_1_, hR.e, e31, c4, c5, dn]
theorem rcl_a1 (hR : sh_R (a_t h) (a_r h)) (hf : 0 < a_i h 126 19) : ∀ Q, WP (d + 4) mX12_clause 134 [some (.ref 126)] [] h Q = Q none h := fun Q => by
  have nz : ¬ a_i h 126 19 = 0 := fun z => by rw [z] at hf; exact absurd hf (by decide)
  simp [w_aload_n0 (M := mX12_clause) dX12_clause_134, w_getI (M := mX12_clause) dX12_clause_135 f_12_290 rfl (by decide) (by decide), w_if_ne (M := mX12_clause) (tgt := 155) dX12_clause_138 (by decide), w_aload_n0 (M := mX12_clause) dX12_clause_155, w_getI (M := mX12_clause) dX12_clause_156 f_12_290 rfl (by decide) (by decide), w_if_ne (M := mX12_clause) (tgt := 166) dX12_clause_159 (by decide), w_aload_n0 (M := mX12_clause) dX12_clause_162, c_12_369 (M := mX12_clause) dX12_clause_163 rfl, w_vret (M := mX12_clause) dX12_clause_166 rfl, Kn_v_, Kn_n_, kl_i_, kl_a_, kl_l_, kl_n_, s1_0_, s2_0_, s1_1, s1_2, s1_3, s1_4, s1_5, s1_6, s1_7, s1_8, s1_9, s1_10, s1_11, s1_12, s1_13, s1_14, s2_1, s2_2, s2_3, s2_4, s2_5, s2_6, s2_7, s2_8, s2_9, s2_10, s2_11, s2_12, s2_13, s2_14, List.map_nil, List.map_cons, List.sum_nil, List.sum_cons, ct_i_, ct_r_, ct_l_, t_si_, t_sl_, t_sr_, n_si_, n_sl_, n_sr_, i_si_, i_sl_, i_sr_, l_si_, l_sl_, l_sr_, r_si_, r_sl_, r_sr_, vr_s_, vr_n_, nz_0_, nz_1_, hR.e, nz]
theorem rcl_a2 (P : okP t n T w j h) (hx : T[j]? = some x) (x1 : ¬ isS x 59) : ∃ h', (∀ Q, WP (d + 4) mX12_clause 134 [some (.ref 126)] [] h Q = Q none h') ∧ flR 1 (nI x.2.2) h h' := by
  have hR := P.R
  have e19 := P.2.1
  have g59 := rg_sg (d := d + 3) (z := 59) (p := False) P hx (y := 59) (by unfold isg; omega) rfl (by simp; exact x1)
  rw [if_neg (fun z => z)] at g59
  obtain ⟨h', r1, r2⟩ := rq_errs P hx (f := 1) (by decide)
  have hR' : sh_R (a_t h') (a_r h') := by rw [r2.2.1.1, r2.2.1.2.1]; exact hR
  have e19' : a_i h' 126 19 = 1 := r2.2.2.2.1
  refine ⟨h', fun Q => ?_, r2⟩
  simp [w_aload_n0 (M := mX12_clause) dX12_clause_134, w_getI (M := mX12_clause) dX12_clause_135 f_12_290 rfl (by decide) (by decide), w_if_ne (M := mX12_clause) (tgt := 155) dX12_clause_138 (by decide), w_aload_n0 (M := mX12_clause) dX12_clause_141, w_bipush (M := mX12_clause) (v := 59) dX12_clause_142 rfl, c_12_351 (M := mX12_clause) dX12_clause_144 rfl, w_if_ne (M := mX12_clause) (tgt := 155) dX12_clause_147 (by decide), w_aload_n0 (M := mX12_clause) dX12_clause_150, w_iconst (M := mX12_clause) (v := 1) dX12_clause_151 rfl, c_12_305 (M := mX12_clause) dX12_clause_152 rfl, w_aload_n0 (M := mX12_clause) dX12_clause_155, w_getI (M := mX12_clause) dX12_clause_156 f_12_290 rfl (by decide) (by decide), w_if_ne (M := mX12_clause) (tgt := 166) dX12_clause_159 (by decide), w_aload_n0 (M := mX12_clause) dX12_clause_162, c_12_369 (M := mX12_clause) dX12_clause_163 rfl, w_vret (M := mX12_clause) dX12_clause_166 rfl, Kn_v_, Kn_n_, kl_i_, kl_a_, kl_l_, kl_n_, s1_0_, s2_0_, s1_1, s1_2, s1_3, s1_4, s1_5, s1_6, s1_7, s1_8, s1_9, s1_10, s1_11, s1_12, s1_13, s1_14, s2_1, s2_2, s2_3, s2_4, s2_5, s2_6, s2_7, s2_8, s2_9, s2_10, s2_11, s2_12, s2_13, s2_14, List.map_nil, List.map_cons, List.sum_nil, List.sum_cons, ct_i_, ct_r_, ct_l_, t_si_, t_sl_, t_sr_, n_si_, n_sl_, n_sr_, i_si_, i_sl_, i_sr_, l_si_, l_sl_, l_sr_, r_si_, r_sl_, r_sr_, vr_s_, vr_n_, nz_0_, nz_1_, hR.e, hR'.e, e19, e19', g59, r1]
theorem rcl_a3 (P : okP t n T w j h) (hx : T[j]? = some x) (x1 : isS x 59) (ov : ∀ Q, Cal (d + 3) mX12_clauseIsOver [.ref 126] h Q = Q none h5) : ∀ Q, WP (d + 4) mX12_clause 134 [some (.ref 126)] [] h Q = Q none h5 := fun Q => by
  have hR := P.R
  have e19 := P.2.1
  have g59 := rg_sg (d := d + 3) (z := 59) (p := True) P hx (y := 59) (by unfold isg; omega) rfl (by simp; exact x1)
  rw [if_pos trivial] at g59
  simp [w_aload_n0 (M := mX12_clause) dX12_clause_134, w_getI (M := mX12_clause) dX12_clause_135 f_12_290 rfl (by decide) (by decide), w_if_ne (M := mX12_clause) (tgt := 155) dX12_clause_138 (by decide), w_aload_n0 (M := mX12_clause) dX12_clause_141, w_bipush (M := mX12_clause) (v := 59) dX12_clause_142 rfl, c_12_351 (M := mX12_clause) dX12_clause_144 rfl, w_if_ne (M := mX12_clause) (tgt := 155) dX12_clause_147 (by decide), w_aload_n0 (M := mX12_clause) dX12_clause_150, w_iconst (M := mX12_clause) (v := 1) dX12_clause_151 rfl, c_12_305 (M := mX12_clause) dX12_clause_152 rfl, w_aload_n0 (M := mX12_clause) dX12_clause_155, w_getI (M := mX12_clause) dX12_clause_156 f_12_290 rfl (by decide) (by decide), w_if_ne (M := mX12_clause) (tgt := 166) dX12_clause_159 (by decide), w_aload_n0 (M := mX12_clause) dX12_clause_162, c_12_369 (M := mX12_clause) dX12_clause_163 rfl, w_vret (M := mX12_clause) dX12_clause_166 rfl, Kn_v_, Kn_n_, kl_i_, kl_a_, kl_l_, kl_n_, s1_0_, s2_0_, s1_1, s1_2, s1_3, s1_4, s1_5, s1_6, s1_7, s1_8, s1_9, s1_10, s1_11, s1_12, s1_13, s1_14, s2_1, s2_2, s2_3, s2_4, s2_5, s2_6, s2_7, s2_8, s2_9, s2_10, s2_11, s2_12, s2_13, s2_14, List.map_nil, List.map_cons, List.sum_nil, List.sum_cons, ct_i_, ct_r_, ct_l_, t_si_, t_sl_, t_sr_, n_si_, n_sl_, n_sr_, i_si_, i_sl_, i_sr_, l_si_, l_sl_, l_sr_, r_si_, r_sl_, r_sr_, vr_s_, vr_n_, nz_0_, nz_1_, hR.e, e19, g59, ov]
/-- a law's clause is over -/
theorem go_over (v : veq k h h2) (lk : 1 ≤ k) (P : okP t n T w j h2) (hx : T[j]? = some x) (KK : okK g 1 0 o h2) (hs : a_i h2 126 28 = 2) (ht : a_i h2 138 0 = 1) (x1 : isS x 59) (hK : a_i h2 126 30 = nI K) (lg : g < 400) (lK : K < 100) : ∃ h', okP t n T w (j + 1) h' ∧ okK (g + 1) 0 0 o h' ∧ a_i h' 126 28 = 4 ∧ a_i h' 126 30 = nI (K + 1) ∧ a_i h' 148 g = 408 ∧ sm h2 h' ∧ a_l h' = a_l h2 ∧ (∀ p i, ¬ (p = 126 ∧ ((15 ≤ i ∧ i ≤ 18) ∨ i = 22 ∨ i = 28 ∨ i = 30 ∨ i = 37)) → ¬ ((p = 148 ∨ p = 149) ∧ i = g) → a_i h' p i = a_i h2 p i) ∧ ∀ Q, LPH d h Q = LPH d h' Q := by
  have P1 := v.P P
  have hR := P1.R
  have ht1 : a_i h 138 0 = 1 := (v.e (by omega) (by omega)).trans ht
  have pre := go_pre (d := d) (m := 0) P1 hx ((v.e (by omega) (by omega)).trans KK.2.1) (by omega) (by unfold isOp; unfold isS at x1 ⊢; omega)
  rw [ht1] at pre
  have W : ∀ Q, Cal (d + 7) mX12_works [.ref 126, .int 1] h Q = Q none h2 := fun Q => by
    have z := v.2.2.2 (d + 6) 1 lk Q
    rw [works_stop (k := 1) P.R KK (fun m e => absurd e (by omega)) (by omega) (by omega) (Nat.le_refl _) (by omega)] at z
    exact z
  obtain ⟨h', r1, r2, r3, r4, r5, r6, r7, r8, r9⟩ := rq_over (d := d + 4) hR W P hx (by have := x1.1; omega) KK hK lg lK
  have g59 := rg_sg (d := d + 8) (z := 59) (p := True) P1 hx (y := 59) (by unfold isg; omega) rfl (by simp; exact x1)
  rw [if_pos trivial] at g59
  refine ⟨h', r2, r3, r4, r5, r6, r7, r8, r9, fun Q => lp_2 hR P1.2.1 ((v.e (by omega) (by omega)).trans hs) (fun Q => ?_)⟩
  rw [pre]
  simp [w_iload_n1 (M := mX12_goesOn) dX12_goesOn_65, w_bipush (M := mX12_goesOn) (v := 6) dX12_goesOn_66 rfl, w_ic_ne (M := mX12_goesOn) (tgt := 116) dX12_goesOn_68 (by decide), w_iload_n1 (M := mX12_goesOn) dX12_goesOn_116, w_bipush (M := mX12_goesOn) (v := 8) dX12_goesOn_117 rfl, w_ic_ne (M := mX12_goesOn) (tgt := 148) dX12_goesOn_119 (by decide), w_iload_n1 (M := mX12_goesOn) dX12_goesOn_148, w_bipush (M := mX12_goesOn) (v := 9) dX12_goesOn_149 rfl, w_ic_ne (M := mX12_goesOn) (tgt := 217) dX12_goesOn_151 (by decide), w_iload_n1 (M := mX12_goesOn) dX12_goesOn_217, w_iconst (M := mX12_goesOn) (v := 4) dX12_goesOn_218 rfl, w_ic_ne (M := mX12_goesOn) (tgt := 282) dX12_goesOn_219 (by decide), w_iload_n1 (M := mX12_goesOn) dX12_goesOn_282, w_iconst (M := mX12_goesOn) (v := 5) dX12_goesOn_283 rfl, w_ic_ne (M := mX12_goesOn) (tgt := 325) dX12_goesOn_284 (by decide), w_iload_n1 (M := mX12_goesOn) dX12_goesOn_325, w_iconst (M := mX12_goesOn) (v := 1) dX12_goesOn_326 rfl, w_ic_ne (M := mX12_goesOn) (tgt := 346) dX12_goesOn_327 (by decide), w_aload_n0 (M := mX12_goesOn) dX12_goesOn_330, w_bipush (M := mX12_goesOn) (v := 59) dX12_goesOn_331 rfl, c_12_351 (M := mX12_goesOn) dX12_goesOn_333 rfl, w_if_eq (M := mX12_goesOn) (tgt := 346) dX12_goesOn_336 (by decide), w_aload_n0 (M := mX12_goesOn) dX12_goesOn_339, c_12_369 (M := mX12_goesOn) dX12_goesOn_340 rfl, w_goto (M := mX12_goesOn) (tgt := 351) dX12_goesOn_343 (by decide), w_vret (M := mX12_goesOn) dX12_goesOn_351 rfl, Kn_v_, Kn_n_, kl_i_, kl_a_, kl_l_, kl_n_, s1_0_, s2_0_, s1_1, s1_2, s1_3, s1_4, s1_5, s1_6, s1_7, s1_8, s1_9, s1_10, s1_11, s1_12, s1_13, s1_14, s2_1, s2_2, s2_3, s2_4, s2_5, s2_6, s2_7, s2_8, s2_9, s2_10, s2_11, s2_12, s2_13, s2_14, List.map_nil, List.map_cons, List.sum_nil, List.sum_cons, ct_i_, ct_r_, ct_l_, t_si_, t_sl_, t_sr_, n_si_, n_sl_, n_sr_, i_si_, i_sl_, i_sr_, l_si_, l_sl_, l_sr_, r_si_, r_sl_, r_sr_, vr_s_, vr_n_, nz_0_, nz_1_, hR.e, g59, r1]
end RCLAUSE2
