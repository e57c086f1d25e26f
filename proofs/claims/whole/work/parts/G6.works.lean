/-! the other side: orders, what waits, frames -/
section WORKS
variable {d n g j φ ω o w y m k r op F : Nat} {h h' h'' h2 : am_h} {Q : Option Value → am_h → Prop} {f s a b : Int32} {T : List (Nat × Nat × Nat)} {x : Nat × Nat × Nat} {t : Nat → Nat}
/-- an order more -/
def emR (h : am_h) (g : Nat) (a b : Int32) : am_h := s_i (s_i (s_i h 148 g a) 149 g b) 126 37 (nI (g + 1))
theorem rq_emit (hR : sh_R (a_t h) (a_r h)) (hg : a_i h 126 37 = nI g) (lg : g < 400) : Cal d mX12_emits [.ref 126, .int a, .int b] h Q = Q none (emR h g a b) := by
  rw [q_X12_emits (eq_true hR), hg, nI_c (by omega), show nI g + 1 = nI (g + 1) from nI_a (b := 1)]
  have p := of_eq_true (nI_p (a := g) (by omega))
  exact propext ⟨fun z => z.2, fun z => ⟨⟨p, lg⟩, z⟩⟩
theorem emR_i {p i : Nat} (n1 : ¬ (p = 126 ∧ i = 37)) (n2 : ¬ ((p = 148 ∨ p = 149) ∧ i = g)) : a_i (emR h g a b) p i = a_i h p i := by
  unfold emR
  rw [ine n1, ine (by omega), ine (by omega)]
theorem emR_o : a_i (emR h g a b) 148 g = a ∧ a_i (emR h g a b) 149 g = b ∧ a_i (emR h g a b) 126 37 = nI (g + 1) := by
  unfold emR
  refine ⟨?_, ?_, ?_⟩
  · rw [ine (by omega), ine (by omega), ieq rfl rfl]
  · rw [ine (by omega), ieq rfl rfl]
  · rw [ieq rfl rfl]
theorem emR_s : sm h (emR h g a b) := sm.rf
theorem emR_F : rF φ ω g h (emR h g a b) := ⟨emR_s, rfl, fun p j n1 _ _ _ _ n6 => emR_i (by omega) (by omega)⟩
theorem okP.em (K : okP t n T w j h) : okP t n T w j (emR h g a b) := K.fr emR_s (fun k hk => emR_i (by omega) (by omega)) (fun k => emR_i (by omega) (by omega))
theorem okK.em (K : okK g φ ω o h) : okK (g + 1) φ ω o (emR h g a b) := by
  obtain ⟨k1, k2, k3, k4, k5⟩ := K
  exact ⟨by rw [emR_i (by omega) (by omega)]; exact k1, by rw [emR_i (by omega) (by omega)]; exact k2, by rw [emR_i (by omega) (by omega)]; exact k3, emR_o.2.2, fun i hi => by rw [emR_i (by omega) (by omega)]; exact k5 i hi⟩
def rkN (op : Nat) : Nat := if op = 407 then 1 else if op = 406 then 2 else if op = 43 ∨ op = 45 then 3 else 4
theorem rq_rank (hR : sh_R (a_t h) (a_r h)) (ho : op < 1000) : Cal d mX12_rank [.int (nI op)] h Q = Q (some (.int (nI (rkN op)))) h := by
  have e : ∀ c, c < 1000 → (nI op = nI c) = (op = c) := fun c hc => nI_inj (by omega) (by omega)
  have e1 : (nI op = 407) = (op = 407) := e 407 (by omega)
  have e2 : (nI op = 406) = (op = 406) := e 406 (by omega)
  have e3 : (nI op = 43) = (op = 43) := e 43 (by omega)
  have e4 : (nI op = 45) = (op = 45) := e 45 (by omega)
  rw [q_X12_rank (eq_true hR)]
  unfold rkN
  by_cases c1 : op = 407
  · rw [if_pos (of_eq_true (e1.trans (eq_true c1))), if_pos c1]; rfl
  rw [if_neg (fun z => c1 (e1.mp z)), if_neg c1]
  by_cases c2 : op = 406
  · rw [if_pos (of_eq_true (e2.trans (eq_true c2))), if_pos c2]; rfl
  rw [if_neg (fun z => c2 (e2.mp z)), if_neg c2]
  by_cases c3 : op = 43
  · rw [if_pos (of_eq_true (e3.trans (eq_true c3))), if_pos (Or.inl c3)]; rfl
  rw [if_neg (fun z => c3 (e3.mp z))]
  by_cases c4 : op = 45
  · rw [if_pos (of_eq_true (e4.trans (eq_true c4))), if_pos (Or.inr c4)]; rfl
  rw [if_neg (fun z => c4 (e4.mp z)), if_neg (by omega)]
  rfl
/-- works(k) has nothing to do -/
def stp (k φ ω : Nat) (h : am_h) : Prop := ∀ m, ω = m + 1 → (∃ z, z < φ ∧ a_i h 141 m = nI z) ∨ ∃ op, op < 1000 ∧ rkN op < k ∧ a_i h 140 m = nI op ∧ a_i h 141 m = nI φ
theorem works_stop (hR : sh_R (a_t h) (a_r h)) (K : okK g φ ω o h) (S : stp k φ ω h) (lw : ω ≤ 80) (lf : φ ≤ 40) (lk : k ≤ r) (lr : r < 10) : Cal (d + 1) mX12_works [.ref 126, .int (nI r)] h Q = Q none h := by
  obtain ⟨k1, k2, k3, k4, k5⟩ := K
  unfold Cal
  rw [show m_l mX12_works = 2 from rfl]
  simp only [am_en, am_ag, ct_i, ct_r, ct_l, List.length_cons, List.length_nil, List.replicate]
  cases ω with
  | zero =>
    have c1 : (nI 0 ≤ 0) = True := by decide
    have c2 : (0 < nI 0) = False := by decide
    simp [w_aload_n0 (M := mX12_works) dX12_works_0, w_getI (M := mX12_works) dX12_works_1 f_12_314 rfl (by decide) (by decide), w_if_le (M := mX12_works) (tgt := 70) dX12_works_4 (by decide), w_vret (M := mX12_works) dX12_works_70 rfl, Kn_v_, Kn_n_, kl_i_, kl_a_, kl_l_, kl_n_, s1_0_, s2_0_, s1_1, s1_2, s1_3, s1_4, s1_5, s1_6, s1_7, s1_8, s1_9, s1_10, s1_11, s1_12, s1_13, s1_14, s2_1, s2_2, s2_3, s2_4, s2_5, s2_6, s2_7, s2_8, s2_9, s2_10, s2_11, s2_12, s2_13, s2_14, List.map_nil, List.map_cons, List.sum_nil, List.sum_cons, ct_i_, ct_r_, ct_l_, t_si_, t_sl_, t_sr_, n_si_, n_sl_, n_sr_, i_si_, i_sl_, i_sr_, l_si_, l_sl_, l_sr_, r_si_, r_sl_, r_sr_, vr_s_, vr_n_, nz_0_, nz_1_, hR.e, k3, c1, c2]
  | succ m =>
    have c1 : (nI (m + 1) ≤ 0) = False := by rw [show (0 : Int32) = nI 0 from rfl, nI_lE (by omega) (by omega)]; exact eq_false (by omega)
    have c2 : (0 < nI (m + 1)) = True := by rw [show (0 : Int32) = nI 0 from rfl]; exact nI_ltT (by omega) (by omega)
    have x1 : am_in1 (nI m) 80 = True := by rw [in1_n (by omega)]; exact eq_true (by omega)
    have x2 := nI_c (a := m) (by omega)
    have x3 : nI (m + 1) - 1 = nI m := nI_sb (b := 1) (by omega)
    rcases S m rfl with ⟨z, z1, z2⟩ | ⟨op, z1, z2, z3, z4⟩
    · have ne : (nI z = nI φ) = False := by rw [nI_inj (by omega) (by omega)]; exact eq_false (by omega)
      simp [w_aload_n0 (M := mX12_works) dX12_works_0, w_getI (M := mX12_works) dX12_works_1 f_12_314 rfl (by decide) (by decide), w_if_le (M := mX12_works) (tgt := 70) dX12_works_4 (by decide), w_aload_n0 (M := mX12_works) dX12_works_7, w_getA (M := mX12_works) dX12_works_8 f_12_60 rfl (by decide) (by decide), w_aload_n0 (M := mX12_works) dX12_works_11, w_getI (M := mX12_works) dX12_works_12 f_12_314 rfl (by decide) (by decide), w_iconst (M := mX12_works) (v := 1) dX12_works_15 rfl, w_isub (M := mX12_works) dX12_works_16, w_iaload (M := mX12_works) dX12_works_17, w_aload_n0 (M := mX12_works) dX12_works_18, w_getI (M := mX12_works) dX12_works_19 f_12_299 rfl (by decide) (by decide), w_ic_ne (M := mX12_works) (tgt := 70) dX12_works_22 (by decide), w_vret (M := mX12_works) dX12_works_70 rfl, Kn_v_, Kn_n_, kl_i_, kl_a_, kl_l_, kl_n_, s1_0_, s2_0_, s1_1, s1_2, s1_3, s1_4, s1_5, s1_6, s1_7, s1_8, s1_9, s1_10, s1_11, s1_12, s1_13, s1_14, s2_1, s2_2, s2_3, s2_4, s2_5, s2_6, s2_7, s2_8, s2_9, s2_10, s2_11, s2_12, s2_13, s2_14, List.map_nil, List.map_cons, List.sum_nil, List.sum_cons, ct_i_, ct_r_, ct_l_, t_si_, t_sl_, t_sr_, n_si_, n_sl_, n_sr_, i_si_, i_sl_, i_sr_, l_si_, l_sl_, l_sr_, r_si_, r_sl_, r_sr_, vr_s_, vr_n_, nz_0_, nz_1_, hR.e, k2, k3, c1, c2, x1, x2, x3, z2, ne]
    · have rk : ∀ Q, Cal d mX12_rank [.int (nI op)] h Q = Q (some (.int (nI (rkN op)))) h := fun Q => rq_rank hR z1
      have l1 : (nI (rkN op) < nI r) = True := nI_ltT (by omega) (by omega)
      have l2 : (nI r ≤ nI (rkN op)) = False := by rw [nI_lE (by omega) (by omega)]; exact eq_false (by omega)
      simp [w_aload_n0 (M := mX12_works) dX12_works_0, w_getI (M := mX12_works) dX12_works_1 f_12_314 rfl (by decide) (by decide), w_if_le (M := mX12_works) (tgt := 70) dX12_works_4 (by decide), w_aload_n0 (M := mX12_works) dX12_works_7, w_getA (M := mX12_works) dX12_works_8 f_12_60 rfl (by decide) (by decide), w_aload_n0 (M := mX12_works) dX12_works_11, w_getI (M := mX12_works) dX12_works_12 f_12_314 rfl (by decide) (by decide), w_iconst (M := mX12_works) (v := 1) dX12_works_15 rfl, w_isub (M := mX12_works) dX12_works_16, w_iaload (M := mX12_works) dX12_works_17, w_aload_n0 (M := mX12_works) dX12_works_18, w_getI (M := mX12_works) dX12_works_19 f_12_299 rfl (by decide) (by decide), w_ic_ne (M := mX12_works) (tgt := 70) dX12_works_22 (by decide), w_aload_n0 (M := mX12_works) dX12_works_25, w_getA (M := mX12_works) dX12_works_26 f_12_57 rfl (by decide) (by decide), w_aload_n0 (M := mX12_works) dX12_works_29, w_getI (M := mX12_works) dX12_works_30 f_12_314 rfl (by decide) (by decide), w_iconst (M := mX12_works) (v := 1) dX12_works_33 rfl, w_isub (M := mX12_works) dX12_works_34, w_iaload (M := mX12_works) dX12_works_35, c_12_317 (M := mX12_works) dX12_works_36 rfl, w_iload_n1 (M := mX12_works) dX12_works_39, w_ic_lt (M := mX12_works) (tgt := 70) dX12_works_40 (by decide), w_vret (M := mX12_works) dX12_works_70 rfl, Kn_v_, Kn_n_, kl_i_, kl_a_, kl_l_, kl_n_, s1_0_, s2_0_, s1_1, s1_2, s1_3, s1_4, s1_5, s1_6, s1_7, s1_8, s1_9, s1_10, s1_11, s1_12, s1_13, s1_14, s2_1, s2_2, s2_3, s2_4, s2_5, s2_6, s2_7, s2_8, s2_9, s2_10, s2_11, s2_12, s2_13, s2_14, List.map_nil, List.map_cons, List.sum_nil, List.sum_cons, ct_i_, ct_r_, ct_l_, t_si_, t_sl_, t_sr_, n_si_, n_sl_, n_sr_, i_si_, i_sl_, i_sr_, l_si_, l_sl_, l_sr_, r_si_, r_sl_, r_sr_, vr_s_, vr_n_, nz_0_, nz_1_, hR.e, k2, k3, c1, c2, x1, x2, x3, z3, z4, rk, l1, l2]
/-- the last that waits is an order now -/
def popH (h : am_h) (ω g op : Nat) : am_h := emR (s_i h 126 25 (nI ω)) g (nI op) 0
theorem works_pop (hR : sh_R (a_t h) (a_r h)) (K : okK g φ (ω + 1) o h) (lo : op < 1000) (z3 : a_i h 140 ω = nI op) (z4 : a_i h 141 ω = nI φ) (lr : r ≤ rkN op) (lw : ω < 80) (lg : g < 400) : Cal (d + 1) mX12_works [.ref 126, .int (nI r)] h Q = Cal (d + 1) mX12_works [.ref 126, .int (nI r)] (popH h ω g op) Q := by
  obtain ⟨k1, k2, k3, k4, k5⟩ := K
  have c1 : (nI (ω + 1) ≤ 0) = False := by rw [show (0 : Int32) = nI 0 from rfl, nI_lE (by omega) (by omega)]; exact eq_false (by omega)
  have c2 : (0 < nI (ω + 1)) = True := by rw [show (0 : Int32) = nI 0 from rfl]; exact nI_ltT (by omega) (by omega)
  have x1 : am_in1 (nI ω) 80 = True := by rw [in1_n (by omega)]; exact eq_true (by omega)
  have x2 := nI_c (a := ω) (by omega)
  have x3 : nI (ω + 1) - 1 = nI ω := nI_sb (b := 1) (by omega)
  have rb : rkN op < 10 := by unfold rkN; split <;> (try split) <;> (try split) <;> omega
  have rk : ∀ Q, Cal d mX12_rank [.int (nI op)] h Q = Q (some (.int (nI (rkN op)))) h := fun Q => rq_rank hR lo
  have l1 : (nI (rkN op) < nI r) = False := nI_ltF (by omega) (by omega)
  have l2 : (nI r ≤ nI (rkN op)) = True := by rw [nI_lE (by omega) (by omega)]; exact eq_true (by omega)
  have em : ∀ Q, Cal d mX12_emits [.ref 126, .int (nI op), .int 0] (s_i h 126 25 (nI ω)) Q = Q none (emR (s_i h 126 25 (nI ω)) g (nI op) 0) := fun Q => rq_emit hR (by rw [ine (by omega)]; exact k4) lg
  have s1 : WP (d + 1) mX12_works 0 [some (.ref 126), some (.int (nI r))] [] h Q = WP (d + 1) mX12_works 67 [some (.ref 126), some (.int (nI r))] [] (popH h ω g op) Q := by
    unfold popH
    simp [w_aload_n0 (M := mX12_works) dX12_works_0, w_getI (M := mX12_works) dX12_works_1 f_12_314 rfl (by decide) (by decide), w_if_le (M := mX12_works) (tgt := 70) dX12_works_4 (by decide), w_aload_n0 (M := mX12_works) dX12_works_7, w_getA (M := mX12_works) dX12_works_8 f_12_60 rfl (by decide) (by decide), w_aload_n0 (M := mX12_works) dX12_works_11, w_getI (M := mX12_works) dX12_works_12 f_12_314 rfl (by decide) (by decide), w_iconst (M := mX12_works) (v := 1) dX12_works_15 rfl, w_isub (M := mX12_works) dX12_works_16, w_iaload (M := mX12_works) dX12_works_17, w_aload_n0 (M := mX12_works) dX12_works_18, w_getI (M := mX12_works) dX12_works_19 f_12_299 rfl (by decide) (by decide), w_ic_ne (M := mX12_works) (tgt := 70) dX12_works_22 (by decide), w_aload_n0 (M := mX12_works) dX12_works_25, w_getA (M := mX12_works) dX12_works_26 f_12_57 rfl (by decide) (by decide), w_aload_n0 (M := mX12_works) dX12_works_29, w_getI (M := mX12_works) dX12_works_30 f_12_314 rfl (by decide) (by decide), w_iconst (M := mX12_works) (v := 1) dX12_works_33 rfl, w_isub (M := mX12_works) dX12_works_34, w_iaload (M := mX12_works) dX12_works_35, c_12_317 (M := mX12_works) dX12_works_36 rfl, w_iload_n1 (M := mX12_works) dX12_works_39, w_ic_lt (M := mX12_works) (tgt := 70) dX12_works_40 (by decide), w_aload_n0 (M := mX12_works) dX12_works_43, w_dup_int (M := mX12_works) dX12_works_44, w_dup_ref (M := mX12_works) dX12_works_44, w_getI (M := mX12_works) dX12_works_45 f_12_314 rfl (by decide) (by decide), w_iconst (M := mX12_works) (v := 1) dX12_works_48 rfl, w_isub (M := mX12_works) dX12_works_49, w_putI (M := mX12_works) dX12_works_50 f_12_314 rfl (Or.inl rfl), w_aload_n0 (M := mX12_works) dX12_works_53, w_aload_n0 (M := mX12_works) dX12_works_54, w_getA (M := mX12_works) dX12_works_55 f_12_57 rfl (by decide) (by decide), w_aload_n0 (M := mX12_works) dX12_works_58, w_getI (M := mX12_works) dX12_works_59 f_12_314 rfl (by decide) (by decide), w_iaload (M := mX12_works) dX12_works_62, w_iconst (M := mX12_works) (v := 0) dX12_works_63 rfl, c_12_321 (M := mX12_works) dX12_works_64 rfl, Kn_v_, Kn_n_, kl_i_, kl_a_, kl_l_, kl_n_, s1_0_, s2_0_, s1_1, s1_2, s1_3, s1_4, s1_5, s1_6, s1_7, s1_8, s1_9, s1_10, s1_11, s1_12, s1_13, s1_14, s2_1, s2_2, s2_3, s2_4, s2_5, s2_6, s2_7, s2_8, s2_9, s2_10, s2_11, s2_12, s2_13, s2_14, List.map_nil, List.map_cons, List.sum_nil, List.sum_cons, ct_i_, ct_r_, ct_l_, t_si_, t_sl_, t_sr_, n_si_, n_sl_, n_sr_, i_si_, i_sl_, i_sr_, l_si_, l_sl_, l_sr_, r_si_, r_sl_, r_sr_, vr_s_, vr_n_, nz_0_, nz_1_, hR.e, k2, k3, c1, c2, x1, x2, x3, z3, z4, rk, l1, l2, em]
  have s2 : WP (d + 1) mX12_works 67 [some (.ref 126), some (.int (nI r))] [] (popH h ω g op) Q = WP (d + 1) mX12_works 0 [some (.ref 126), some (.int (nI r))] [] (popH h ω g op) Q := by
    rw [w_goto (M := mX12_works) (tgt := 0) dX12_works_67 (by decide)]
  exact s1.trans s2
theorem popH_i {p i : Nat} (n1 : ¬ (p = 126 ∧ (i = 25 ∨ i = 37))) (n2 : ¬ ((p = 148 ∨ p = 149) ∧ i = g)) : a_i (popH h ω g op) p i = a_i h p i := by
  unfold popH
  rw [emR_i (by omega) n2, ine (by omega)]
theorem popH_o : a_i (popH h ω g op) 148 g = nI op ∧ a_i (popH h ω g op) 149 g = 0 ∧ a_i (popH h ω g op) 126 37 = nI (g + 1) ∧ a_i (popH h ω g op) 126 25 = nI ω := by
  unfold popH
  refine ⟨emR_o.1, emR_o.2.1, emR_o.2.2, ?_⟩
  rw [emR_i (by omega) (by omega), ieq rfl rfl]
theorem popH_s : sm h (popH h ω g op) := sm.rf
theorem popH_F : rF φ ω g h (popH h ω g op) := ⟨popH_s, rfl, fun p j n1 _ _ _ _ n6 => popH_i (by omega) (by omega)⟩
theorem okP.po (K : okP t n T w j h) : okP t n T w j (popH h ω g op) := K.fr popH_s (fun k hk => popH_i (by omega) (by omega)) (fun k => popH_i (by omega) (by omega))
theorem okK.po (K : okK g φ (ω + 1) o h) : okK (g + 1) φ ω o (popH h ω g op) := by
  obtain ⟨k1, k2, k3, k4, k5⟩ := K
  exact ⟨by rw [popH_i (by omega) (by omega)]; exact k1, by rw [popH_i (by omega) (by omega)]; exact k2, popH_o.2.2.2, popH_o.2.2.1, fun i hi => by rw [popH_i (by omega) (by omega)]; exact k5 i (by omega)⟩
/-- alike but for what waits: works(r) makes them the same -/
def veq (k : Nat) (h1 h2 : am_h) : Prop := sm h1 h2 ∧ a_l h2 = a_l h1 ∧ (∀ p j, ¬ (p = 126 ∧ (j = 25 ∨ j = 37)) → ¬ (p = 148 ∨ p = 149) → a_i h2 p j = a_i h1 p j) ∧ ∀ d r, r ≤ k → ∀ Q, Cal (d + 1) mX12_works [.ref 126, .int (nI r)] h1 Q = Cal (d + 1) mX12_works [.ref 126, .int (nI r)] h2 Q
theorem veq.rf : veq k h h := ⟨sm.rf, rfl, fun _ _ _ _ => rfl, fun _ _ _ _ => rfl⟩
theorem veq.tr (a1 : veq k h h') (a2 : veq m h' h'') (l : m ≤ k) : veq m h h'' := ⟨a1.1.tr a2.1, a2.2.1.trans a1.2.1, fun p j n1 n2 => (a2.2.2.1 p j n1 n2).trans (a1.2.2.1 p j n1 n2), fun d r lr Q => (a1.2.2.2 d r (by omega) Q).trans (a2.2.2.2 d r lr Q)⟩
theorem veq.lo (a1 : veq k h h') (l : m ≤ k) : veq m h h' := ⟨a1.1, a1.2.1, a1.2.2.1, fun d r lr Q => a1.2.2.2 d r (by omega) Q⟩
theorem veq.pop (hR : sh_R (a_t h) (a_r h)) (K : okK g φ (ω + 1) o h) (lo : op < 1000) (z3 : a_i h 140 ω = nI op) (z4 : a_i h 141 ω = nI φ) (lw : ω < 80) (lg : g < 400) : veq (rkN op) h (popH h ω g op) := ⟨popH_s, rfl, fun p j n1 n2 => popH_i n1 (by omega), fun d r lr Q => works_pop hR K lo z3 z4 lr lw lg⟩
theorem veq.P (v : veq k h h') (K : okP t n T w j h') : okP t n T w j h := by
  refine K.fr ⟨v.1.1.symm, v.1.2.1.symm, v.1.2.2.symm⟩ (fun i hi => (v.2.2.1 _ _ (by omega) (by omega)).symm) (fun i => (v.2.2.1 _ _ (by omega) (by omega)).symm)
/-! frames -/
theorem rq_top (hR : sh_R (a_t h) (a_r h)) (hf : a_i h 126 22 = nI (m + 1)) (lm : m < 40) : Cal d mX12_top [.ref 126] h Q = Q (some (.int (a_i h 138 m))) h := by
  rw [q_X12_top (eq_true hR), hf, show nI (m + 1) - 1 = nI m from nI_sb (b := 1) (by omega), nI_c (by omega)]
  have p := of_eq_true (nI_p (a := m) (by omega))
  exact propext ⟨fun z => z.2, fun z => ⟨⟨p, lm⟩, z⟩⟩
theorem one_stop (hR : sh_R (a_t h) (a_r h)) (hf : a_i h 126 22 = nI (m + 1)) (lm : m < 40) (ht : ¬ a_i h 138 m = 7) : Cal (d + 1) mX12_oneIsOver [.ref 126] h Q = Q none (s_i h 126 28 2) := by
  have tp : ∀ Q, Cal d mX12_top [.ref 126] h Q = Q (some (.int (a_i h 138 m))) h := fun Q => rq_top hR hf lm
  unfold Cal
  rw [show m_l mX12_oneIsOver = 1 from rfl]
  simp only [am_en, am_ag, ct_i, ct_r, ct_l, List.length_cons, List.length_nil, List.replicate]
  simp [w_aload_n0 (M := mX12_oneIsOver) dX12_oneIsOver_0, c_12_354 (M := mX12_oneIsOver) dX12_oneIsOver_1 rfl, w_bipush (M := mX12_oneIsOver) (v := 7) dX12_oneIsOver_4 rfl, w_ic_ne (M := mX12_oneIsOver) (tgt := 40) dX12_oneIsOver_6 (by decide), w_aload_n0 (M := mX12_oneIsOver) dX12_oneIsOver_40, w_iconst (M := mX12_oneIsOver) (v := 2) dX12_oneIsOver_41 rfl, w_putI (M := mX12_oneIsOver) dX12_oneIsOver_42 f_12_334 rfl (Or.inl rfl), w_vret (M := mX12_oneIsOver) dX12_oneIsOver_45 rfl, Kn_v_, Kn_n_, kl_i_, kl_a_, kl_l_, kl_n_, s1_0_, s2_0_, s1_1, s1_2, s1_3, s1_4, s1_5, s1_6, s1_7, s1_8, s1_9, s1_10, s1_11, s1_12, s1_13, s1_14, s2_1, s2_2, s2_3, s2_4, s2_5, s2_6, s2_7, s2_8, s2_9, s2_10, s2_11, s2_12, s2_13, s2_14, List.map_nil, List.map_cons, List.sum_nil, List.sum_cons, ct_i_, ct_r_, ct_l_, t_si_, t_sl_, t_sr_, n_si_, n_sl_, n_sr_, i_si_, i_sl_, i_sr_, l_si_, l_sl_, l_sr_, r_si_, r_sl_, r_sr_, vr_s_, vr_n_, nz_0_, nz_1_, hR.e, tp, ht]
/-- the last that is begun is closed -/
def clH (h : am_h) (m o : Nat) : am_h := s_i (s_i h 126 22 (nI m)) 126 21 (nI o)
theorem one_pop (hR : sh_R (a_t h) (a_r h)) (K : okK g (m + 1) ω (o + 1) h) (lm : m < 40) (lo : o < 400) (ht : a_i h 138 m = 7) (lg : g < 400) : Cal (d + 1) mX12_oneIsOver [.ref 126] h Q = Cal (d + 1) mX12_oneIsOver [.ref 126] (emR (clH h m o) g 402 0) Q := by
  obtain ⟨k1, k2, k3, k4, k5⟩ := K
  have tp : ∀ Q, Cal d mX12_top [.ref 126] h Q = Q (some (.int 7)) h := fun Q => by rw [rq_top hR k2 lm, ht]
  have x3 : nI (m + 1) - 1 = nI m := nI_sb (b := 1) (by omega)
  have x4 : nI (o + 1) - 1 = nI o := nI_sb (b := 1) (by omega)
  have em : ∀ Q, Cal d mX12_emits [.ref 126, .int 402, .int 0] (s_i (s_i h 126 22 (nI m)) 126 21 (nI o)) Q = Q none (emR (s_i (s_i h 126 22 (nI m)) 126 21 (nI o)) g 402 0) := fun Q => rq_emit hR (by rw [ine (by omega), ine (by omega)]; exact k4) lg
  have s1 : WP (d + 1) mX12_oneIsOver 0 [some (.ref 126)] [] h Q = WP (d + 1) mX12_oneIsOver 37 [some (.ref 126)] [] (emR (clH h m o) g 402 0) Q := by
    unfold clH
    simp [w_aload_n0 (M := mX12_oneIsOver) dX12_oneIsOver_0, c_12_354 (M := mX12_oneIsOver) dX12_oneIsOver_1 rfl, w_bipush (M := mX12_oneIsOver) (v := 7) dX12_oneIsOver_4 rfl, w_ic_ne (M := mX12_oneIsOver) (tgt := 40) dX12_oneIsOver_6 (by decide), w_aload_n0 (M := mX12_oneIsOver) dX12_oneIsOver_9, w_dup_int (M := mX12_oneIsOver) dX12_oneIsOver_10, w_dup_ref (M := mX12_oneIsOver) dX12_oneIsOver_10, w_getI (M := mX12_oneIsOver) dX12_oneIsOver_11 f_12_299 rfl (by decide) (by decide), w_iconst (M := mX12_oneIsOver) (v := 1) dX12_oneIsOver_14 rfl, w_isub (M := mX12_oneIsOver) dX12_oneIsOver_15, w_putI (M := mX12_oneIsOver) dX12_oneIsOver_16 f_12_299 rfl (Or.inl rfl), w_aload_n0 (M := mX12_oneIsOver) dX12_oneIsOver_19, w_dup_int (M := mX12_oneIsOver) dX12_oneIsOver_20, w_dup_ref (M := mX12_oneIsOver) dX12_oneIsOver_20, w_getI (M := mX12_oneIsOver) dX12_oneIsOver_21 f_12_302 rfl (by decide) (by decide), w_iconst (M := mX12_oneIsOver) (v := 1) dX12_oneIsOver_24 rfl, w_isub (M := mX12_oneIsOver) dX12_oneIsOver_25, w_putI (M := mX12_oneIsOver) dX12_oneIsOver_26 f_12_302 rfl (Or.inl rfl), w_aload_n0 (M := mX12_oneIsOver) dX12_oneIsOver_29, w_sipush (M := mX12_oneIsOver) (v := 402) dX12_oneIsOver_30 rfl, w_iconst (M := mX12_oneIsOver) (v := 0) dX12_oneIsOver_33 rfl, c_12_321 (M := mX12_oneIsOver) dX12_oneIsOver_34 rfl, Kn_v_, Kn_n_, kl_i_, kl_a_, kl_l_, kl_n_, s1_0_, s2_0_, s1_1, s1_2, s1_3, s1_4, s1_5, s1_6, s1_7, s1_8, s1_9, s1_10, s1_11, s1_12, s1_13, s1_14, s2_1, s2_2, s2_3, s2_4, s2_5, s2_6, s2_7, s2_8, s2_9, s2_10, s2_11, s2_12, s2_13, s2_14, List.map_nil, List.map_cons, List.sum_nil, List.sum_cons, ct_i_, ct_r_, ct_l_, t_si_, t_sl_, t_sr_, n_si_, n_sl_, n_sr_, i_si_, i_sl_, i_sr_, l_si_, l_sl_, l_sr_, r_si_, r_sl_, r_sr_, vr_s_, vr_n_, nz_0_, nz_1_, hR.e, tp, k1, k2, x3, x4, em]
  have s2 : WP (d + 1) mX12_oneIsOver 37 [some (.ref 126)] [] (emR (clH h m o) g 402 0) Q = WP (d + 1) mX12_oneIsOver 0 [some (.ref 126)] [] (emR (clH h m o) g 402 0) Q := by
    rw [w_goto (M := mX12_oneIsOver) (tgt := 0) dX12_oneIsOver_37 (by decide)]
  exact s1.trans s2
theorem ask_stop (hR : sh_R (a_t h) (a_r h)) (hf : a_i h 126 22 = nI (m + 1)) (lm : m < 40) (ht : ¬ a_i h 138 m = 3) : Cal (d + 1) mX12_askIsOver [.ref 126] h Q = Q none (s_i h 126 28 3) := by
  have tp : ∀ Q, Cal d mX12_top [.ref 126] h Q = Q (some (.int (a_i h 138 m))) h := fun Q => rq_top hR hf lm
  unfold Cal
  rw [show m_l mX12_askIsOver = 1 from rfl]
  simp only [am_en, am_ag, ct_i, ct_r, ct_l, List.length_cons, List.length_nil, List.replicate]
  simp [w_aload_n0 (M := mX12_askIsOver) dX12_askIsOver_0, c_12_354 (M := mX12_askIsOver) dX12_askIsOver_1 rfl, w_iconst (M := mX12_askIsOver) (v := 3) dX12_askIsOver_4 rfl, w_ic_ne (M := mX12_askIsOver) (tgt := 39) dX12_askIsOver_5 (by decide), w_aload_n0 (M := mX12_askIsOver) dX12_askIsOver_39, w_iconst (M := mX12_askIsOver) (v := 3) dX12_askIsOver_40 rfl, w_putI (M := mX12_askIsOver) dX12_askIsOver_41 f_12_334 rfl (Or.inl rfl), w_vret (M := mX12_askIsOver) dX12_askIsOver_44 rfl, Kn_v_, Kn_n_, kl_i_, kl_a_, kl_l_, kl_n_, s1_0_, s2_0_, s1_1, s1_2, s1_3, s1_4, s1_5, s1_6, s1_7, s1_8, s1_9, s1_10, s1_11, s1_12, s1_13, s1_14, s2_1, s2_2, s2_3, s2_4, s2_5, s2_6, s2_7, s2_8, s2_9, s2_10, s2_11, s2_12, s2_13, s2_14, List.map_nil, List.map_cons, List.sum_nil, List.sum_cons, ct_i_, ct_r_, ct_l_, t_si_, t_sl_, t_sr_, n_si_, n_sl_, n_sr_, i_si_, i_sl_, i_sr_, l_si_, l_sl_, l_sr_, r_si_, r_sl_, r_sr_, vr_s_, vr_n_, nz_0_, nz_1_, hR.e, tp, ht]
theorem ask_pop (hR : sh_R (a_t h) (a_r h)) (K : okK g (m + 1) ω (o + 1) h) (lm : m < 40) (lo : o < 400) (ht : a_i h 138 m = 3) (lg : g < 400) : Cal (d + 1) mX12_askIsOver [.ref 126] h Q = Cal (d + 1) mX12_askIsOver [.ref 126] (emR (clH h m o) g 405 0) Q := by
  obtain ⟨k1, k2, k3, k4, k5⟩ := K
  have tp : ∀ Q, Cal d mX12_top [.ref 126] h Q = Q (some (.int 3)) h := fun Q => by rw [rq_top hR k2 lm, ht]
  have x3 : nI (m + 1) - 1 = nI m := nI_sb (b := 1) (by omega)
  have x4 : nI (o + 1) - 1 = nI o := nI_sb (b := 1) (by omega)
  have em : ∀ Q, Cal d mX12_emits [.ref 126, .int 405, .int 0] (s_i (s_i h 126 22 (nI m)) 126 21 (nI o)) Q = Q none (emR (s_i (s_i h 126 22 (nI m)) 126 21 (nI o)) g 405 0) := fun Q => rq_emit hR (by rw [ine (by omega), ine (by omega)]; exact k4) lg
  have s1 : WP (d + 1) mX12_askIsOver 0 [some (.ref 126)] [] h Q = WP (d + 1) mX12_askIsOver 36 [some (.ref 126)] [] (emR (clH h m o) g 405 0) Q := by
    unfold clH
    simp [w_aload_n0 (M := mX12_askIsOver) dX12_askIsOver_0, c_12_354 (M := mX12_askIsOver) dX12_askIsOver_1 rfl, w_iconst (M := mX12_askIsOver) (v := 3) dX12_askIsOver_4 rfl, w_ic_ne (M := mX12_askIsOver) (tgt := 39) dX12_askIsOver_5 (by decide), w_aload_n0 (M := mX12_askIsOver) dX12_askIsOver_8, w_dup_int (M := mX12_askIsOver) dX12_askIsOver_9, w_dup_ref (M := mX12_askIsOver) dX12_askIsOver_9, w_getI (M := mX12_askIsOver) dX12_askIsOver_10 f_12_299 rfl (by decide) (by decide), w_iconst (M := mX12_askIsOver) (v := 1) dX12_askIsOver_13 rfl, w_isub (M := mX12_askIsOver) dX12_askIsOver_14, w_putI (M := mX12_askIsOver) dX12_askIsOver_15 f_12_299 rfl (Or.inl rfl), w_aload_n0 (M := mX12_askIsOver) dX12_askIsOver_18, w_dup_int (M := mX12_askIsOver) dX12_askIsOver_19, w_dup_ref (M := mX12_askIsOver) dX12_askIsOver_19, w_getI (M := mX12_askIsOver) dX12_askIsOver_20 f_12_302 rfl (by decide) (by decide), w_iconst (M := mX12_askIsOver) (v := 1) dX12_askIsOver_23 rfl, w_isub (M := mX12_askIsOver) dX12_askIsOver_24, w_putI (M := mX12_askIsOver) dX12_askIsOver_25 f_12_302 rfl (Or.inl rfl), w_aload_n0 (M := mX12_askIsOver) dX12_askIsOver_28, w_sipush (M := mX12_askIsOver) (v := 405) dX12_askIsOver_29 rfl, w_iconst (M := mX12_askIsOver) (v := 0) dX12_askIsOver_32 rfl, c_12_321 (M := mX12_askIsOver) dX12_askIsOver_33 rfl, Kn_v_, Kn_n_, kl_i_, kl_a_, kl_l_, kl_n_, s1_0_, s2_0_, s1_1, s1_2, s1_3, s1_4, s1_5, s1_6, s1_7, s1_8, s1_9, s1_10, s1_11, s1_12, s1_13, s1_14, s2_1, s2_2, s2_3, s2_4, s2_5, s2_6, s2_7, s2_8, s2_9, s2_10, s2_11, s2_12, s2_13, s2_14, List.map_nil, List.map_cons, List.sum_nil, List.sum_cons, ct_i_, ct_r_, ct_l_, t_si_, t_sl_, t_sr_, n_si_, n_sl_, n_sr_, i_si_, i_sl_, i_sr_, l_si_, l_sl_, l_sr_, r_si_, r_sl_, r_sr_, vr_s_, vr_n_, nz_0_, nz_1_, hR.e, tp, k1, k2, x3, x4, em]
  have s2 : WP (d + 1) mX12_askIsOver 36 [some (.ref 126)] [] (emR (clH h m o) g 405 0) Q = WP (d + 1) mX12_askIsOver 0 [some (.ref 126)] [] (emR (clH h m o) g 405 0) Q := by
    rw [w_goto (M := mX12_askIsOver) (tgt := 0) dX12_askIsOver_36 (by decide)]
  exact s1.trans s2
theorem clH_i {p i : Nat} (n1 : ¬ (p = 126 ∧ (i = 21 ∨ i = 22))) : a_i (clH h m o) p i = a_i h p i := by
  unfold clH
  rw [ine (by omega), ine (by omega)]
theorem clH_s : sm h (clH h m o) := sm.rf
theorem clH_F : rF φ ω g h (clH h m o) := ⟨clH_s, rfl, fun p j n1 _ _ _ _ n6 => clH_i (by omega)⟩
theorem okP.cl (K : okP t n T w j h) : okP t n T w j (clH h m o) := K.fr clH_s (fun k hk => clH_i (by omega)) (fun k => clH_i (by omega))
theorem okK.cl {o' φ' : Nat} (K : okK g φ' ω o' h) (S : ∀ i, i < ω → ∃ z, z ≤ m ∧ a_i h 141 i = nI z) : okK g m ω o (clH h m o) := by
  obtain ⟨k1, k2, k3, k4, k5⟩ := K
  refine ⟨?_, ?_, by rw [clH_i (by omega)]; exact k3, by rw [clH_i (by omega)]; exact k4, fun i hi => by rw [clH_i (by omega)]; exact S i hi⟩
  · unfold clH
    rw [ieq rfl rfl]
  · unfold clH
    rw [ine (by omega), ieq rfl rfl]
end WORKS
