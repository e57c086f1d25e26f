/-! acts: seed, rule, delay -/
section ACTS
section
variable {I : Nat → Nat → Int32} {J : Nat → Nat → Int64} {o p q e n : Nat} {s s' : TS}
theorem rEn_s (hs : ∀ c i, (c = 0 ∧ (i = 1 ∨ i = 3)) ∨ (1 ≤ c ∧ c ≤ 6) ∨ (10 ≤ c ∧ c ≤ 14) → s' c i = s c i) (k : rEn I J q e s) : rEn I J q e s' := by
  unfold rEn cn lend spk at k ⊢
  simpa (disch := omega) only [hs] using k
theorem rBk_s (hs : ∀ c i, (c = 0 ∧ (i = 3 ∨ i = 4)) ∨ (10 ≤ c ∧ c ≤ 17) → s' c i = s c i) (k : rBk I o s) : rBk I o s' := by
  unfold rBk at k ⊢
  simp (disch := omega) only [hs]
  exact k
theorem wOld_s (hs : ∀ c i, (c = 0 ∧ (i = 3 ∨ i = 4)) ∨ (10 ≤ c ∧ c ≤ 17) → s' c i = s c i) : wOld s s' := by
  unfold wOld
  simp (disch := omega) only [hs]
  exact ⟨Nat.le_refl _, Nat.le_refl _, fun i _ => ⟨trivial, trivial, trivial, Or.inr ⟨trivial, trivial⟩⟩, fun i _ => ⟨trivial, trivial, trivial⟩⟩
theorem wS_s (hs : ∀ c i, ¬ (c = 0 ∧ (i = 0 ∨ i = 2)) → ¬ (2 ≤ c ∧ c ≤ 4) → ¬ (7 ≤ c ∧ c ≤ 9) → s' c i = s c i) (h0 : bt 0 (s' 0 0) 3) (h7 : ∀ k, k < 16 → bt 0 (s' 7 k) 60) (k : wS n s) : wS n s' := by
  obtain ⟨k1, k2, k3, k4, k5, k6, k7, k8, k9, k10⟩ := k
  unfold wS wTn
  simp (disch := omega) only [hs]
  exact ⟨h0, k2, k3, k4, k5, h7, k7, k8, k9, k10⟩
end
variable {X : PX} {d : Nat} {h : am_h}
theorem sw_si {p k q : Nat} {v : Int32} {f : Nat → Int32} (e : ¬ p = q) : s_w (s_i h p k v) q f = s_i (s_w h q f) p k v := hext rfl rfl (fun r j => by
  by_cases c : r = q
  · subst c
    rw [iwe rfl, ine (by omega), iwe rfl]
  · rw [iwn c]
    by_cases c2 : r = p ∧ j = k
    · rw [ieq c2.1 c2.2, ieq c2.1 c2.2]
    · rw [ine c2, ine c2, iwn c]) (fun _ _ => rfl) (fun _ _ => rfl)
theorem si_si {p k q l : Nat} {v w : Int32} (e : ¬ p = q) : s_i (s_i h p k v) q l w = s_i (s_i h q l w) p k v := hext rfl rfl (fun r j => by
  by_cases c : r = p ∧ j = k
  · rw [ine (by omega), ieq c.1 c.2, ieq c.1 c.2]
  · rw [ine (p := p) c]
    by_cases c2 : r = q ∧ j = l
    · rw [ieq c2.1 c2.2, ieq c2.1 c2.2]
    · rw [ine c2, ine c2, ine c]) (fun _ _ => rfl) (fun _ _ => rfl)
theorem a127_si {p k : Nat} {v : Int32} (e : ¬ 127 = p) : a_i (s_i h p k v) 127 = a_i h 127 := funext fun j => ine (fun z => e z.1)
theorem a127_ud {k : Nat} {v : Int32} : a_i (s_i h 127 k v) 127 = ud (a_i h 127) k v := by
  rw [si_w, iwe rfl]
/-- a number of the line now and one of the row change to the same -/
theorem Inv_seed (k : Inv X h) {v : Int32} : Inv X (s_i (s_i h 7 2 v) 127 92 v) := by
  have r6 := k.2.1.2.1
  have e : dec (a_i (s_i (s_i h 7 2 v) 127 92 v) 127) 90 = up (dec (a_i h 127) 90) 0 2 v := by
    rw [a127_ud, a127_si (by omega)]
    exact du_d2
  refine Inv_row k rfl rfl (fun _ _ _ => rfl) (fun q j c1 c2 c3 => ?_) (fun _ _ => rfl) ?_ ?_ ?_ ?_
  · rw [ine (by omega), ine (by omega)]
  · rw [e]
    unfold rLn at r6 ⊢
    obtain ⟨z0, z1, z2, z3, z4, z5, z6⟩ := r6
    simp (disch := omega) only [ine, ieq, upn, upe]
    refine ⟨z0, z1, trivial, z3, z4, fun i hi => z5 i hi, fun e he => ?_⟩
    exact rEn_s (fun c i _ => upn (by omega)) (rEn_fr (fun j => by rw [ine (by omega), ine (by omega)]) rfl (z6 e he))
  · rw [e]
    exact rBk_s (fun c i _ => upn (by omega)) (rBk_fr (fun k j hk => by rw [ine (by omega), ine (by omega)]) k.2.1.2.2.1)
  · rw [e]
    have z := k.2.1.2.2.2.2.1
    exact wS_s (fun c i h1 h2 h3 => upn (by omega)) (by rw [upn (by omega)]; exact z.1) (fun i hi => by rw [upn (by omega)]; exact z.2.2.2.2.2.1 i hi) z
  · rw [e]
    exact wOld_s (fun c i _ => upn (by omega))
theorem Inv_rule (k : Inv X h) {v : Int32} (hv : inn v 0 3 = true) : Inv X (s_i (s_i h 7 1 v) 127 90 v) := by
  have r6 := k.2.1.2.1
  have e : dec (a_i (s_i (s_i h 7 1 v) 127 90 v) 127) 90 = up (dec (a_i h 127) 90) 0 0 v := by
    rw [a127_ud, a127_si (by omega)]
    exact du_d0
  refine Inv_row k rfl rfl (fun _ _ _ => rfl) (fun q j c1 c2 c3 => ?_) (fun _ _ => rfl) ?_ ?_ ?_ ?_
  · rw [ine (by omega), ine (by omega)]
  · rw [e]
    unfold rLn at r6 ⊢
    obtain ⟨z0, z1, z2, z3, z4, z5, z6⟩ := r6
    simp (disch := omega) only [ine, ieq, upn, upe]
    refine ⟨z0, trivial, z2, z3, z4, fun i hi => z5 i hi, fun e he => ?_⟩
    exact rEn_s (fun c i _ => upn (by omega)) (rEn_fr (fun j => by rw [ine (by omega), ine (by omega)]) rfl (z6 e he))
  · rw [e]
    exact rBk_s (fun c i _ => upn (by omega)) (rBk_fr (fun k j hk => by rw [ine (by omega), ine (by omega)]) k.2.1.2.2.1)
  · rw [e]
    have z := k.2.1.2.2.2.2.1
    exact wS_s (fun c i h1 h2 h3 => upn (by omega)) (by rw [upe]; exact inn_bt hv) (fun i hi => by rw [upn (by omega)]; exact z.2.2.2.2.2.1 i hi) z
  · rw [e]
    exact wOld_s (fun c i _ => upn (by omega))
theorem Inv_delay (k : Inv X h) {v : Int32} {m : Nat} (hm : m < 16) (hv : inn v 0 60 = true) : Inv X (s_i (s_i h 8 m v) 127 (117 + m) v) := by
  have r6 := k.2.1.2.1
  have e : dec (a_i (s_i (s_i h 8 m v) 127 (117 + m) v) 127) 90 = up (dec (a_i h 127) 90) 7 m v := by
    rw [a127_ud, a127_si (by omega)]
    exact du_c7 hm
  refine Inv_row k rfl rfl (fun _ _ _ => rfl) (fun q j c1 c2 c3 => ?_) (fun _ _ => rfl) ?_ ?_ ?_ ?_
  · rw [ine (by omega), ine (by omega)]
  · rw [e]
    unfold rLn at r6 ⊢
    obtain ⟨z0, z1, z2, z3, z4, z5, z6⟩ := r6
    simp (disch := omega) only [ine, ieq, upn, upe]
    refine ⟨z0, z1, z2, z3, z4, fun i hi => ?_, fun e he => ?_⟩
    · by_cases c : i = m
      · subst c
        rw [upe, ieq rfl rfl]
        exact ⟨rfl, (z5 i hi).2⟩
      · rw [upn (by omega), ine (by omega)]
        exact z5 i hi
    · exact rEn_s (fun c i _ => upn (by omega)) (rEn_fr (fun j => by rw [ine (by omega), ine (by omega)]) rfl (z6 e he))
  · rw [e]
    exact rBk_s (fun c i _ => upn (by omega)) (rBk_fr (fun k j hk => by rw [ine (by omega), ine (by omega)]) k.2.1.2.2.1)
  · rw [e]
    have z := k.2.1.2.2.2.2.1
    refine wS_s (fun c i h1 h2 h3 => upn (by omega)) (by rw [upn (by omega)]; exact z.1) (fun i hi => ?_) z
    by_cases c : i = m
    · subst c
      rw [upe]; exact inn_bt hv
    · rw [upn (by omega)]; exact z.2.2.2.2.2.1 i hi
  · rw [e]
    exact wOld_s (fun c i _ => upn (by omega))
theorem op_seed (k : Inv X h) {v0 : Int32} : opS X (d + 1) mX11_seed mX12_seed [.ref 0, .int v0] [.ref 126, .int v0] h := by
  have hC := k.1.1
  have hR := k.1.2.1
  by_cases c : inn v0 0 9999 = true
  · refine ⟨1, s_i h 7 2 (v0 * 3 + 13), s_i (s_i h 7 2 (v0 * 3 + 13)) 127 92 (v0 * 3 + 13), fun Q => ?_, fun Q => ?_, Inv_seed k⟩
    · rw [q_X11_seed (eq_true hC), if_pos c]
    · rw [q_X12_seed (h := s_i h 7 2 (v0 * 3 + 13)) (eq_true hR), if_pos c]
  · refine opS_ref (r := 0) k (by omega) (ans := 0) (fun Q => ?_) (fun Q => ?_)
    · rw [q_X11_seed (eq_true hC), if_neg c]
    · rw [q_X12_seed (h := s_i h 26 0 (a_i h 26 0 + 1)) (eq_true hR), if_neg c]
      rfl
/-- both sides alike; the other side makes no new cells -/
def opT (X : PX) (d : Nat) (M1 M2 : am_m) (as1 as2 : List Value) (h : am_h) : Prop := ∃ (r : Int32) (h1 h2 : am_h), (∀ Q, Cal d M1 as1 h Q = Q (some (.int r)) h1) ∧ (∀ Q, Cal d M2 as2 h1 Q = Q (some (.int r)) h2) ∧ Inv X h2 ∧ a_n h2 = a_n h1 ∧ a_i h2 127 1 = a_i h 127 1
theorem opT.S {M1 M2 : am_m} {as1 as2 : List Value} (k : opT X d M1 M2 as1 as2 h) : opS X d M1 M2 as1 as2 h := by
  obtain ⟨r, h1, h2, a, b, c, _⟩ := k
  exact ⟨r, h1, h2, a, b, c⟩
theorem opT_ref {M1 M2 : am_m} {as1 as2 : List Value} {ans : Int32} (k : Inv X h) {r : Nat} (hr : r < 3) (e1 : ∀ Q, Cal d M1 as1 h Q = Q (some (.int ans)) (s_i h 26 r (a_i h 26 r + 1))) (e2 : ∀ Q, Cal d M2 as2 (s_i h 26 r (a_i h 26 r + 1)) Q = Q (some (.int ans)) (s_i (s_i h 26 r (a_i h 26 r + 1)) 127 (9 + r) (a_i h 127 (9 + r) + 1))) : opT X d M1 M2 as1 as2 h := ⟨ans, _, _, e1, e2, Inv_ref k hr, rfl, by rw [ine (by omega), ine (by omega)]⟩
set_option maxRecDepth 20000 in
set_option maxHeartbeats 4000000 in
theorem ot_rule (k : Inv X h) {v0 : Int32} : opT X (d + 4) mX11_rule mX12_rule [.ref 0, .int v0] [.ref 126, .int v0] h := by
  have hC := k.1.1
  have hR := k.1.2.1
  have kf := k.e
  by_cases c : inn v0 0 3 = true
  · by_cases c2 : a_i h 127 90 = v0
    · refine opT_ref (r := 2) k (by omega) (ans := 0) (fun Q => ?_) (fun Q => ?_)
      · unfold Cal
        rw [l_X11_rule]
        simp only [am_en, am_ag, ct_i, ct_r, ct_l, List.length_cons, List.length_nil, List.replicate]
        simp [w_iload_n1 (M := mX11_rule) dX11_rule_0, w_iconst (M := mX11_rule) (v := 0) dX11_rule_1 rfl, w_iconst (M := mX11_rule) (v := 3) dX11_rule_2 rfl, c_11_56 (M := mX11_rule) dX11_rule_3 rfl, w_if_ne (M := mX11_rule) (tgt := 15) dX11_rule_6 (by decide), w_aload_n0 (M := mX11_rule) dX11_rule_9, w_iconst (M := mX11_rule) (v := 0) dX11_rule_10 rfl, c_11_78 (M := mX11_rule) dX11_rule_11 rfl, w_ireturn (M := mX11_rule) dX11_rule_14 rfl, w_aload_n0 (M := mX11_rule) dX11_rule_15, w_getO (M := mX11_rule) dX11_rule_16 f_11_10 rfl (by decide) (by decide), w_getO (M := mX11_rule) dX11_rule_19 f_11_82 rfl (by decide) (by decide), w_getI (M := mX11_rule) dX11_rule_22 f_11_102 rfl (by decide) (by decide), w_iload_n1 (M := mX11_rule) dX11_rule_25, w_ic_ne (M := mX11_rule) (tgt := 35) dX11_rule_26 (by decide), w_aload_n0 (M := mX11_rule) dX11_rule_29, w_iconst (M := mX11_rule) (v := 2) dX11_rule_30 rfl, c_11_78 (M := mX11_rule) dX11_rule_31 rfl, w_ireturn (M := mX11_rule) dX11_rule_34 rfl, w_aload_n0 (M := mX11_rule) dX11_rule_35, w_getO (M := mX11_rule) dX11_rule_36 f_11_10 rfl (by decide) (by decide), c_11_95 (M := mX11_rule) dX11_rule_39 rfl, w_aload_n0 (M := mX11_rule) dX11_rule_42, w_getO (M := mX11_rule) dX11_rule_43 f_11_10 rfl (by decide) (by decide), w_getO (M := mX11_rule) dX11_rule_46 f_11_82 rfl (by decide) (by decide), w_iload_n1 (M := mX11_rule) dX11_rule_49, w_putI (M := mX11_rule) dX11_rule_50 f_11_102 rfl (Or.inl rfl), w_iconst (M := mX11_rule) (v := 1) dX11_rule_53 rfl, w_ireturn (M := mX11_rule) dX11_rule_54 rfl, Kn_v_, Kn_n_, kl_i_, kl_a_, kl_l_, kl_n_, s1_0_, s2_0_, s1_1, s1_2, s1_3, s1_4, s1_5, s1_6, s1_7, s1_8, s1_9, s1_10, s1_11, s1_12, s1_13, s1_14, s2_1, s2_2, s2_3, s2_4, s2_5, s2_6, s2_7, s2_8, s2_9, s2_10, s2_11, s2_12, s2_13, s2_14, List.map_nil, List.map_cons, List.sum_nil, List.sum_cons, ct_i_, ct_r_, ct_l_, t_si_, t_sl_, t_sr_, n_si_, n_sl_, n_sr_, i_si_, i_sl_, i_sr_, l_si_, l_sl_, l_sr_, r_si_, r_sl_, r_sr_, vr_s_, vr_n_, nz_0_, nz_1_, bI_0, bI_n, bI_t, bI_f, q_X11_within, q_X11_refuseFlatly, hC, hC.e, kf, c, c2]
      · unfold Cal
        rw [l_X12_rule]
        simp only [am_en, am_ag, ct_i, ct_r, ct_l, List.length_cons, List.length_nil, List.replicate]
        simp [w_iload_n1 (M := mX12_rule) dX12_rule_0, w_iconst (M := mX12_rule) (v := 0) dX12_rule_1 rfl, w_iconst (M := mX12_rule) (v := 3) dX12_rule_2 rfl, c_12_173 (M := mX12_rule) dX12_rule_3 rfl, w_if_ne (M := mX12_rule) (tgt := 15) dX12_rule_6 (by decide), w_aload_n0 (M := mX12_rule) dX12_rule_9, w_iconst (M := mX12_rule) (v := 0) dX12_rule_10 rfl, c_12_181 (M := mX12_rule) dX12_rule_11 rfl, w_ireturn (M := mX12_rule) dX12_rule_14 rfl, w_aload_n0 (M := mX12_rule) dX12_rule_15, w_getA (M := mX12_rule) dX12_rule_16 f_12_7 rfl (by decide) (by decide), w_bipush (M := mX12_rule) (v := 90) dX12_rule_19 rfl, w_iaload (M := mX12_rule) dX12_rule_21, w_iload_n1 (M := mX12_rule) dX12_rule_22, w_ic_ne (M := mX12_rule) (tgt := 32) dX12_rule_23 (by decide), w_aload_n0 (M := mX12_rule) dX12_rule_26, w_iconst (M := mX12_rule) (v := 2) dX12_rule_27 rfl, c_12_181 (M := mX12_rule) dX12_rule_28 rfl, w_ireturn (M := mX12_rule) dX12_rule_31 rfl, w_aload_n0 (M := mX12_rule) dX12_rule_32, c_12_191 (M := mX12_rule) dX12_rule_33 rfl, w_aload_n0 (M := mX12_rule) dX12_rule_36, w_getA (M := mX12_rule) dX12_rule_37 f_12_7 rfl (by decide) (by decide), w_bipush (M := mX12_rule) (v := 90) dX12_rule_40 rfl, w_iload_n1 (M := mX12_rule) dX12_rule_42, w_iastore (M := mX12_rule) dX12_rule_43, w_iconst (M := mX12_rule) (v := 1) dX12_rule_44 rfl, w_ireturn (M := mX12_rule) dX12_rule_45 rfl, Kn_v_, Kn_n_, kl_i_, kl_a_, kl_l_, kl_n_, s1_0_, s2_0_, s1_1, s1_2, s1_3, s1_4, s1_5, s1_6, s1_7, s1_8, s1_9, s1_10, s1_11, s1_12, s1_13, s1_14, s2_1, s2_2, s2_3, s2_4, s2_5, s2_6, s2_7, s2_8, s2_9, s2_10, s2_11, s2_12, s2_13, s2_14, List.map_nil, List.map_cons, List.sum_nil, List.sum_cons, ct_i_, ct_r_, ct_l_, t_si_, t_sl_, t_sr_, n_si_, n_sl_, n_sr_, i_si_, i_sl_, i_sr_, l_si_, l_sl_, l_sr_, r_si_, r_sl_, r_sr_, vr_s_, vr_n_, nz_0_, nz_1_, bI_0, bI_n, bI_t, bI_f, q_X12_in, q_X12_refusesIt, hR, hR.e, am_in1, c, c2, i_si_, i_sl_, i_sr_, t_si_, t_sl_, t_sr_, r_si_, r_sl_, l_si_, n_si_, n_sl_, show (9 + 2 : Int32).toNatClampNeg = 11 from rfl, show (0 : Int32) ≤ 9 + 2 from by decide]
    · obtain ⟨n, h1, n1, n2, c1, kv, f1, f2, f3⟩ := keepS (d := d) k
      have hC1 : sh_C (a_t h1) (a_r h1) := kv.1.1
      have hR1 : sh_R (a_t h1) (a_r h1) := kv.1.2.1
      have e127 : a_i h1 127 = a_i h 127 := funext fun j => f1 127 j (by omega) (by omega)
      have ks : ∀ Q, Cal (d + 3) mX12_keepsStep [.ref 126] (s_i h1 7 1 v0) Q = Q none (s_w (s_i h1 7 1 v0) 127 (KS n (a_i h 127))) := by
        intro Q
        have := q_X12_keepsStep (d := d + 3) (Q := Q) (h := s_i h1 7 1 v0) (eq_true hR1) (n := n) (by rw [a127_si (by omega), e127]; exact n1) n2
        rw [a127_si (by omega), e127] at this
        exact this
      refine ⟨1, s_i h1 7 1 v0, s_i (s_w (s_i h1 7 1 v0) 127 (KS n (a_i h 127))) 127 90 v0, fun Q => ?_, fun Q => ?_, ?_, rfl, by rw [ine (by omega), iwe rfl, ks_lo n2 (by omega) (by omega)]⟩
      · unfold Cal
        rw [l_X11_rule]
        simp only [am_en, am_ag, ct_i, ct_r, ct_l, List.length_cons, List.length_nil, List.replicate]
        simp [w_iload_n1 (M := mX11_rule) dX11_rule_0, w_iconst (M := mX11_rule) (v := 0) dX11_rule_1 rfl, w_iconst (M := mX11_rule) (v := 3) dX11_rule_2 rfl, c_11_56 (M := mX11_rule) dX11_rule_3 rfl, w_if_ne (M := mX11_rule) (tgt := 15) dX11_rule_6 (by decide), w_aload_n0 (M := mX11_rule) dX11_rule_9, w_iconst (M := mX11_rule) (v := 0) dX11_rule_10 rfl, c_11_78 (M := mX11_rule) dX11_rule_11 rfl, w_ireturn (M := mX11_rule) dX11_rule_14 rfl, w_aload_n0 (M := mX11_rule) dX11_rule_15, w_getO (M := mX11_rule) dX11_rule_16 f_11_10 rfl (by decide) (by decide), w_getO (M := mX11_rule) dX11_rule_19 f_11_82 rfl (by decide) (by decide), w_getI (M := mX11_rule) dX11_rule_22 f_11_102 rfl (by decide) (by decide), w_iload_n1 (M := mX11_rule) dX11_rule_25, w_ic_ne (M := mX11_rule) (tgt := 35) dX11_rule_26 (by decide), w_aload_n0 (M := mX11_rule) dX11_rule_29, w_iconst (M := mX11_rule) (v := 2) dX11_rule_30 rfl, c_11_78 (M := mX11_rule) dX11_rule_31 rfl, w_ireturn (M := mX11_rule) dX11_rule_34 rfl, w_aload_n0 (M := mX11_rule) dX11_rule_35, w_getO (M := mX11_rule) dX11_rule_36 f_11_10 rfl (by decide) (by decide), c_11_95 (M := mX11_rule) dX11_rule_39 rfl, w_aload_n0 (M := mX11_rule) dX11_rule_42, w_getO (M := mX11_rule) dX11_rule_43 f_11_10 rfl (by decide) (by decide), w_getO (M := mX11_rule) dX11_rule_46 f_11_82 rfl (by decide) (by decide), w_iload_n1 (M := mX11_rule) dX11_rule_49, w_putI (M := mX11_rule) dX11_rule_50 f_11_102 rfl (Or.inl rfl), w_iconst (M := mX11_rule) (v := 1) dX11_rule_53 rfl, w_ireturn (M := mX11_rule) dX11_rule_54 rfl, Kn_v_, Kn_n_, kl_i_, kl_a_, kl_l_, kl_n_, s1_0_, s2_0_, s1_1, s1_2, s1_3, s1_4, s1_5, s1_6, s1_7, s1_8, s1_9, s1_10, s1_11, s1_12, s1_13, s1_14, s2_1, s2_2, s2_3, s2_4, s2_5, s2_6, s2_7, s2_8, s2_9, s2_10, s2_11, s2_12, s2_13, s2_14, List.map_nil, List.map_cons, List.sum_nil, List.sum_cons, ct_i_, ct_r_, ct_l_, t_si_, t_sl_, t_sr_, n_si_, n_sl_, n_sr_, i_si_, i_sl_, i_sr_, l_si_, l_sl_, l_sr_, r_si_, r_sl_, r_sr_, vr_s_, vr_n_, nz_0_, nz_1_, bI_0, bI_n, bI_t, bI_f, q_X11_within, hC, hC.e, kf, c, c2, c1, hC1.e]
      · unfold Cal
        rw [l_X12_rule]
        simp only [am_en, am_ag, ct_i, ct_r, ct_l, List.length_cons, List.length_nil, List.replicate]
        simp [w_iload_n1 (M := mX12_rule) dX12_rule_0, w_iconst (M := mX12_rule) (v := 0) dX12_rule_1 rfl, w_iconst (M := mX12_rule) (v := 3) dX12_rule_2 rfl, c_12_173 (M := mX12_rule) dX12_rule_3 rfl, w_if_ne (M := mX12_rule) (tgt := 15) dX12_rule_6 (by decide), w_aload_n0 (M := mX12_rule) dX12_rule_9, w_iconst (M := mX12_rule) (v := 0) dX12_rule_10 rfl, c_12_181 (M := mX12_rule) dX12_rule_11 rfl, w_ireturn (M := mX12_rule) dX12_rule_14 rfl, w_aload_n0 (M := mX12_rule) dX12_rule_15, w_getA (M := mX12_rule) dX12_rule_16 f_12_7 rfl (by decide) (by decide), w_bipush (M := mX12_rule) (v := 90) dX12_rule_19 rfl, w_iaload (M := mX12_rule) dX12_rule_21, w_iload_n1 (M := mX12_rule) dX12_rule_22, w_ic_ne (M := mX12_rule) (tgt := 32) dX12_rule_23 (by decide), w_aload_n0 (M := mX12_rule) dX12_rule_26, w_iconst (M := mX12_rule) (v := 2) dX12_rule_27 rfl, c_12_181 (M := mX12_rule) dX12_rule_28 rfl, w_ireturn (M := mX12_rule) dX12_rule_31 rfl, w_aload_n0 (M := mX12_rule) dX12_rule_32, c_12_191 (M := mX12_rule) dX12_rule_33 rfl, w_aload_n0 (M := mX12_rule) dX12_rule_36, w_getA (M := mX12_rule) dX12_rule_37 f_12_7 rfl (by decide) (by decide), w_bipush (M := mX12_rule) (v := 90) dX12_rule_40 rfl, w_iload_n1 (M := mX12_rule) dX12_rule_42, w_iastore (M := mX12_rule) dX12_rule_43, w_iconst (M := mX12_rule) (v := 1) dX12_rule_44 rfl, w_ireturn (M := mX12_rule) dX12_rule_45 rfl, Kn_v_, Kn_n_, kl_i_, kl_a_, kl_l_, kl_n_, s1_0_, s2_0_, s1_1, s1_2, s1_3, s1_4, s1_5, s1_6, s1_7, s1_8, s1_9, s1_10, s1_11, s1_12, s1_13, s1_14, s2_1, s2_2, s2_3, s2_4, s2_5, s2_6, s2_7, s2_8, s2_9, s2_10, s2_11, s2_12, s2_13, s2_14, List.map_nil, List.map_cons, List.sum_nil, List.sum_cons, ct_i_, ct_r_, ct_l_, t_si_, t_sl_, t_sr_, n_si_, n_sl_, n_sr_, i_si_, i_sl_, i_sr_, l_si_, l_sl_, l_sr_, r_si_, r_sl_, r_sr_, vr_s_, vr_n_, nz_0_, nz_1_, bI_0, bI_n, bI_t, bI_f, q_X12_in, hR1, hR1.e, am_in1, c, c2, ks, e127, t_sw_, r_sw_]
      · rw [sw_si (by omega)]
        exact Inv_rule kv c
  · refine opT_ref (r := 0) k (by omega) (ans := 0) (fun Q => ?_) (fun Q => ?_)
    · unfold Cal
      rw [l_X11_rule]
      simp only [am_en, am_ag, ct_i, ct_r, ct_l, List.length_cons, List.length_nil, List.replicate]
      simp [w_iload_n1 (M := mX11_rule) dX11_rule_0, w_iconst (M := mX11_rule) (v := 0) dX11_rule_1 rfl, w_iconst (M := mX11_rule) (v := 3) dX11_rule_2 rfl, c_11_56 (M := mX11_rule) dX11_rule_3 rfl, w_if_ne (M := mX11_rule) (tgt := 15) dX11_rule_6 (by decide), w_aload_n0 (M := mX11_rule) dX11_rule_9, w_iconst (M := mX11_rule) (v := 0) dX11_rule_10 rfl, c_11_78 (M := mX11_rule) dX11_rule_11 rfl, w_ireturn (M := mX11_rule) dX11_rule_14 rfl, w_aload_n0 (M := mX11_rule) dX11_rule_15, w_getO (M := mX11_rule) dX11_rule_16 f_11_10 rfl (by decide) (by decide), w_getO (M := mX11_rule) dX11_rule_19 f_11_82 rfl (by decide) (by decide), w_getI (M := mX11_rule) dX11_rule_22 f_11_102 rfl (by decide) (by decide), w_iload_n1 (M := mX11_rule) dX11_rule_25, w_ic_ne (M := mX11_rule) (tgt := 35) dX11_rule_26 (by decide), w_aload_n0 (M := mX11_rule) dX11_rule_29, w_iconst (M := mX11_rule) (v := 2) dX11_rule_30 rfl, c_11_78 (M := mX11_rule) dX11_rule_31 rfl, w_ireturn (M := mX11_rule) dX11_rule_34 rfl, w_aload_n0 (M := mX11_rule) dX11_rule_35, w_getO (M := mX11_rule) dX11_rule_36 f_11_10 rfl (by decide) (by decide), c_11_95 (M := mX11_rule) dX11_rule_39 rfl, w_aload_n0 (M := mX11_rule) dX11_rule_42, w_getO (M := mX11_rule) dX11_rule_43 f_11_10 rfl (by decide) (by decide), w_getO (M := mX11_rule) dX11_rule_46 f_11_82 rfl (by decide) (by decide), w_iload_n1 (M := mX11_rule) dX11_rule_49, w_putI (M := mX11_rule) dX11_rule_50 f_11_102 rfl (Or.inl rfl), w_iconst (M := mX11_rule) (v := 1) dX11_rule_53 rfl, w_ireturn (M := mX11_rule) dX11_rule_54 rfl, Kn_v_, Kn_n_, kl_i_, kl_a_, kl_l_, kl_n_, s1_0_, s2_0_, s1_1, s1_2, s1_3, s1_4, s1_5, s1_6, s1_7, s1_8, s1_9, s1_10, s1_11, s1_12, s1_13, s1_14, s2_1, s2_2, s2_3, s2_4, s2_5, s2_6, s2_7, s2_8, s2_9, s2_10, s2_11, s2_12, s2_13, s2_14, List.map_nil, List.map_cons, List.sum_nil, List.sum_cons, ct_i_, ct_r_, ct_l_, t_si_, t_sl_, t_sr_, n_si_, n_sl_, n_sr_, i_si_, i_sl_, i_sr_, l_si_, l_sl_, l_sr_, r_si_, r_sl_, r_sr_, vr_s_, vr_n_, nz_0_, nz_1_, bI_0, bI_n, bI_t, bI_f, q_X11_within, q_X11_refuseFlatly, hC, hC.e, kf, c]
    · unfold Cal
      rw [l_X12_rule]
      simp only [am_en, am_ag, ct_i, ct_r, ct_l, List.length_cons, List.length_nil, List.replicate]
      simp [w_iload_n1 (M := mX12_rule) dX12_rule_0, w_iconst (M := mX12_rule) (v := 0) dX12_rule_1 rfl, w_iconst (M := mX12_rule) (v := 3) dX12_rule_2 rfl, c_12_173 (M := mX12_rule) dX12_rule_3 rfl, w_if_ne (M := mX12_rule) (tgt := 15) dX12_rule_6 (by decide), w_aload_n0 (M := mX12_rule) dX12_rule_9, w_iconst (M := mX12_rule) (v := 0) dX12_rule_10 rfl, c_12_181 (M := mX12_rule) dX12_rule_11 rfl, w_ireturn (M := mX12_rule) dX12_rule_14 rfl, w_aload_n0 (M := mX12_rule) dX12_rule_15, w_getA (M := mX12_rule) dX12_rule_16 f_12_7 rfl (by decide) (by decide), w_bipush (M := mX12_rule) (v := 90) dX12_rule_19 rfl, w_iaload (M := mX12_rule) dX12_rule_21, w_iload_n1 (M := mX12_rule) dX12_rule_22, w_ic_ne (M := mX12_rule) (tgt := 32) dX12_rule_23 (by decide), w_aload_n0 (M := mX12_rule) dX12_rule_26, w_iconst (M := mX12_rule) (v := 2) dX12_rule_27 rfl, c_12_181 (M := mX12_rule) dX12_rule_28 rfl, w_ireturn (M := mX12_rule) dX12_rule_31 rfl, w_aload_n0 (M := mX12_rule) dX12_rule_32, c_12_191 (M := mX12_rule) dX12_rule_33 rfl, w_aload_n0 (M := mX12_rule) dX12_rule_36, w_getA (M := mX12_rule) dX12_rule_37 f_12_7 rfl (by decide) (by decide), w_bipush (M := mX12_rule) (v := 90) dX12_rule_40 rfl, w_iload_n1 (M := mX12_rule) dX12_rule_42, w_iastore (M := mX12_rule) dX12_rule_43, w_iconst (M := mX12_rule) (v := 1) dX12_rule_44 rfl, w_ireturn (M := mX12_rule) dX12_rule_45 rfl, Kn_v_, Kn_n_, kl_i_, kl_a_, kl_l_, kl_n_, s1_0_, s2_0_, s1_1, s1_2, s1_3, s1_4, s1_5, s1_6, s1_7, s1_8, s1_9, s1_10, s1_11, s1_12, s1_13, s1_14, s2_1, s2_2, s2_3, s2_4, s2_5, s2_6, s2_7, s2_8, s2_9, s2_10, s2_11, s2_12, s2_13, s2_14, List.map_nil, List.map_cons, List.sum_nil, List.sum_cons, ct_i_, ct_r_, ct_l_, t_si_, t_sl_, t_sr_, n_si_, n_sl_, n_sr_, i_si_, i_sl_, i_sr_, l_si_, l_sl_, l_sr_, r_si_, r_sl_, r_sr_, vr_s_, vr_n_, nz_0_, nz_1_, bI_0, bI_n, bI_t, bI_f, q_X12_in, q_X12_refusesIt, hR, hR.e, am_in1, c, i_si_, i_sl_, i_sr_, t_si_, t_sl_, t_sr_, r_si_, r_sl_, l_si_, n_si_, n_sl_]
theorem op_rule (k : Inv X h) {v0 : Int32} : opS X (d + 4) mX11_rule mX12_rule [.ref 0, .int v0] [.ref 126, .int v0] h := (ot_rule k).S
set_option maxRecDepth 20000 in
set_option maxHeartbeats 4000000 in
theorem ot_delay (k : Inv X h) {v0 v1 v2 : Int32} : opT X (d + 4) mX11_delay mX12_delay [.ref 0, .int v0, .int v1, .int v2] [.ref 126, .int v0, .int v1, .int v2] h := by
  have hC := k.1.1
  have hR := k.1.2.1
  have kf := k.e
  obtain ⟨N, e1, e2, e3⟩ := k.N
  by_cases c : inn v0 0 (a_i h 127 0 - 1) = true ∧ inn v1 0 (a_i h 127 0 - 1) = true ∧ ¬ v0 = v1 ∧ inn v2 0 60 = true
  · obtain ⟨c0, c1, c2, c3⟩ := c
    obtain ⟨a, a1, rfl⟩ := inn_ix (n := N) (by omega) (by rw [e1] at c0; exact c0)
    obtain ⟨b, b1, rfl⟩ := inn_ix (n := N) (by omega) (by rw [e1] at c1; exact c1)
    have i1 : (nI a * 4 + nI b).toNatClampNeg = a * 4 + b := ix_ma (b := 4) (by omega)
    have i2 : (0 ≤ nI a * 4 + nI b) = True := ip_ma (b := 4) (by omega)
    have j1 : (117 + 4 * nI a + nI b).toNatClampNeg = 117 + 4 * a + b := ix_amc (a := 117) (b := 4) (by omega)
    have j2 : (0 ≤ 117 + 4 * nI a + nI b) = True := ip_amc (a := 117) (b := 4) (by omega)
    have z := (k.dl (i := a * 4 + b) (by omega)).1
    rw [show 117 + (a * 4 + b) = 117 + 4 * a + b by omega] at z
    by_cases c4 : a_i h 127 (117 + 4 * a + b) = v2
    · refine opT_ref (r := 2) k (by omega) (ans := 0) (fun Q => ?_) (fun Q => ?_)
      · unfold Cal
        rw [l_X11_delay]
        simp only [am_en, am_ag, ct_i, ct_r, ct_l, List.length_cons, List.length_nil, List.replicate]
        simp [w_aload_n0 (M := mX11_delay) dX11_delay_0, w_iload_n1 (M := mX11_delay) dX11_delay_1, w_iload_n2 (M := mX11_delay) dX11_delay_2, c_11_88 (M := mX11_delay) dX11_delay_3 rfl, w_if_eq (M := mX11_delay) (tgt := 19) dX11_delay_6 (by decide), w_iload_n3 (M := mX11_delay) dX11_delay_9, w_iconst (M := mX11_delay) (v := 0) dX11_delay_10 rfl, w_bipush (M := mX11_delay) (v := 60) dX11_delay_11 rfl, c_11_56 (M := mX11_delay) dX11_delay_13 rfl, w_if_ne (M := mX11_delay) (tgt := 25) dX11_delay_16 (by decide), w_aload_n0 (M := mX11_delay) dX11_delay_19, w_iconst (M := mX11_delay) (v := 0) dX11_delay_20 rfl, c_11_78 (M := mX11_delay) dX11_delay_21 rfl, w_ireturn (M := mX11_delay) dX11_delay_24 rfl, w_aload_n0 (M := mX11_delay) dX11_delay_25, w_getO (M := mX11_delay) dX11_delay_26 f_11_10 rfl (by decide) (by decide), w_getO (M := mX11_delay) dX11_delay_29 f_11_82 rfl (by decide) (by decide), w_iload_n1 (M := mX11_delay) dX11_delay_32, w_iload_n2 (M := mX11_delay) dX11_delay_33, c_11_92 (M := mX11_delay) dX11_delay_34 rfl, w_iload_n3 (M := mX11_delay) dX11_delay_37, w_ic_ne (M := mX11_delay) (tgt := 47) dX11_delay_38 (by decide), w_aload_n0 (M := mX11_delay) dX11_delay_41, w_iconst (M := mX11_delay) (v := 2) dX11_delay_42 rfl, c_11_78 (M := mX11_delay) dX11_delay_43 rfl, w_ireturn (M := mX11_delay) dX11_delay_46 rfl, w_aload_n0 (M := mX11_delay) dX11_delay_47, w_getO (M := mX11_delay) dX11_delay_48 f_11_10 rfl (by decide) (by decide), c_11_95 (M := mX11_delay) dX11_delay_51 rfl, w_aload_n0 (M := mX11_delay) dX11_delay_54, w_getO (M := mX11_delay) dX11_delay_55 f_11_10 rfl (by decide) (by decide), w_getO (M := mX11_delay) dX11_delay_58 f_11_82 rfl (by decide) (by decide), w_getA (M := mX11_delay) dX11_delay_61 f_11_98 rfl (by decide) (by decide), w_iload_n1 (M := mX11_delay) dX11_delay_64, w_iconst (M := mX11_delay) (v := 4) dX11_delay_65 rfl, w_imul (M := mX11_delay) dX11_delay_66, w_iload_n2 (M := mX11_delay) dX11_delay_67, w_iadd (M := mX11_delay) dX11_delay_68, w_iload_n3 (M := mX11_delay) dX11_delay_69, w_iastore (M := mX11_delay) dX11_delay_70, w_iconst (M := mX11_delay) (v := 1) dX11_delay_71 rfl, w_ireturn (M := mX11_delay) dX11_delay_72 rfl, Kn_v_, Kn_n_, kl_i_, kl_a_, kl_l_, kl_n_, s1_0_, s2_0_, s1_1, s1_2, s1_3, s1_4, s1_5, s1_6, s1_7, s1_8, s1_9, s1_10, s1_11, s1_12, s1_13, s1_14, s2_1, s2_2, s2_3, s2_4, s2_5, s2_6, s2_7, s2_8, s2_9, s2_10, s2_11, s2_12, s2_13, s2_14, List.map_nil, List.map_cons, List.sum_nil, List.sum_cons, ct_i_, ct_r_, ct_l_, t_si_, t_sl_, t_sr_, n_si_, n_sl_, n_sr_, i_si_, i_sl_, i_sr_, l_si_, l_sl_, l_sr_, r_si_, r_sl_, r_sr_, vr_s_, vr_n_, nz_0_, nz_1_, bI_0, bI_n, bI_t, bI_f, q_X11_within, q_X11_areTwoEnds, q_X5_delayOf_7, q_X11_refuseFlatly, hC, hC.e, kf, c0, c1, c2, c3, i1, i2, z, c4, show a * 4 + b < 16 by omega]
      · unfold Cal
        rw [l_X12_delay]
        simp only [am_en, am_ag, ct_i, ct_r, ct_l, List.length_cons, List.length_nil, List.replicate]
        simp [w_aload_n0 (M := mX12_delay) dX12_delay_0, w_iload_n1 (M := mX12_delay) dX12_delay_1, c_12_185 (M := mX12_delay) dX12_delay_2 rfl, w_if_eq (M := mX12_delay) (tgt := 31) dX12_delay_5 (by decide), w_aload_n0 (M := mX12_delay) dX12_delay_8, w_iload_n2 (M := mX12_delay) dX12_delay_9, c_12_185 (M := mX12_delay) dX12_delay_10 rfl, w_if_eq (M := mX12_delay) (tgt := 31) dX12_delay_13 (by decide), w_iload_n1 (M := mX12_delay) dX12_delay_16, w_iload_n2 (M := mX12_delay) dX12_delay_17, w_ic_eq (M := mX12_delay) (tgt := 31) dX12_delay_18 (by decide), w_iload_n3 (M := mX12_delay) dX12_delay_21, w_iconst (M := mX12_delay) (v := 0) dX12_delay_22 rfl, w_bipush (M := mX12_delay) (v := 60) dX12_delay_23 rfl, c_12_173 (M := mX12_delay) dX12_delay_25 rfl, w_if_ne (M := mX12_delay) (tgt := 37) dX12_delay_28 (by decide), w_aload_n0 (M := mX12_delay) dX12_delay_31, w_iconst (M := mX12_delay) (v := 0) dX12_delay_32 rfl, c_12_181 (M := mX12_delay) dX12_delay_33 rfl, w_ireturn (M := mX12_delay) dX12_delay_36 rfl, w_aload_n0 (M := mX12_delay) dX12_delay_37, w_iload_n1 (M := mX12_delay) dX12_delay_38, w_iload_n2 (M := mX12_delay) dX12_delay_39, c_12_188 (M := mX12_delay) dX12_delay_40 rfl, w_iload_n3 (M := mX12_delay) dX12_delay_43, w_ic_ne (M := mX12_delay) (tgt := 53) dX12_delay_44 (by decide), w_aload_n0 (M := mX12_delay) dX12_delay_47, w_iconst (M := mX12_delay) (v := 2) dX12_delay_48 rfl, c_12_181 (M := mX12_delay) dX12_delay_49 rfl, w_ireturn (M := mX12_delay) dX12_delay_52 rfl, w_aload_n0 (M := mX12_delay) dX12_delay_53, c_12_191 (M := mX12_delay) dX12_delay_54 rfl, w_aload_n0 (M := mX12_delay) dX12_delay_57, w_getA (M := mX12_delay) dX12_delay_58 f_12_7 rfl (by decide) (by decide), w_bipush (M := mX12_delay) (v := 117) dX12_delay_61 rfl, w_iconst (M := mX12_delay) (v := 4) dX12_delay_63 rfl, w_iload_n1 (M := mX12_delay) dX12_delay_64, w_imul (M := mX12_delay) dX12_delay_65, w_iadd (M := mX12_delay) dX12_delay_66, w_iload_n2 (M := mX12_delay) dX12_delay_67, w_iadd (M := mX12_delay) dX12_delay_68, w_iload_n3 (M := mX12_delay) dX12_delay_69, w_iastore (M := mX12_delay) dX12_delay_70, w_iconst (M := mX12_delay) (v := 1) dX12_delay_71 rfl, w_ireturn (M := mX12_delay) dX12_delay_72 rfl, Kn_v_, Kn_n_, kl_i_, kl_a_, kl_l_, kl_n_, s1_0_, s2_0_, s1_1, s1_2, s1_3, s1_4, s1_5, s1_6, s1_7, s1_8, s1_9, s1_10, s1_11, s1_12, s1_13, s1_14, s2_1, s2_2, s2_3, s2_4, s2_5, s2_6, s2_7, s2_8, s2_9, s2_10, s2_11, s2_12, s2_13, s2_14, List.map_nil, List.map_cons, List.sum_nil, List.sum_cons, ct_i_, ct_r_, ct_l_, t_si_, t_sl_, t_sr_, n_si_, n_sl_, n_sr_, i_si_, i_sl_, i_sr_, l_si_, l_sl_, l_sr_, r_si_, r_sl_, r_sr_, vr_s_, vr_n_, nz_0_, nz_1_, bI_0, bI_n, bI_t, bI_f, q_X12_in, q_X12_isEnd, q_X12_delayOf, q_X12_refusesIt, hR, hR.e, am_in1, c0, c1, c2, c3, j1, j2, c4, i_si_, i_sl_, i_sr_, t_si_, t_sl_, t_sr_, r_si_, r_sl_, l_si_, n_si_, n_sl_, show 117 + 4 * a + b < 20150 by omega, show (9 + 2 : Int32).toNatClampNeg = 11 from rfl, show (0 : Int32) ≤ 9 + 2 from by decide]
    · obtain ⟨n, h1, n1, n2, ck, kv, f1, f2, f3⟩ := keepS (d := d) k
      have hC1 : sh_C (a_t h1) (a_r h1) := kv.1.1
      have hR1 : sh_R (a_t h1) (a_r h1) := kv.1.2.1
      have e127 : a_i h1 127 = a_i h 127 := funext fun j => f1 127 j (by omega) (by omega)
      have ks : ∀ Q, Cal (d + 3) mX12_keepsStep [.ref 126] (s_i h1 8 (a * 4 + b) v2) Q = Q none (s_w (s_i h1 8 (a * 4 + b) v2) 127 (KS n (a_i h 127))) := by
        intro Q
        have := q_X12_keepsStep (d := d + 3) (Q := Q) (h := s_i h1 8 (a * 4 + b) v2) (eq_true hR1) (n := n) (by rw [a127_si (by omega), e127]; exact n1) n2
        rw [a127_si (by omega), e127] at this
        exact this
      refine ⟨1, s_i h1 8 (a * 4 + b) v2, s_i (s_w (s_i h1 8 (a * 4 + b) v2) 127 (KS n (a_i h 127))) 127 (117 + 4 * a + b) v2, fun Q => ?_, fun Q => ?_, ?_, rfl, by rw [ine (by omega), iwe rfl, ks_lo n2 (by omega) (by omega)]⟩
      · unfold Cal
        rw [l_X11_delay]
        simp only [am_en, am_ag, ct_i, ct_r, ct_l, List.length_cons, List.length_nil, List.replicate]
        simp [w_aload_n0 (M := mX11_delay) dX11_delay_0, w_iload_n1 (M := mX11_delay) dX11_delay_1, w_iload_n2 (M := mX11_delay) dX11_delay_2, c_11_88 (M := mX11_delay) dX11_delay_3 rfl, w_if_eq (M := mX11_delay) (tgt := 19) dX11_delay_6 (by decide), w_iload_n3 (M := mX11_delay) dX11_delay_9, w_iconst (M := mX11_delay) (v := 0) dX11_delay_10 rfl, w_bipush (M := mX11_delay) (v := 60) dX11_delay_11 rfl, c_11_56 (M := mX11_delay) dX11_delay_13 rfl, w_if_ne (M := mX11_delay) (tgt := 25) dX11_delay_16 (by decide), w_aload_n0 (M := mX11_delay) dX11_delay_19, w_iconst (M := mX11_delay) (v := 0) dX11_delay_20 rfl, c_11_78 (M := mX11_delay) dX11_delay_21 rfl, w_ireturn (M := mX11_delay) dX11_delay_24 rfl, w_aload_n0 (M := mX11_delay) dX11_delay_25, w_getO (M := mX11_delay) dX11_delay_26 f_11_10 rfl (by decide) (by decide), w_getO (M := mX11_delay) dX11_delay_29 f_11_82 rfl (by decide) (by decide), w_iload_n1 (M := mX11_delay) dX11_delay_32, w_iload_n2 (M := mX11_delay) dX11_delay_33, c_11_92 (M := mX11_delay) dX11_delay_34 rfl, w_iload_n3 (M := mX11_delay) dX11_delay_37, w_ic_ne (M := mX11_delay) (tgt := 47) dX11_delay_38 (by decide), w_aload_n0 (M := mX11_delay) dX11_delay_41, w_iconst (M := mX11_delay) (v := 2) dX11_delay_42 rfl, c_11_78 (M := mX11_delay) dX11_delay_43 rfl, w_ireturn (M := mX11_delay) dX11_delay_46 rfl, w_aload_n0 (M := mX11_delay) dX11_delay_47, w_getO (M := mX11_delay) dX11_delay_48 f_11_10 rfl (by decide) (by decide), c_11_95 (M := mX11_delay) dX11_delay_51 rfl, w_aload_n0 (M := mX11_delay) dX11_delay_54, w_getO (M := mX11_delay) dX11_delay_55 f_11_10 rfl (by decide) (by decide), w_getO (M := mX11_delay) dX11_delay_58 f_11_82 rfl (by decide) (by decide), w_getA (M := mX11_delay) dX11_delay_61 f_11_98 rfl (by decide) (by decide), w_iload_n1 (M := mX11_delay) dX11_delay_64, w_iconst (M := mX11_delay) (v := 4) dX11_delay_65 rfl, w_imul (M := mX11_delay) dX11_delay_66, w_iload_n2 (M := mX11_delay) dX11_delay_67, w_iadd (M := mX11_delay) dX11_delay_68, w_iload_n3 (M := mX11_delay) dX11_delay_69, w_iastore (M := mX11_delay) dX11_delay_70, w_iconst (M := mX11_delay) (v := 1) dX11_delay_71 rfl, w_ireturn (M := mX11_delay) dX11_delay_72 rfl, Kn_v_, Kn_n_, kl_i_, kl_a_, kl_l_, kl_n_, s1_0_, s2_0_, s1_1, s1_2, s1_3, s1_4, s1_5, s1_6, s1_7, s1_8, s1_9, s1_10, s1_11, s1_12, s1_13, s1_14, s2_1, s2_2, s2_3, s2_4, s2_5, s2_6, s2_7, s2_8, s2_9, s2_10, s2_11, s2_12, s2_13, s2_14, List.map_nil, List.map_cons, List.sum_nil, List.sum_cons, ct_i_, ct_r_, ct_l_, t_si_, t_sl_, t_sr_, n_si_, n_sl_, n_sr_, i_si_, i_sl_, i_sr_, l_si_, l_sl_, l_sr_, r_si_, r_sl_, r_sr_, vr_s_, vr_n_, nz_0_, nz_1_, bI_0, bI_n, bI_t, bI_f, q_X11_within, q_X11_areTwoEnds, q_X5_delayOf_7, hC, hC.e, kf, c0, c1, c2, c3, i1, i2, z, c4, am_in1, ck, hC1.e, show a * 4 + b < 16 by omega]
      · unfold Cal
        rw [l_X12_delay]
        simp only [am_en, am_ag, ct_i, ct_r, ct_l, List.length_cons, List.length_nil, List.replicate]
        simp [w_aload_n0 (M := mX12_delay) dX12_delay_0, w_iload_n1 (M := mX12_delay) dX12_delay_1, c_12_185 (M := mX12_delay) dX12_delay_2 rfl, w_if_eq (M := mX12_delay) (tgt := 31) dX12_delay_5 (by decide), w_aload_n0 (M := mX12_delay) dX12_delay_8, w_iload_n2 (M := mX12_delay) dX12_delay_9, c_12_185 (M := mX12_delay) dX12_delay_10 rfl, w_if_eq (M := mX12_delay) (tgt := 31) dX12_delay_13 (by decide), w_iload_n1 (M := mX12_delay) dX12_delay_16, w_iload_n2 (M := mX12_delay) dX12_delay_17, w_ic_eq (M := mX12_delay) (tgt := 31) dX12_delay_18 (by decide), w_iload_n3 (M := mX12_delay) dX12_delay_21, w_iconst (M := mX12_delay) (v := 0) dX12_delay_22 rfl, w_bipush (M := mX12_delay) (v := 60) dX12_delay_23 rfl, c_12_173 (M := mX12_delay) dX12_delay_25 rfl, w_if_ne (M := mX12_delay) (tgt := 37) dX12_delay_28 (by decide), w_aload_n0 (M := mX12_delay) dX12_delay_31, w_iconst (M := mX12_delay) (v := 0) dX12_delay_32 rfl, c_12_181 (M := mX12_delay) dX12_delay_33 rfl, w_ireturn (M := mX12_delay) dX12_delay_36 rfl, w_aload_n0 (M := mX12_delay) dX12_delay_37, w_iload_n1 (M := mX12_delay) dX12_delay_38, w_iload_n2 (M := mX12_delay) dX12_delay_39, c_12_188 (M := mX12_delay) dX12_delay_40 rfl, w_iload_n3 (M := mX12_delay) dX12_delay_43, w_ic_ne (M := mX12_delay) (tgt := 53) dX12_delay_44 (by decide), w_aload_n0 (M := mX12_delay) dX12_delay_47, w_iconst (M := mX12_delay) (v := 2) dX12_delay_48 rfl, c_12_181 (M := mX12_delay) dX12_delay_49 rfl, w_ireturn (M := mX12_delay) dX12_delay_52 rfl, w_aload_n0 (M := mX12_delay) dX12_delay_53, c_12_191 (M := mX12_delay) dX12_delay_54 rfl, w_aload_n0 (M := mX12_delay) dX12_delay_57, w_getA (M := mX12_delay) dX12_delay_58 f_12_7 rfl (by decide) (by decide), w_bipush (M := mX12_delay) (v := 117) dX12_delay_61 rfl, w_iconst (M := mX12_delay) (v := 4) dX12_delay_63 rfl, w_iload_n1 (M := mX12_delay) dX12_delay_64, w_imul (M := mX12_delay) dX12_delay_65, w_iadd (M := mX12_delay) dX12_delay_66, w_iload_n2 (M := mX12_delay) dX12_delay_67, w_iadd (M := mX12_delay) dX12_delay_68, w_iload_n3 (M := mX12_delay) dX12_delay_69, w_iastore (M := mX12_delay) dX12_delay_70, w_iconst (M := mX12_delay) (v := 1) dX12_delay_71 rfl, w_ireturn (M := mX12_delay) dX12_delay_72 rfl, Kn_v_, Kn_n_, kl_i_, kl_a_, kl_l_, kl_n_, s1_0_, s2_0_, s1_1, s1_2, s1_3, s1_4, s1_5, s1_6, s1_7, s1_8, s1_9, s1_10, s1_11, s1_12, s1_13, s1_14, s2_1, s2_2, s2_3, s2_4, s2_5, s2_6, s2_7, s2_8, s2_9, s2_10, s2_11, s2_12, s2_13, s2_14, List.map_nil, List.map_cons, List.sum_nil, List.sum_cons, ct_i_, ct_r_, ct_l_, t_si_, t_sl_, t_sr_, n_si_, n_sl_, n_sr_, i_si_, i_sl_, i_sr_, l_si_, l_sl_, l_sr_, r_si_, r_sl_, r_sr_, vr_s_, vr_n_, nz_0_, nz_1_, bI_0, bI_n, bI_t, bI_f, q_X12_in, q_X12_isEnd, q_X12_delayOf, hR1, hR1.e, am_in1, c0, c1, c2, c3, j1, j2, c4, ks, e127, t_sw_, r_sw_, show 117 + 4 * a + b < 20150 by omega]
      · rw [sw_si (by omega), show 117 + 4 * a + b = 117 + (a * 4 + b) by omega]
        exact Inv_delay kv (by omega) c3
  · refine opT_ref (r := 0) k (by omega) (ans := 0) (fun Q => ?_) (fun Q => ?_)
    · unfold Cal
      rw [l_X11_delay]
      simp only [am_en, am_ag, ct_i, ct_r, ct_l, List.length_cons, List.length_nil, List.replicate]
      by_cases c0 : inn v0 0 (a_i h 127 0 - 1) = true <;> by_cases c1 : inn v1 0 (a_i h 127 0 - 1) = true <;> by_cases c2 : v0 = v1 <;> by_cases c3 : inn v2 0 60 = true <;> simp [c0, c1, c2, c3] at c <;> simp [w_aload_n0 (M := mX11_delay) dX11_delay_0, w_iload_n1 (M := mX11_delay) dX11_delay_1, w_iload_n2 (M := mX11_delay) dX11_delay_2, c_11_88 (M := mX11_delay) dX11_delay_3 rfl, w_if_eq (M := mX11_delay) (tgt := 19) dX11_delay_6 (by decide), w_iload_n3 (M := mX11_delay) dX11_delay_9, w_iconst (M := mX11_delay) (v := 0) dX11_delay_10 rfl, w_bipush (M := mX11_delay) (v := 60) dX11_delay_11 rfl, c_11_56 (M := mX11_delay) dX11_delay_13 rfl, w_if_ne (M := mX11_delay) (tgt := 25) dX11_delay_16 (by decide), w_aload_n0 (M := mX11_delay) dX11_delay_19, w_iconst (M := mX11_delay) (v := 0) dX11_delay_20 rfl, c_11_78 (M := mX11_delay) dX11_delay_21 rfl, w_ireturn (M := mX11_delay) dX11_delay_24 rfl, w_aload_n0 (M := mX11_delay) dX11_delay_25, w_getO (M := mX11_delay) dX11_delay_26 f_11_10 rfl (by decide) (by decide), w_getO (M := mX11_delay) dX11_delay_29 f_11_82 rfl (by decide) (by decide), w_iload_n1 (M := mX11_delay) dX11_delay_32, w_iload_n2 (M := mX11_delay) dX11_delay_33, c_11_92 (M := mX11_delay) dX11_delay_34 rfl, w_iload_n3 (M := mX11_delay) dX11_delay_37, w_ic_ne (M := mX11_delay) (tgt := 47) dX11_delay_38 (by decide), w_aload_n0 (M := mX11_delay) dX11_delay_41, w_iconst (M := mX11_delay) (v := 2) dX11_delay_42 rfl, c_11_78 (M := mX11_delay) dX11_delay_43 rfl, w_ireturn (M := mX11_delay) dX11_delay_46 rfl, w_aload_n0 (M := mX11_delay) dX11_delay_47, w_getO (M := mX11_delay) dX11_delay_48 f_11_10 rfl (by decide) (by decide), c_11_95 (M := mX11_delay) dX11_delay_51 rfl, w_aload_n0 (M := mX11_delay) dX11_delay_54, w_getO (M := mX11_delay) dX11_delay_55 f_11_10 rfl (by decide) (by decide), w_getO (M := mX11_delay) dX11_delay_58 f_11_82 rfl (by decide) (by decide), w_getA (M := mX11_delay) dX11_delay_61 f_11_98 rfl (by decide) (by decide), w_iload_n1 (M := mX11_delay) dX11_delay_64, w_iconst (M := mX11_delay) (v := 4) dX11_delay_65 rfl, w_imul (M := mX11_delay) dX11_delay_66, w_iload_n2 (M := mX11_delay) dX11_delay_67, w_iadd (M := mX11_delay) dX11_delay_68, w_iload_n3 (M := mX11_delay) dX11_delay_69, w_iastore (M := mX11_delay) dX11_delay_70, w_iconst (M := mX11_delay) (v := 1) dX11_delay_71 rfl, w_ireturn (M := mX11_delay) dX11_delay_72 rfl, Kn_v_, Kn_n_, kl_i_, kl_a_, kl_l_, kl_n_, s1_0_, s2_0_, s1_1, s1_2, s1_3, s1_4, s1_5, s1_6, s1_7, s1_8, s1_9, s1_10, s1_11, s1_12, s1_13, s1_14, s2_1, s2_2, s2_3, s2_4, s2_5, s2_6, s2_7, s2_8, s2_9, s2_10, s2_11, s2_12, s2_13, s2_14, List.map_nil, List.map_cons, List.sum_nil, List.sum_cons, ct_i_, ct_r_, ct_l_, t_si_, t_sl_, t_sr_, n_si_, n_sl_, n_sr_, i_si_, i_sl_, i_sr_, l_si_, l_sl_, l_sr_, r_si_, r_sl_, r_sr_, vr_s_, vr_n_, nz_0_, nz_1_, bI_0, bI_n, bI_t, bI_f, q_X11_within, q_X11_areTwoEnds, q_X11_refuseFlatly, hC, hC.e, kf, c0, c1, c2, c3]
    · unfold Cal
      rw [l_X12_delay]
      simp only [am_en, am_ag, ct_i, ct_r, ct_l, List.length_cons, List.length_nil, List.replicate]
      by_cases c0 : inn v0 0 (a_i h 127 0 - 1) = true <;> by_cases c1 : inn v1 0 (a_i h 127 0 - 1) = true <;> by_cases c2 : v0 = v1 <;> by_cases c3 : inn v2 0 60 = true <;> simp [c0, c1, c2, c3] at c <;> simp [w_aload_n0 (M := mX12_delay) dX12_delay_0, w_iload_n1 (M := mX12_delay) dX12_delay_1, c_12_185 (M := mX12_delay) dX12_delay_2 rfl, w_if_eq (M := mX12_delay) (tgt := 31) dX12_delay_5 (by decide), w_aload_n0 (M := mX12_delay) dX12_delay_8, w_iload_n2 (M := mX12_delay) dX12_delay_9, c_12_185 (M := mX12_delay) dX12_delay_10 rfl, w_if_eq (M := mX12_delay) (tgt := 31) dX12_delay_13 (by decide), w_iload_n1 (M := mX12_delay) dX12_delay_16, w_iload_n2 (M := mX12_delay) dX12_delay_17, w_ic_eq (M := mX12_delay) (tgt := 31) dX12_delay_18 (by decide), w_iload_n3 (M := mX12_delay) dX12_delay_21, w_iconst (M := mX12_delay) (v := 0) dX12_delay_22 rfl, w_bipush (M := mX12_delay) (v := 60) dX12_delay_23 rfl, c_12_173 (M := mX12_delay) dX12_delay_25 rfl, w_if_ne (M := mX12_delay) (tgt := 37) dX12_delay_28 (by decide), w_aload_n0 (M := mX12_delay) dX12_delay_31, w_iconst (M := mX12_delay) (v := 0) dX12_delay_32 rfl, c_12_181 (M := mX12_delay) dX12_delay_33 rfl, w_ireturn (M := mX12_delay) dX12_delay_36 rfl, w_aload_n0 (M := mX12_delay) dX12_delay_37, w_iload_n1 (M := mX12_delay) dX12_delay_38, w_iload_n2 (M := mX12_delay) dX12_delay_39, c_12_188 (M := mX12_delay) dX12_delay_40 rfl, w_iload_n3 (M := mX12_delay) dX12_delay_43, w_ic_ne (M := mX12_delay) (tgt := 53) dX12_delay_44 (by decide), w_aload_n0 (M := mX12_delay) dX12_delay_47, w_iconst (M := mX12_delay) (v := 2) dX12_delay_48 rfl, c_12_181 (M := mX12_delay) dX12_delay_49 rfl, w_ireturn (M := mX12_delay) dX12_delay_52 rfl, w_aload_n0 (M := mX12_delay) dX12_delay_53, c_12_191 (M := mX12_delay) dX12_delay_54 rfl, w_aload_n0 (M := mX12_delay) dX12_delay_57, w_getA (M := mX12_delay) dX12_delay_58 f_12_7 rfl (by decide) (by decide), w_bipush (M := mX12_delay) (v := 117) dX12_delay_61 rfl, w_iconst (M := mX12_delay) (v := 4) dX12_delay_63 rfl, w_iload_n1 (M := mX12_delay) dX12_delay_64, w_imul (M := mX12_delay) dX12_delay_65, w_iadd (M := mX12_delay) dX12_delay_66, w_iload_n2 (M := mX12_delay) dX12_delay_67, w_iadd (M := mX12_delay) dX12_delay_68, w_iload_n3 (M := mX12_delay) dX12_delay_69, w_iastore (M := mX12_delay) dX12_delay_70, w_iconst (M := mX12_delay) (v := 1) dX12_delay_71 rfl, w_ireturn (M := mX12_delay) dX12_delay_72 rfl, Kn_v_, Kn_n_, kl_i_, kl_a_, kl_l_, kl_n_, s1_0_, s2_0_, s1_1, s1_2, s1_3, s1_4, s1_5, s1_6, s1_7, s1_8, s1_9, s1_10, s1_11, s1_12, s1_13, s1_14, s2_1, s2_2, s2_3, s2_4, s2_5, s2_6, s2_7, s2_8, s2_9, s2_10, s2_11, s2_12, s2_13, s2_14, List.map_nil, List.map_cons, List.sum_nil, List.sum_cons, ct_i_, ct_r_, ct_l_, t_si_, t_sl_, t_sr_, n_si_, n_sl_, n_sr_, i_si_, i_sl_, i_sr_, l_si_, l_sl_, l_sr_, r_si_, r_sl_, r_sr_, vr_s_, vr_n_, nz_0_, nz_1_, bI_0, bI_n, bI_t, bI_f, q_X12_in, q_X12_isEnd, q_X12_refusesIt, hR, hR.e, am_in1, c0, c1, c2, c3, i_si_, i_sl_, i_sr_, t_si_, t_sl_, t_sr_, r_si_, r_sl_, l_si_, n_si_, n_sl_]
theorem op_delay (k : Inv X h) {v0 v1 v2 : Int32} : opS X (d + 4) mX11_delay mX12_delay [.ref 0, .int v0, .int v1, .int v2] [.ref 126, .int v0, .int v1, .int v2] h := (ot_delay k).S
end ACTS
