/-! a whole state copied: the one side's call -/
section COPY6
variable {X : PX} {h : am_h} {d o o' : Nat} {g : Nat → Int32}
set_option maxRecDepth 20000 in
set_option maxHeartbeats 1000000 in
theorem cp_state (sh : ShI X h) (ho : (o = 0 ∧ o' = 33) ∨ (o = 33 ∧ o' = 0)) (k : rC (a_i h) (a_l h) (a_r h) o' g) (kz : ∀ i p, i < 30 → a_r h (25 + o) i = some p → ∀ e, e < 4 → a_i h (p + 5 + e) 0 = 0 ∨ a_i h (p + 5 + e) 0 = 1) : ∃ h', (∀ Q, Cal (d + 3) mX8_copyFrom [.ref (1 + o), .ref (1 + o')] h Q = Q none h') ∧ ShI X h' ∧ (∀ g', (∀ k, k < 20150 → g' k = g k) → rC (a_i h') (a_l h') (a_r h') o g')
    ∧ (∀ q j, q < 177 → ¬ (1 + o ≤ q ∧ q ≤ 33 + o) → a_i h' q j = a_i h q j ∧ a_l h' q j = a_l h q j)
    ∧ (∀ i p, i < 30 → a_r h (25 + o') i = some p → (∀ k j, k < 9 → a_i h' (p + k) j = a_i h (p + k) j) ∧ ∀ k, k < 9 → a_l h' (p + k) 13 = a_l h (p + k) 13)
    ∧ (∀ q j, q < 177 → ¬ q = 25 + o → a_r h' q j = a_r h q j) := by
  have oo : (o = 0 ∨ o = 33) ∧ (o' = 0 ∨ o' = 33) ∧ ¬ o = o' := by omega
  obtain ⟨⟨k1, k2, k3, k4, k5⟩, k6, k7, k8, k9⟩ := id k
  obtain ⟨n, n1, n2, n3⟩ := btn k5.1 (by omega) (by omega)
  have n4 : n ≤ 4 := by have := k5.1; unfold bt at this; omega
  obtain ⟨ca, a1, a2, a3⟩ := btn k5.2.2.2.2.1 (by omega) (by omega)
  have a4 : ca ≤ 8 := by have := k5.2.2.2.2.1; unfold bt at this; omega
  obtain ⟨ch, h1, h2, h3⟩ := btn k5.2.2.2.2.2.1 (by omega) (by omega)
  have h4 : ch ≤ 8 := by have := k5.2.2.2.2.2.1; unfold bt at this; omega
  have w := k9.1
  obtain ⟨T, t1, t2, t3⟩ := btn w.2.2.1 (by omega) (by omega)
  have t4 : T ≤ 90 := by have := w.2.2.1; unfold bt at this; omega
  obtain ⟨Y, y1, y2, y3⟩ := btn w.2.2.2.1 (by omega) (by omega)
  have y4 : Y ≤ 40 := by have := w.2.2.2.1; unfold bt at this; omega
  have hC := sh.1
  obtain ⟨f0, f1, f2, f3, f4, f5⟩ := shS hC oo.1
  obtain ⟨e0, e1, e2, e3, e4, e5⟩ := shS hC oo.2.1
  -- told
  obtain ⟨hA, rA, cA⟩ := cp_told (d := d + 2) (h := h) (p := 2 + o) (q := 2 + o') f1 e1 (by omega) (n := n) (by rw [k1.1]; exact n1) n4
  have uA : ∀ q j, ¬ (2 + o ≤ q ∧ q ≤ 6 + o) → a_i hA q j = a_i h q j := by
    intro q j c
    rw [cA.2.2, if_neg (by omega), ine (by omega)]
  have lA : a_l hA = a_l h := by rw [cA.2.1]; rfl
  have sA : sm h hA := ⟨cA.1.1, cA.1.2.1, cA.1.2.2⟩
  -- line
  have hCA : sh_C (a_t hA) (a_r hA) := by rw [sA.1, sA.2.1]; exact hC
  obtain ⟨hB, rB, cB⟩ := q_X5_copyFrom (d := d + 1) (h := hA) (p := 7 + o) (q := 7 + o') (shS hCA oo.1).2.2.1 (shS hCA oo.2.1).2.2.1 (by omega) (fun e he => by
    rw [uA _ _ (by omega), (k6.2.2.2.2.2.2 e he).1]
    exact (w.2.2.2.2.1 e he).1)
  obtain ⟨sB, cB1, cB2, cB3, uB, vB⟩ := cB
  have hCB : sh_C (a_t hB) (a_r hB) := by rw [sB.1, sB.2.1]; exact hCA
  -- book
  obtain ⟨hC1, hCc, rC', cC1, cC2⟩ := cp_book (d := d + 2) (h := hB) (p := 16 + o) (q := 16 + o') (L := 7 + o') (T := T) (Y := Y) (shS hCB oo.1).2.2.2.1 (shS hCB oo.2.1).2.2.2.1 (shS hCB oo.2.1).2.2.1.1 (by omega) (by omega) (by rw [uB _ _ (by omega), uA _ _ (by omega), k6.2.2.2.1]; exact t1) t4 (by rw [uB _ _ (by omega), uA _ _ (by omega), k6.2.2.2.2.1]; exact y1) y4
  have uC : ∀ q j, ¬ (17 + o ≤ q ∧ q ≤ 24 + o) → a_i hCc q j = a_i hB q j := by
    intro q j c
    rw [cC2.2.2, if_neg (by omega), cC1.2.2, if_neg (by omega)]
  have lC : a_l hCc = a_l hB := by rw [cC2.2.1, cC1.2.1]
  have sC : sm hB hCc := cC1.1.tr cC2.1
  have sABC : sm h hCc := (sA.tr sB).tr sC
  have uABC : ∀ q j, ¬ (2 + o ≤ q ∧ q ≤ 24 + o) → a_i hCc q j = a_i h q j := by
    intro q j c
    rw [uC _ _ (by omega), uB _ _ (by omega), uA _ _ (by omega)]
  have lABC : ∀ q j, ¬ (2 + o ≤ q ∧ q ≤ 24 + o) → a_l hCc q j = a_l h q j := by
    intro q j c
    rw [lC, vB _ _ (by omega), lA]
  have hCC : sh_C (a_t hCc) (a_r hCc) := by rw [sABC.1, sABC.2.1]; exact hC
  have sD := sh.2.2.1
  have shC : ShI X hCc := ShI_sm sh sABC (fun q0 e k j hk => by
    have s4 := sh.2.2.2.1
    unfold rPr at s4
    rcases s4 with z | ⟨q, q1, q2, q3, q4, q5⟩
    · rw [z] at e; exact absurd e (by simp)
    · rw [q1] at e
      injection e with e
      subst e
      exact uABC _ _ (by omega))
  have lnG : ∀ o1 i p, (o1 = 0 ∨ o1 = 33) → i < 30 → a_r h (25 + o1) i = some p → (∀ k j, k < 9 → a_i hCc (p + k) j = a_i h (p + k) j) ∧ ∀ k j, k < 9 → a_l hCc (p + k) j = a_l h (p + k) j := by
    intro o1 i p ho1 hi hp
    have z := (sD.2.1 o1 i p ho1 hi hp).1
    exact ⟨fun k j hk => uABC _ _ (by omega), fun k j hk => lABC _ _ (by omega)⟩
  have zsrc : ∀ i p, i < 30 → a_r hCc (25 + o') i = some p → ∀ e, e < 4 → a_i hCc (p + 5 + e) 0 = 0 ∨ a_i hCc (p + 5 + e) 0 = 1 := by
    intro i p hi hp e he
    rw [sABC.2.1] at hp
    have z := (lnG o' i p oo.2.1 hi hp).1 (5 + e) 0 (by omega)
    rw [← Nat.add_assoc] at z
    rw [z]
    exact k8.2.2 i p hi hp e he
  -- steps
  obtain ⟨hD, rD, cD⟩ := st_loop (d := d) (h := hCc) (o := o) (o' := o') ⟨shC, fun q hq => ⟨rfl, fun j => ⟨rfl, rfl, fun _ => rfl⟩⟩, fun i' p _ _ => ⟨fun _ _ _ => rfl, fun _ _ => rfl⟩, fun i' p hi' => absurd hi' (by omega), fun i p hi hp e he => by
    rw [sABC.2.1] at hp
    have z := (lnG o i p oo.1 hi hp).1 (5 + e) 0 (by omega)
    rw [← Nat.add_assoc] at z
    rw [z]
    exact kz i p hi hp e he⟩ ho zsrc
  obtain ⟨cD1, cD2, cD3, cD4, cD5⟩ := cD
  have uD : ∀ q j, q < 177 → a_i hD q j = a_i hCc q j := fun q j hq => ((cD2 q hq).2 j).1
  have hCD := cD1.1
  obtain ⟨g0, g1, g2, g3, g4, g5⟩ := shS hCD oo.1
  obtain ⟨m0, m1, m2, m3, m4, m5⟩ := shS hCD oo.2.1
  have src : ∀ q j, 1 + o' ≤ q → q ≤ 33 + o' → a_i hD q j = a_i h q j := fun q j z1 z2 => by rw [uD _ _ (by omega), uABC _ _ (by omega)]
  -- numbers
  obtain ⟨hE, eE⟩ : ∃ hE, hE = s_i (s_i (s_i (s_i hD (1 + o) 4 (a_i h (1 + o') 4)) (1 + o) 5 (a_i h (1 + o') 5)) (1 + o) 6 (a_i h (1 + o') 6)) (1 + o) 7 (a_i h (1 + o') 7) := ⟨_, rfl⟩
  have uE : ∀ q j, ¬ q = 1 + o → a_i hE q j = a_i hD q j := by
    intro q j c
    rw [eE]
    simp (disch := omega) only [ine]
  have sE : sm hD hE := by rw [eE]; exact ⟨rfl, rfl, rfl⟩
  have tE := shS (h := hE) (by rw [sE.1, sE.2.1]; exact hCD) oo.1
  have tE' := shS (h := hE) (by rw [sE.1, sE.2.1]; exact hCD) oo.2.1
  have key := lp (n := 3) (W := fun i (s : am_h) Q => WP (d + 3) mX8_copyFrom 108 [some (.ref (1 + o)), some (.ref (1 + o')), some (.int (nI i))] [] s Q) (P := fun i (s : am_h) => cpR hE s (26 + o) (26 + o') 1 i) (fun i s hi hs => ?_) 3 0 hE (by omega) cpR_0
  · obtain ⟨hF, rF, cF⟩ := key
    have uF : ∀ q j, ¬ q = 26 + o → a_i hF q j = a_i hE q j := by
      intro q j c
      rw [cF.2.2, if_neg (by omega)]
    obtain ⟨hG, eG⟩ : ∃ hG, hG = s_i (s_i (s_i hF (1 + o) 9 (a_i h (1 + o') 9)) (1 + o) 10 (a_i h (1 + o') 10)) (1 + o) 11 (a_i h (1 + o') 11) := ⟨_, rfl⟩
    have uG : ∀ q j, ¬ (q = 1 + o ∧ (j = 9 ∨ j = 10 ∨ j = 11)) → a_i hG q j = a_i hF q j := by
      intro q j c
      rw [eG]
      simp (disch := omega) only [ine]
    have sF : sm hE hF := cF.1
    have sG : sm hF hG := by rw [eG]; exact ⟨rfl, rfl, rfl⟩
    have sDG : sm hD hG := (sE.tr sF).tr sG
    have hCG : sh_C (a_t hG) (a_r hG) := by rw [sDG.1, sDG.2.1]; exact hCD
    have tF := shS (h := hF) (by rw [sF.1, sF.2.1, sE.1, sE.2.1]; exact hCD) oo.1
    have tF' := shS (h := hF) (by rw [sF.1, sF.2.1, sE.1, sE.2.1]; exact hCD) oo.2.1
    have tG := shS hCG oo.1
    have tG' := shS hCG oo.2.1
    have sG' : ∀ q j, 1 + o' ≤ q → q ≤ 33 + o' → a_i hG q j = a_i h q j := fun q j z1 z2 => by rw [uG _ _ (by omega), uF _ _ (by omega), uE _ _ (by omega), src q j z1 z2]
    -- agreed
    obtain ⟨hH, rH, cH⟩ := cp_agreed (d := d + 2) (h := hG) (p := 27 + o) (q := 27 + o') tG.2.2.2.2.1 tG'.2.2.2.2.1 (by omega) (n := ca) (by rw [sG' _ _ (by omega) (by omega), k3.1]; exact a1) a4
    have uH : ∀ q j, ¬ (27 + o ≤ q ∧ q ≤ 30 + o) → a_i hH q j = a_i hG q j := by
      intro q j c
      rw [cH.2.2, if_neg (by omega), ine (by omega)]
    have sH : sm hG hH := ⟨cH.1.1, cH.1.2.1, cH.1.2.2⟩
    have hCH : sh_C (a_t hH) (a_r hH) := by rw [sH.1, sH.2.1]; exact hCG
    have tH := shS hCH oo.1
    have tH' := shS hCH oo.2.1
    -- answers
    obtain ⟨hI, rI, cI⟩ := cp_answers (d := d + 2) (h := hH) (p := 31 + o) (q := 31 + o') tH.2.2.2.2.2 tH'.2.2.2.2.2 (by omega) (n := ch) (by rw [uH _ _ (by omega), sG' _ _ (by omega) (by omega), k4.1]; exact h1) h4
    have uI : ∀ q j, ¬ (31 + o ≤ q ∧ q ≤ 33 + o) → a_i hI q j = a_i hH q j := by
      intro q j c
      rw [cI.2.2, if_neg (by omega), ine (by omega)]
    have sI : sm hH hI := ⟨cI.1.1, cI.1.2.1, cI.1.2.2⟩
    have sDI : sm hD hI := (sDG.tr sH).tr sI
    have uDI : ∀ q j, ¬ (q = 1 + o) → ¬ (26 + o ≤ q ∧ q ≤ 33 + o) → a_i hI q j = a_i hD q j := by
      intro q j z1 z2
      rw [uI _ _ (by omega), uH _ _ (by omega), uG _ _ (by omega), uF _ _ (by omega), uE _ _ (by omega)]
    have lDI : a_l hI = a_l hD := by
      rw [cI.2.1]
      show a_l hH = _
      rw [cH.2.1]
      show a_l hG = _
      rw [eG]
      show a_l hF = _
      rw [cF.2.1, eE]
      rfl
    have fr : ∀ q j, q < 177 → ¬ (1 + o ≤ q ∧ q ≤ 33 + o) → a_i hI q j = a_i h q j ∧ a_l hI q j = a_l h q j := by
      intro q j z1 z2
      rw [uDI _ _ (by omega) (by omega), uD _ _ z1, uABC _ _ (by omega), lDI, ((cD2 q z1).2 j).2.1, lABC _ _ (by omega)]
      exact ⟨rfl, rfl⟩
    have big : ∀ q j, 177 ≤ q → a_i hI q j = a_i hD q j := fun q j hq => uDI _ _ (by omega) (by omega)
    refine ⟨hI, fun Q => ?_, ShI_sm cD1 sDI (fun q0 e k j hk => ?_), fun g' hg => ?_, fr, fun i p hi hp => ?_, fun q j hq c => ?_⟩
    · unfold Cal
      rw [l_X8_copyFrom]
      simp only [am_en, am_ag, ct_i, ct_r, ct_l, List.length_cons, List.length_nil, List.replicate]
      have B0 := shS hCB oo.1
      have B1 := shS hCB oo.2.1
      have A0 := shS hCA oo.1
      have A1 := shS hCA oo.2.1
      simp [w_aload_n0 (M := mX8_copyFrom) dX8_copyFrom_0, w_getO (M := mX8_copyFrom) dX8_copyFrom_1 f_8_12 rfl (by decide) (by decide), w_aload_n1 (M := mX8_copyFrom) dX8_copyFrom_4, w_getO (M := mX8_copyFrom) dX8_copyFrom_5 f_8_12 rfl (by decide) (by decide), c_8_60 (M := mX8_copyFrom) dX8_copyFrom_8 rfl, w_aload_n0 (M := mX8_copyFrom) dX8_copyFrom_11, w_getO (M := mX8_copyFrom) dX8_copyFrom_12 f_8_21 rfl (by decide) (by decide), w_aload_n1 (M := mX8_copyFrom) dX8_copyFrom_15, w_getO (M := mX8_copyFrom) dX8_copyFrom_16 f_8_21 rfl (by decide) (by decide), c_8_64 (M := mX8_copyFrom) dX8_copyFrom_19 rfl, w_aload_n0 (M := mX8_copyFrom) dX8_copyFrom_22, w_getO (M := mX8_copyFrom) dX8_copyFrom_23 f_8_30 rfl (by decide) (by decide), w_aload_n1 (M := mX8_copyFrom) dX8_copyFrom_26, w_getO (M := mX8_copyFrom) dX8_copyFrom_27 f_8_30 rfl (by decide) (by decide), w_aload_n1 (M := mX8_copyFrom) dX8_copyFrom_30, w_getO (M := mX8_copyFrom) dX8_copyFrom_31 f_8_21 rfl (by decide) (by decide), c_8_67 (M := mX8_copyFrom) dX8_copyFrom_34 rfl, w_iconst (M := mX8_copyFrom) (v := 0) dX8_copyFrom_37 rfl, w_istore_n (M := mX8_copyFrom) (i := 2) dX8_copyFrom_38 rfl (by decide), Kn_v_, Kn_n_, kl_i_, kl_a_, kl_l_, kl_n_, s1_0_, s2_0_, s1_1, s1_2, s1_3, s1_4, s1_5, s1_6, s1_7, s1_8, s1_9, s1_10, s1_11, s1_12, s1_13, s1_14, s2_1, s2_2, s2_3, s2_4, s2_5, s2_6, s2_7, s2_8, s2_9, s2_10, s2_11, s2_12, s2_13, s2_14, List.map_nil, List.map_cons, List.sum_nil, List.sum_cons, ct_i_, ct_r_, ct_l_, t_si_, t_sl_, t_sr_, n_si_, n_sl_, n_sr_, i_si_, i_sl_, i_sr_, l_si_, l_sl_, l_sr_, r_si_, r_sl_, r_sr_, vr_s_, vr_n_, nz_0_, nz_1_, f0, e0, f1.1, rA, A0.1, A1.1, A0.2.2.1.1, rB, B0.1, B1.1, B0.2.2.2.1.1, rC']
      refine Eq.to_iff (Eq.trans (rD Q) ?_)
      have s4 := src (1 + o') 4 (by omega) (by omega)
      have s5 := src (1 + o') 5 (by omega) (by omega)
      have s6 := src (1 + o') 6 (by omega) (by omega)
      have s7 := src (1 + o') 7 (by omega) (by omega)
      have ne : ¬ 1 + o' = 1 + o := by omega
      simp [w_aload_n0 (M := mX8_copyFrom) dX8_copyFrom_74, w_aload_n1 (M := mX8_copyFrom) dX8_copyFrom_75, w_getI (M := mX8_copyFrom) dX8_copyFrom_76 f_8_74 rfl (by decide) (by decide), w_putI (M := mX8_copyFrom) dX8_copyFrom_79 f_8_74 rfl (Or.inl rfl), w_aload_n0 (M := mX8_copyFrom) dX8_copyFrom_82, w_aload_n1 (M := mX8_copyFrom) dX8_copyFrom_83, w_getI (M := mX8_copyFrom) dX8_copyFrom_84 f_8_77 rfl (by decide) (by decide), w_putI (M := mX8_copyFrom) dX8_copyFrom_87 f_8_77 rfl (Or.inl rfl), w_aload_n0 (M := mX8_copyFrom) dX8_copyFrom_90, w_aload_n1 (M := mX8_copyFrom) dX8_copyFrom_91, w_getI (M := mX8_copyFrom) dX8_copyFrom_92 f_8_80 rfl (by decide) (by decide), w_putI (M := mX8_copyFrom) dX8_copyFrom_95 f_8_80 rfl (Or.inl rfl), w_aload_n0 (M := mX8_copyFrom) dX8_copyFrom_98, w_aload_n1 (M := mX8_copyFrom) dX8_copyFrom_99, w_getI (M := mX8_copyFrom) dX8_copyFrom_100 f_8_38 rfl (by decide) (by decide), w_putI (M := mX8_copyFrom) dX8_copyFrom_103 f_8_38 rfl (Or.inl rfl), w_iconst (M := mX8_copyFrom) (v := 0) dX8_copyFrom_106 rfl, w_istore_n (M := mX8_copyFrom) (i := 2) dX8_copyFrom_107 rfl (by decide), Kn_v_, Kn_n_, kl_i_, kl_a_, kl_l_, kl_n_, s1_0_, s2_0_, s1_1, s1_2, s1_3, s1_4, s1_5, s1_6, s1_7, s1_8, s1_9, s1_10, s1_11, s1_12, s1_13, s1_14, s2_1, s2_2, s2_3, s2_4, s2_5, s2_6, s2_7, s2_8, s2_9, s2_10, s2_11, s2_12, s2_13, s2_14, List.map_nil, List.map_cons, List.sum_nil, List.sum_cons, ct_i_, ct_r_, ct_l_, t_si_, t_sl_, t_sr_, n_si_, n_sl_, n_sr_, i_si_, i_sl_, i_sr_, l_si_, l_sl_, l_sr_, r_si_, r_sl_, r_sr_, vr_s_, vr_n_, nz_0_, nz_1_, g0, m0, s4, s5, s6, s7, show ¬ o' = o by omega, ← eE]
      refine Eq.to_iff (Eq.trans (rF Q) ?_)
      have s9 : a_i hF (1 + o') 9 = a_i h (1 + o') 9 := by rw [uF _ _ (by omega), uE _ _ (by omega), src _ _ (by omega) (by omega)]
      have s10 : a_i hF (1 + o') 10 = a_i h (1 + o') 10 := by rw [uF _ _ (by omega), uE _ _ (by omega), src _ _ (by omega) (by omega)]
      have s11 : a_i hF (1 + o') 11 = a_i h (1 + o') 11 := by rw [uF _ _ (by omega), uE _ _ (by omega), src _ _ (by omega) (by omega)]
      rw [w_iload_n2 (M := mX8_copyFrom) dX8_copyFrom_108]
      simp [w_aload_n0 (M := mX8_copyFrom) dX8_copyFrom_109, w_getA (M := mX8_copyFrom) dX8_copyFrom_110 f_8_42 rfl (by decide) (by decide), w_alen (M := mX8_copyFrom) dX8_copyFrom_113, w_ic_ge (M := mX8_copyFrom) (tgt := 135) dX8_copyFrom_114 (by decide), w_aload_n0 (M := mX8_copyFrom) dX8_copyFrom_117, w_getA (M := mX8_copyFrom) dX8_copyFrom_118 f_8_42 rfl (by decide) (by decide), w_iload_n2 (M := mX8_copyFrom) dX8_copyFrom_121, w_aload_n1 (M := mX8_copyFrom) dX8_copyFrom_122, w_getA (M := mX8_copyFrom) dX8_copyFrom_123 f_8_42 rfl (by decide) (by decide), w_iload_n2 (M := mX8_copyFrom) dX8_copyFrom_126, w_iaload (M := mX8_copyFrom) dX8_copyFrom_127, w_iastore (M := mX8_copyFrom) dX8_copyFrom_128, w_iinc2 (M := mX8_copyFrom) (v := 1) dX8_copyFrom_129 rfl (by decide), w_goto (M := mX8_copyFrom) (tgt := 108) dX8_copyFrom_132 (by decide), w_aload_n0 (M := mX8_copyFrom) dX8_copyFrom_135, w_aload_n1 (M := mX8_copyFrom) dX8_copyFrom_136, w_getI (M := mX8_copyFrom) dX8_copyFrom_137 f_8_83 rfl (by decide) (by decide), w_putI (M := mX8_copyFrom) dX8_copyFrom_140 f_8_83 rfl (Or.inl rfl), w_aload_n0 (M := mX8_copyFrom) dX8_copyFrom_143, w_aload_n1 (M := mX8_copyFrom) dX8_copyFrom_144, w_getI (M := mX8_copyFrom) dX8_copyFrom_145 f_8_86 rfl (by decide) (by decide), w_putI (M := mX8_copyFrom) dX8_copyFrom_148 f_8_86 rfl (Or.inl rfl), w_aload_n0 (M := mX8_copyFrom) dX8_copyFrom_151, w_aload_n1 (M := mX8_copyFrom) dX8_copyFrom_152, w_getI (M := mX8_copyFrom) dX8_copyFrom_153 f_8_89 rfl (by decide) (by decide), w_putI (M := mX8_copyFrom) dX8_copyFrom_156 f_8_89 rfl (Or.inl rfl), w_aload_n0 (M := mX8_copyFrom) dX8_copyFrom_159, w_getO (M := mX8_copyFrom) dX8_copyFrom_160 f_8_49 rfl (by decide) (by decide), w_aload_n1 (M := mX8_copyFrom) dX8_copyFrom_163, w_getO (M := mX8_copyFrom) dX8_copyFrom_164 f_8_49 rfl (by decide) (by decide), c_8_92 (M := mX8_copyFrom) dX8_copyFrom_167 rfl, w_aload_n0 (M := mX8_copyFrom) dX8_copyFrom_170, w_getO (M := mX8_copyFrom) dX8_copyFrom_171 f_8_56 rfl (by decide) (by decide), w_aload_n1 (M := mX8_copyFrom) dX8_copyFrom_174, w_getO (M := mX8_copyFrom) dX8_copyFrom_175 f_8_56 rfl (by decide) (by decide), c_8_95 (M := mX8_copyFrom) dX8_copyFrom_178 rfl, w_vret (M := mX8_copyFrom) dX8_copyFrom_181 rfl, Kn_v_, Kn_n_, kl_i_, kl_a_, kl_l_, kl_n_, s1_0_, s2_0_, s1_1, s1_2, s1_3, s1_4, s1_5, s1_6, s1_7, s1_8, s1_9, s1_10, s1_11, s1_12, s1_13, s1_14, s2_1, s2_2, s2_3, s2_4, s2_5, s2_6, s2_7, s2_8, s2_9, s2_10, s2_11, s2_12, s2_13, s2_14, List.map_nil, List.map_cons, List.sum_nil, List.sum_cons, ct_i_, ct_r_, ct_l_, t_si_, t_sl_, t_sr_, n_si_, n_sl_, n_sr_, i_si_, i_sl_, i_sr_, l_si_, l_sl_, l_sr_, r_si_, r_sl_, r_sr_, vr_s_, vr_n_, nz_0_, nz_1_, tF.1, tF'.1, show Int32.ofNat 3 = 3 from rfl, show (nI 3 < 3) = False from nI_ltF (b := 3) (Nat.le_refl 3) (by omega), s9, s10, s11, show ¬ o' = o by omega, ← eG, tG.1, tG'.1, tG.2.2.2.2.1.1, rH, tH.1, tH'.1, tH.2.2.2.2.2.1, rI]
    · have s4 := cD1.2.2.2.1
      unfold rPr at s4
      rcases s4 with z | ⟨q, q1, q2, q3, q4, q5⟩
      · rw [z] at e; exact absurd e (by simp)
      · rw [q1] at e
        injection e with e
        subst e
        exact big _ _ (by omega)
    · refine rC_cp k ?_ (fun k j hk hj => ?_) ⟨fun j hj => ?_, fun k j h1 h2 h3 => ?_, fun e he => ⟨fun j hj => ?_, ?_⟩⟩ (fun k j hk hj => ?_) (fun k j hk hj => ?_) (fun j hj => ?_) (fun j hj => ?_) ?_ (fun k j hk hj => ?_) ?_ (fun k j hk hj => ?_) (fun i p hi hp => ?_) (fun i p hi hp e he => ?_) hg
      · rw [uDI _ _ (by omega) (by omega), uD _ _ (by omega), uC _ _ (by omega), uB _ _ (by omega), cA.2.2, if_neg (by omega), ieq rfl rfl, k1.1]
        exact n1.symm
      · rw [uDI _ _ (by omega) (by omega), uD _ _ (by omega), uC _ _ (by omega), uB _ _ (by omega), cA.2.2, if_pos (by omega), ine (by omega)]
        congr 1
        omega
      · rw [uDI _ _ (by omega) (by omega), uD _ _ (by omega), uC _ _ (by omega), cB1 j hj, uA _ _ (by omega)]
      · rw [uDI _ _ (by omega) (by omega), uD _ _ (by omega), uC _ _ (by omega), cB2 k j h1 h2 h3, uA _ _ (by omega)]
      · rw [uDI _ _ (by omega) (by omega), uD _ _ (by omega), uC _ _ (by omega), (cB3 e he).1 j hj, uA _ _ (by omega)]
      · rw [lDI, ((cD2 _ (by omega)).2 13).2.1, lC, (cB3 e he).2, lA]
      · have e3' : Nn (g 165) = T := t3
        rw [uDI _ _ (by omega) (by omega), uD _ _ (by omega), cC2.2.2, if_neg (by omega), cC1.2.2, if_pos (by omega), uB _ _ (by omega), uA _ _ (by omega)]
        congr 1
        omega
      · have e3' : Nn (g 616) = Y := y3
        rw [uDI _ _ (by omega) (by omega), uD _ _ (by omega), cC2.2.2, if_pos (by omega), cC1.2.2, if_neg (by omega), uB _ _ (by omega), uA _ _ (by omega)]
        congr 1
        omega
      · rw [uI _ _ (by omega), uH _ _ (by omega)]
        rcases hj with rfl | rfl | rfl | rfl | rfl | rfl | rfl
        · rw [uG _ _ (by omega), uF _ _ (by omega), eE]; simp (disch := omega) only [ine, ieq]
        · rw [uG _ _ (by omega), uF _ _ (by omega), eE]; simp (disch := omega) only [ine, ieq]
        · rw [uG _ _ (by omega), uF _ _ (by omega), eE]; simp (disch := omega) only [ine, ieq]
        · rw [uG _ _ (by omega), uF _ _ (by omega), eE]; simp (disch := omega) only [ine, ieq]
        · rw [eG]; simp (disch := omega) only [ine, ieq]
        · rw [eG]; simp (disch := omega) only [ine, ieq]
        · rw [eG]; simp (disch := omega) only [ine, ieq]
      · rw [uI _ _ (by omega), uH _ _ (by omega), uG _ _ (by omega), cF.2.2, if_pos (by omega), uE _ _ (by omega), src _ _ (by omega) (by omega)]
        congr 1
        omega
      · rw [uI _ _ (by omega), cH.2.2, if_neg (by omega), ieq rfl rfl, k3.1]
        exact a1.symm
      · rw [uI _ _ (by omega), cH.2.2, if_pos (by omega), ine (by omega), sG' _ _ (by omega) (by omega)]
        congr 1
        omega
      · rw [cI.2.2, if_neg (by omega), ieq rfl rfl, k4.1]
        exact h1.symm
      · rw [cI.2.2, if_pos (by omega), ine (by omega), uH _ _ (by omega), sG' _ _ (by omega) (by omega)]
        congr 1
        omega
      · obtain ⟨p', z1, z2, z3, z4⟩ := cD4 i p hi (by rw [sABC.2.1]; exact hp)
        have y := (cD1.2.2.1.2.1 o i p' oo.1 hi z1).1
        have ln := lnG o' i p oo.2.1 hi hp
        refine ⟨p', by rw [sDI.2.1]; exact z1, fun j hj => ?_, fun k j h1 h2 h3 => ?_, fun e he => ⟨fun j hj => ?_, ?_⟩⟩
        · rw [big _ _ (by omega), z2 j hj]; exact ln.1 0 j (by omega)
        · rw [big _ _ (by omega), z3 k j h1 h2 h3]; exact ln.1 k j (by omega)
        · rw [big _ _ (by omega), (z4 e he).1 j hj, show p + 5 + e = p + (5 + e) by omega]; exact ln.1 (5 + e) j (by omega)
        · rw [lDI, (z4 e he).2, show p + 5 + e = p + (5 + e) by omega]; exact ln.2 (5 + e) 13 (by omega)
      · rw [sDI.2.1] at hp
        have y := (cD1.2.2.1.2.1 o i p oo.1 hi hp).1
        rw [big _ _ (by omega)]
        exact cD5 i p hi hp e he
    · have z := cD3 i p hi (by rw [sABC.2.1]; exact hp)
      have ln := lnG o' i p oo.2.1 hi hp
      have y := (sD.2.1 o' i p oo.2.1 hi hp).1
      refine ⟨fun k j hk => ?_, fun k hk => ?_⟩
      · rw [big _ _ (by omega), z.1 k j hk]; exact ln.1 k j hk
      · rw [lDI, z.2 k hk]; exact ln.2 k 13 hk
    · rw [sDI.2.1, ((cD2 q hq).2 j).2.2 c, sABC.2.1]
  · have t2 := tE.1
    have t2' := tE'.1
    rw [← hs.1.1, ← hs.1.2.1] at t2 t2'
    refine ⟨s_i s (26 + o) i (a_i s (26 + o') i), fun Q => ?_, cpR_s hs (by omega) rfl⟩
    rw [w_iload_n2 (M := mX8_copyFrom) dX8_copyFrom_108]
    simp [w_aload_n0 (M := mX8_copyFrom) dX8_copyFrom_109, w_getA (M := mX8_copyFrom) dX8_copyFrom_110 f_8_42 rfl (by decide) (by decide), w_alen (M := mX8_copyFrom) dX8_copyFrom_113, w_ic_ge (M := mX8_copyFrom) (tgt := 135) dX8_copyFrom_114 (by decide), w_aload_n0 (M := mX8_copyFrom) dX8_copyFrom_117, w_getA (M := mX8_copyFrom) dX8_copyFrom_118 f_8_42 rfl (by decide) (by decide), w_iload_n2 (M := mX8_copyFrom) dX8_copyFrom_121, w_aload_n1 (M := mX8_copyFrom) dX8_copyFrom_122, w_getA (M := mX8_copyFrom) dX8_copyFrom_123 f_8_42 rfl (by decide) (by decide), w_iload_n2 (M := mX8_copyFrom) dX8_copyFrom_126, w_iaload (M := mX8_copyFrom) dX8_copyFrom_127, w_iastore (M := mX8_copyFrom) dX8_copyFrom_128, w_iinc2 (M := mX8_copyFrom) (v := 1) dX8_copyFrom_129 rfl (by decide), w_goto (M := mX8_copyFrom) (tgt := 108) dX8_copyFrom_132 (by decide), Kn_v_, Kn_n_, kl_i_, kl_a_, kl_l_, kl_n_, s1_0_, s2_0_, s1_1, s1_2, s1_3, s1_4, s1_5, s1_6, s1_7, s1_8, s1_9, s1_10, s1_11, s1_12, s1_13, s1_14, s2_1, s2_2, s2_3, s2_4, s2_5, s2_6, s2_7, s2_8, s2_9, s2_10, s2_11, s2_12, s2_13, s2_14, List.map_nil, List.map_cons, List.sum_nil, List.sum_cons, ct_i_, ct_r_, ct_l_, t_si_, t_sl_, t_sr_, n_si_, n_sl_, n_sr_, i_si_, i_sl_, i_sr_, l_si_, l_sl_, l_sr_, r_si_, r_sl_, r_sr_, vr_s_, vr_n_, nz_0_, nz_1_, t2, t2', show Int32.ofNat 3 = 3 from rfl, show (nI i < 3) = True from nI_ltT (b := 3) hi (by omega), in1_n (k := i) (n := 3) (by omega), hi, nI_c (a := i) (by omega), nI_s]
end COPY6
