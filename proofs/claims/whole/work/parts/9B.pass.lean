/-! a tenth, and so many: the class -/
section PASS
variable {p e n m B d j K : Nat} {s : TS} {h0 h : am_h} {g : Nat → Int32} {H : Nat → Nat → Bool} {VW VS VL : (Nat → Int32) → Int32 → Int32} {t1 b1 i1 : Int32}
/-- what stands while tenths go by -/
def cBs (m p B n : Nat) (g : Nat → Int32) (VW VS VL : (Nat → Int32) → Int32 → Int32) (h0 : am_h) : Prop := mpB m p B ∧ LX h0 0 VW ∧ LX h0 1 VS ∧ LX h0 2 VL ∧ gB g n ∧ a_i h0 2 4 = nI n ∧ ∀ e, e < n → tdC h0 g e
theorem LIS_s {H : Nat → Nat → Bool} : LIS s H (j + 1) = if bN (H j) = 0 then LIS s H j else up (up (LIS s H j) 5 j (low4 (H j))) 6 j (s 0 1 + 1) := by
  funext c i
  by_cases b : bN (H j) = 0
  · rw [if_pos b]
    unfold LIS
    by_cases q : i = j
    · subst q
      simp [b]
    · have : (i < j + 1) = (i < j) := propext ⟨fun _ => by omega, fun _ => by omega⟩
      simp only [this]
  · rw [if_neg b]
    unfold up
    by_cases q : c = 6 ∧ i = j
    · obtain ⟨q1, q2⟩ := q
      subst q1 q2
      rw [if_pos ⟨rfl, rfl⟩]
      unfold LIS
      rw [if_neg (by omega), if_neg (by omega), if_pos ⟨rfl, by omega, b⟩]
    · rw [if_neg q]
      by_cases q5 : c = 5 ∧ i = j
      · obtain ⟨q1, q2⟩ := q5
        subst q1 q2
        rw [if_pos ⟨rfl, rfl⟩]
        unfold LIS
        rw [if_neg (by omega), if_pos ⟨rfl, by omega, b⟩]
      · rw [if_neg q5]
        unfold LIS
        have e5 : (c = 5 ∧ i < j + 1 ∧ ¬ bN (H i) = 0) = (c = 5 ∧ i < j ∧ ¬ bN (H i) = 0) := propext ⟨fun z => ⟨z.1, by omega, z.2.2⟩, fun z => ⟨z.1, by omega, z.2.2⟩⟩
        have e6 : (c = 6 ∧ i < j + 1 ∧ ¬ bN (H i) = 0) = (c = 6 ∧ i < j ∧ ¬ bN (H i) = 0) := propext ⟨fun z => ⟨z.1, by omega, z.2.2⟩, fun z => ⟨z.1, by omega, z.2.2⟩⟩
        simp only [e5, e6]
/-- the line's tenth -/
theorem cK.ut (hm : mpB m p B) (Kc : cK m p h0 h s) : cK m p h0 (s_i h p 0 (s 0 1 + 1)) (LIS s H 0) := by
  obtain ⟨k1, k2, k3, k4, k5⟩ := Kc
  have L : ∀ c i, ¬ (c = 0 ∧ i = 1) → LIS s H 0 c i = s c i := by
    intro c i hc
    unfold LIS
    rw [if_neg hc, if_neg (by omega), if_neg (by omega)]
  have L1 : LIS s H 0 0 1 = s 0 1 + 1 := rfl
  refine ⟨k1.tr ⟨rfl, rfl, rfl⟩, ?_, fun z => ?_, fun q i c => ?_, fun q i c => k5 q i c⟩
  · obtain ⟨⟨m0, m1, m2, m3, m4⟩, m5, m6⟩ := k2
    refine ⟨⟨?_, ?_, ?_, ?_, ?_⟩, fun k hk => ?_, fun e he => ?_⟩
    · rw [ieq rfl rfl, L1]
    · rw [ine (by omega), L _ _ (by omega)]; exact m1
    · rw [ine (by omega), L _ _ (by omega)]; exact m2
    · rw [ine (by omega), L _ _ (by omega)]; exact m3
    · rw [ine (by omega), L _ _ (by omega)]; exact m4
    · rw [ine (by omega), ine (by omega), ine (by omega), L _ _ (by omega), L _ _ (by omega), L _ _ (by omega)]
      exact m5 k hk
    · have z := m6 e he
      unfold rMe at z ⊢
      simp (disch := omega) only [ine, L]
      exact z
  · refine rBk_s (s := s) (fun c i hc => L c i (by omega)) ?_
    exact rBk_fr (fun k i hk => ine (by unfold mpB at hm; omega)) (k3 z)
  · rw [ine (fun z => c (by unfold tch; omega))]
    exact k4 q i c
/-- delays within bounds -/
def dB (s : TS) : Prop := ∀ k, k < 16 → bt 0 (s 7 k) 60
set_option maxRecDepth 20000 in
set_option maxHeartbeats 2000000 in
theorem c_pass1 (b : cBs m p B n g VW VS VL h0) (hd : dB s) (Kc : cK m p h0 h (LIS s (hB s n) 0)) : ∃ h', (∀ Q, WP (d + 4) mX5_pass 28 [some (.ref p), some (.int t1), some (.ref 2), some (.ref 91), some (.ref B), some (.int b1), some (.int i1), some (.int (nI 0))] [] h Q = WP (d + 4) mX5_pass 53 [some (.ref p), some (.int t1), some (.ref 2), some (.ref 91), some (.ref B), some (.int b1), some (.int i1), some (.int (nI n))] [] h' Q) ∧ cK m p h0 h' (LIS s (hB s n) n) ∧ ∀ e, e < n → a_i h' (p + 5 + e) 4 = nI (bN (hB s n e)) := by
  obtain ⟨hm, x0, x1, x2, G, gn, td⟩ := b
  have n4 := G.1
  have st : ∀ (i : Nat) (x : am_h), i < n → (cK m p h0 x (LIS s (hB s n) i) ∧ ∀ e, e < i → a_i x (p + 5 + e) 4 = nI (bN (hB s n e))) → ∃ x', (∀ Q, WP (d + 4) mX5_pass 28 [some (.ref p), some (.int t1), some (.ref 2), some (.ref 91), some (.ref B), some (.int b1), some (.int i1), some (.int (nI i))] [] x Q = WP (d + 4) mX5_pass 28 [some (.ref p), some (.int t1), some (.ref 2), some (.ref 91), some (.ref B), some (.int b1), some (.int i1), some (.int (nI (i + 1)))] [] x' Q) ∧ (cK m p h0 x' (LIS s (hB s n) (i + 1)) ∧ ∀ e, e < i + 1 → a_i x' (p + 5 + e) 4 = nI (bN (hB s n e))) := by
    intro i x hi ⟨Kx, hx⟩
    have hCx := Kx.C x0.1
    have tx := Kx.td hm (td i hi)
    have cn : a_i x 2 4 = nI n := tx.1.trans G.2.1
    have hp := shL_m hm hCx
    have a0 : a_i x p 0 = s 0 1 + 1 := (Kx.en (e := 0) (by omega)).1
    have l7 : ∀ k, LIS s (hB s n) i 7 k = s 7 k := fun k => by
      unfold LIS
      rw [if_neg (by omega), if_neg (by omega), if_neg (by omega)]
    have l30 : ∀ f k, LIS s (hB s n) i (30 + f) k = s (30 + f) k := fun f k => by
      unfold LIS
      rw [if_neg (by omega), if_neg (by omega), if_neg (by omega)]
    have ql := fun d Q => q_listen (d := d) (Q := Q) (H := hB s n i) hp n4 hi (fun f hf => by
      obtain ⟨k, k1, k2, k3⟩ := btn (hd (4 * f + i) (by omega)) (by omega) (by omega)
      refine ⟨k, by have := hd (4 * f + i) (by omega); unfold bt at this; omega, ?_, fun hne => ?_⟩
      · rw [(Kx.2.1.2.1 (4 * f + i) (by omega)).1, l7, k1]
      · have z := (Kx.2.1.2.2 f (by omega)).2.2.2.2.2.2.2.2.2.2 k (by have := hd (4 * f + i) (by omega); unfold bt at this; omega)
        rw [l30] at z
        unfold hB
        rw [k3]
        by_cases c : (a_l x (p + 5 + f) 13).toBitVec.getLsbD k = true
        · rw [c, decide_eq_true ⟨hf, hne, z.mp c⟩]
        · rw [(Bool.not_eq_true _).mp c, decide_eq_false (fun w => c (z.mpr w.2.2))]) (by unfold hB; exact decide_eq_false (fun w => w.2.1 rfl)) (fun f hf => by unfold hB; exact decide_eq_false (fun w => absurd w.1 (by omega)))
    refine ⟨hLis x (p + 5 + i) (hB s n i) (a_i x p 0), fun Q => ?_, ?_, fun e he => ?_⟩
    · rw [w_iload7 (M := mX5_pass) dX5_pass_28]
      simp [w_aload_n2 (M := mX5_pass) dX5_pass_30, w_getI (M := mX5_pass) dX5_pass_31 f_5_52 rfl (by decide) (by decide), w_ic_ge (M := mX5_pass) (tgt := 53) dX5_pass_34 (by decide), w_aload_n0 (M := mX5_pass) dX5_pass_37, w_iload7 (M := mX5_pass) dX5_pass_38, w_aload_n2 (M := mX5_pass) dX5_pass_40, w_getI (M := mX5_pass) dX5_pass_41 f_5_52 rfl (by decide) (by decide), c_5_57 (M := mX5_pass) dX5_pass_44 rfl, w_iinc7 (M := mX5_pass) (v := 1) dX5_pass_47 rfl (by decide), w_goto (M := mX5_pass) (tgt := 28) dX5_pass_50 (by decide), Kn_v_, Kn_n_, kl_i_, kl_a_, kl_l_, kl_n_, s1_0_, s2_0_, s1_1, s1_2, s1_3, s1_4, s1_5, s1_6, s1_7, s1_8, s1_9, s1_10, s1_11, s1_12, s1_13, s1_14, s2_1, s2_2, s2_3, s2_4, s2_5, s2_6, s2_7, s2_8, s2_9, s2_10, s2_11, s2_12, s2_13, s2_14, List.map_nil, List.map_cons, List.sum_nil, List.sum_cons, ct_i_, ct_r_, ct_l_, t_si_, t_sl_, t_sr_, n_si_, n_sl_, n_sr_, i_si_, i_sl_, i_sr_, l_si_, l_sl_, l_sr_, r_si_, r_sl_, r_sr_, vr_s_, vr_n_, nz_0_, nz_1_, hCx.e, cn, show (nI i < nI n) = True from nI_ltT hi (by omega), ql, nI_s, hp.1]
    · rw [LIS_s]
      unfold hLis
      by_cases c : bN (hB s n i) = 0
      · rw [if_pos c, if_pos c]
        exact Kx.hr hm ⟨rfl, rfl, rfl⟩ rfl (fun r j hr => ine (by omega))
      · rw [if_neg c, if_neg c, a0]
        have K1 : cK m p h0 (s_i x (p + 5 + i) 4 (nI (bN (hB s n i)))) (LIS s (hB s n) i) := Kx.hr hm ⟨rfl, rfl, rfl⟩ rfl (fun r j hr => ine (by omega))
        exact (K1.uc hm (c := 5) (j := 5) (by omega) (by omega)).uc hm (c := 6) (j := 6) (by omega) (by omega)
    · unfold hLis
      by_cases c : e = i
      · subst c
        by_cases c : bN (hB s n e) = 0
        · rw [if_pos c, ieq rfl rfl, c]; rfl
        · rw [if_neg c]
          simp (disch := omega) only [ine, ieq]
      · have := hx e (by omega)
        split
        · simp (disch := omega) only [ine]; exact this
        · simp (disch := omega) only [ine]; exact this
  obtain ⟨h', a1, a2, a3⟩ := lp (W := fun i (x : am_h) Q => WP (d + 4) mX5_pass 28 [some (.ref p), some (.int t1), some (.ref 2), some (.ref 91), some (.ref B), some (.int b1), some (.int i1), some (.int (nI i))] [] x Q) (P := fun i x => cK m p h0 x (LIS s (hB s n) i) ∧ ∀ e, e < i → a_i x (p + 5 + e) 4 = nI (bN (hB s n e))) st n 0 h (by omega) ⟨Kc, fun e he => absurd he (by omega)⟩
  refine ⟨h', fun Q => (a1 Q).trans ?_, a2, a3⟩
  have hCx := a2.C x0.1
  have cn : a_i h' 2 4 = nI n := by
    rw [a2.2.2.2.1 2 4 (by unfold tch; unfold mpB at hm; omega)]
    exact gn
  rw [w_iload7 (M := mX5_pass) dX5_pass_28]
  simp [w_aload_n2 (M := mX5_pass) dX5_pass_30, w_getI (M := mX5_pass) dX5_pass_31 f_5_52 rfl (by decide) (by decide), w_ic_ge (M := mX5_pass) (tgt := 53) dX5_pass_34 (by decide), Kn_v_, Kn_n_, kl_i_, kl_a_, kl_l_, kl_n_, s1_0_, s2_0_, s1_1, s1_2, s1_3, s1_4, s1_5, s1_6, s1_7, s1_8, s1_9, s1_10, s1_11, s1_12, s1_13, s1_14, s2_1, s2_2, s2_3, s2_4, s2_5, s2_6, s2_7, s2_8, s2_9, s2_10, s2_11, s2_12, s2_13, s2_14, List.map_nil, List.map_cons, List.sum_nil, List.sum_cons, ct_i_, ct_r_, ct_l_, t_si_, t_sl_, t_sr_, n_si_, n_sl_, n_sr_, i_si_, i_sl_, i_sr_, l_si_, l_sl_, l_sr_, r_si_, r_sl_, r_sr_, vr_s_, vr_n_, nz_0_, nz_1_, hCx.e, cn, show (nI n < nI n) = False from nI_ltF (Nat.le_refl _) (by omega)]
set_option maxRecDepth 20000 in
set_option maxHeartbeats 2000000 in
/-- one end acts -/
theorem c_act (b : cBs m p B n g VW VS VL h0) (P : PA m n K s) (hK : K + 1 ≤ 100000) (Kc : cK m p h0 h s) (he : e < n) (hh : a_i h (p + 5 + e) 4 = nI (bN (H e))) : ∃ h', (∀ Q, WP (d + 4) mX5_pass 56 [some (.ref p), some (.int t1), some (.ref 2), some (.ref 91), some (.ref B), some (.int b1), some (.int i1), some (.int (nI e))] [] h Q = WP (d + 4) mX5_pass 56 [some (.ref p), some (.int t1), some (.ref 2), some (.ref 91), some (.ref B), some (.int b1), some (.int i1), some (.int (nI (e + 1)))] [] h' Q) ∧ cK m p h0 h' (ACT g VW VS VL m n H e s) ∧ ∀ r, p + 5 ≤ r → r < p + 9 → a_i h' r 4 = a_i h r 4 := by
  obtain ⟨hm, x0, x1, x2, G, gn, td⟩ := b
  have n4 := G.1
  have hC := Kc.C x0.1
  have cn : a_i h 2 4 = nI n := ((Kc.td hm (td e he)).1).trans G.2.1
  obtain ⟨p1, p2, p3, p4, p5, p6, p7, p8, p9, p10⟩ := shL_m hm hC
  obtain ⟨f1, f2⟩ := p6 e (by omega)
  have a4 : a_i h (p + 5 + e) 0 = s 1 e := (Kc.en (e := e) (by omega)).2.2.2.2.1
  have ie : am_in1 (nI e) 4 = True := by rw [in1_n (by omega)]; exact eq_true (by omega)
  have ce : (nI e).toNatClampNeg = e := nI_c (by omega)
  have lt : (nI e < nI n) = True := nI_ltT he (by omega)
  obtain ⟨q1, q5, q6, q18, q19, q21⟩ := P.2.2 e (by omega)
  have gg := G.2.2 e he
  have nz : ¬ (1 : Int32) = 0 := by decide
  by_cases c : s 1 e = 1
  · obtain ⟨h1, o1, K1, e1⟩ := c_speakOn (d := d) hm Kc x1 (e := e) (by omega) (td e he) gg c (fun z => q21 z c) (nb_of G he P (by omega)) hh
    have hC1 := K1.C x0.1
    obtain ⟨r1, r2, r3, r4, r5, r6, r7, r8, r9, r10⟩ := shL_m hm hC1
    obtain ⟨u1, u2⟩ := r6 e (by omega)
    have P1 := P.xaS (g := g) (VS := VS) (hr := decide (¬ bN (H e) = 0)) (e := e) (by omega) (by omega)
    unfold ACT
    rw [if_pos c]
    generalize aS g VS (decide (¬ bN (H e) = 0)) s e = A at K1 P1 ⊢
    have b4 : a_i h1 (p + 5 + e) 0 = A 1 e := (K1.en (e := e) (by omega)).2.2.2.2.1
    by_cases c2 : A 1 e = 1
    · rw [if_pos c2]
      refine ⟨h1, fun Q => ?_, K1, e1⟩
      rw [w_iload7 (M := mX5_pass) dX5_pass_56]
      simp [w_aload_n2 (M := mX5_pass) dX5_pass_58, w_getI (M := mX5_pass) dX5_pass_59 f_5_52 rfl (by decide) (by decide), w_ic_ge (M := mX5_pass) (tgt := 117) dX5_pass_62 (by decide), w_aload_n0 (M := mX5_pass) dX5_pass_65, w_getA (M := mX5_pass) dX5_pass_66 f_5_27 rfl (by decide) (by decide), w_iload7 (M := mX5_pass) dX5_pass_69, w_aaload (M := mX5_pass) dX5_pass_71, w_getZ (M := mX5_pass) dX5_pass_72 f_5_61 rfl (by decide) (by decide), w_if_eq (M := mX5_pass) (tgt := 88) dX5_pass_75 (by decide), w_aload_n0 (M := mX5_pass) dX5_pass_78, w_iload7 (M := mX5_pass) dX5_pass_79, w_aload_n2 (M := mX5_pass) dX5_pass_81, w_aload_n3 (M := mX5_pass) dX5_pass_82, w_aload4 (M := mX5_pass) dX5_pass_83, c_5_65 (M := mX5_pass) dX5_pass_85 rfl, w_aload_n0 (M := mX5_pass) dX5_pass_88, w_getA (M := mX5_pass) dX5_pass_89 f_5_27 rfl (by decide) (by decide), w_iload7 (M := mX5_pass) dX5_pass_92, w_aaload (M := mX5_pass) dX5_pass_94, w_getZ (M := mX5_pass) dX5_pass_95 f_5_61 rfl (by decide) (by decide), w_if_ne (M := mX5_pass) (tgt := 111) dX5_pass_98 (by decide), w_aload_n0 (M := mX5_pass) dX5_pass_101, w_iload7 (M := mX5_pass) dX5_pass_102, w_aload_n2 (M := mX5_pass) dX5_pass_104, w_aload_n3 (M := mX5_pass) dX5_pass_105, w_aload4 (M := mX5_pass) dX5_pass_106, c_5_69 (M := mX5_pass) dX5_pass_108 rfl, w_iinc7 (M := mX5_pass) (v := 1) dX5_pass_111 rfl (by decide), w_goto (M := mX5_pass) (tgt := 56) dX5_pass_114 (by decide), Kn_v_, Kn_n_, kl_i_, kl_a_, kl_l_, kl_n_, s1_0_, s2_0_, s1_1, s1_2, s1_3, s1_4, s1_5, s1_6, s1_7, s1_8, s1_9, s1_10, s1_11, s1_12, s1_13, s1_14, s2_1, s2_2, s2_3, s2_4, s2_5, s2_6, s2_7, s2_8, s2_9, s2_10, s2_11, s2_12, s2_13, s2_14, List.map_nil, List.map_cons, List.sum_nil, List.sum_cons, ct_i_, ct_r_, ct_l_, t_si_, t_sl_, t_sr_, n_si_, n_sl_, n_sr_, i_si_, i_sl_, i_sr_, l_si_, l_sl_, l_sr_, r_si_, r_sl_, r_sr_, vr_s_, vr_n_, nz_0_, nz_1_, hC.e, cn, lt, p1, p5, p10, f1, f2, ie, ce, a4, c, o1, r1, r5, r10, u1, u2, b4, c2, nI_s]
    · rw [if_neg c2]
      have c3 : A 1 e = 0 := by
        rcases (P1.2.2 e (by omega)).1 with z | z
        · exact z
        · exact absurd z c2
      obtain ⟨w1, w5, w6, w18, w19, w21⟩ := P1.2.2 e (by omega)
      obtain ⟨T, t1', t2', t3'⟩ := P1.2.1
      obtain ⟨h2, o2, K2, e2⟩ := c_keepSilence (d := d) (n := n) hm K1 x0 x2 n4 he (td e he) G.2.1 gg.2.1 w5 w6 (nb_of G he P1 (by omega)) t1' (by omega) t3' (F := H e) (by rw [e1 _ (by omega) (by omega)]; exact hh)
      refine ⟨h2, fun Q => ?_, K2, fun r r1 r2 => (e2 r r1 r2).trans (e1 r r1 r2)⟩
      rw [w_iload7 (M := mX5_pass) dX5_pass_56]
      simp [w_aload_n2 (M := mX5_pass) dX5_pass_58, w_getI (M := mX5_pass) dX5_pass_59 f_5_52 rfl (by decide) (by decide), w_ic_ge (M := mX5_pass) (tgt := 117) dX5_pass_62 (by decide), w_aload_n0 (M := mX5_pass) dX5_pass_65, w_getA (M := mX5_pass) dX5_pass_66 f_5_27 rfl (by decide) (by decide), w_iload7 (M := mX5_pass) dX5_pass_69, w_aaload (M := mX5_pass) dX5_pass_71, w_getZ (M := mX5_pass) dX5_pass_72 f_5_61 rfl (by decide) (by decide), w_if_eq (M := mX5_pass) (tgt := 88) dX5_pass_75 (by decide), w_aload_n0 (M := mX5_pass) dX5_pass_78, w_iload7 (M := mX5_pass) dX5_pass_79, w_aload_n2 (M := mX5_pass) dX5_pass_81, w_aload_n3 (M := mX5_pass) dX5_pass_82, w_aload4 (M := mX5_pass) dX5_pass_83, c_5_65 (M := mX5_pass) dX5_pass_85 rfl, w_aload_n0 (M := mX5_pass) dX5_pass_88, w_getA (M := mX5_pass) dX5_pass_89 f_5_27 rfl (by decide) (by decide), w_iload7 (M := mX5_pass) dX5_pass_92, w_aaload (M := mX5_pass) dX5_pass_94, w_getZ (M := mX5_pass) dX5_pass_95 f_5_61 rfl (by decide) (by decide), w_if_ne (M := mX5_pass) (tgt := 111) dX5_pass_98 (by decide), w_aload_n0 (M := mX5_pass) dX5_pass_101, w_iload7 (M := mX5_pass) dX5_pass_102, w_aload_n2 (M := mX5_pass) dX5_pass_104, w_aload_n3 (M := mX5_pass) dX5_pass_105, w_aload4 (M := mX5_pass) dX5_pass_106, c_5_69 (M := mX5_pass) dX5_pass_108 rfl, w_iinc7 (M := mX5_pass) (v := 1) dX5_pass_111 rfl (by decide), w_goto (M := mX5_pass) (tgt := 56) dX5_pass_114 (by decide), Kn_v_, Kn_n_, kl_i_, kl_a_, kl_l_, kl_n_, s1_0_, s2_0_, s1_1, s1_2, s1_3, s1_4, s1_5, s1_6, s1_7, s1_8, s1_9, s1_10, s1_11, s1_12, s1_13, s1_14, s2_1, s2_2, s2_3, s2_4, s2_5, s2_6, s2_7, s2_8, s2_9, s2_10, s2_11, s2_12, s2_13, s2_14, List.map_nil, List.map_cons, List.sum_nil, List.sum_cons, ct_i_, ct_r_, ct_l_, t_si_, t_sl_, t_sr_, n_si_, n_sl_, n_sr_, i_si_, i_sl_, i_sr_, l_si_, l_sl_, l_sr_, r_si_, r_sl_, r_sr_, vr_s_, vr_n_, nz_0_, nz_1_, hC.e, cn, lt, p1, p5, p10, f1, f2, ie, ce, a4, c, o1, r1, r5, r10, u1, u2, b4, c3, o2, nI_s]
  · have c0 : s 1 e = 0 := by
      rcases q1 with z | z
      · exact z
      · exact absurd z c
    obtain ⟨T, t1', t2', t3'⟩ := P.2.1
    obtain ⟨h2, o2, K2, e2⟩ := c_keepSilence (d := d) (n := n) hm Kc x0 x2 n4 he (td e he) G.2.1 gg.2.1 q5 q6 (nb_of G he P (by omega)) t1' (by omega) t3' hh
    unfold ACT
    rw [if_neg c]
    refine ⟨h2, fun Q => ?_, K2, e2⟩
    rw [w_iload7 (M := mX5_pass) dX5_pass_56]
    simp [w_aload_n2 (M := mX5_pass) dX5_pass_58, w_getI (M := mX5_pass) dX5_pass_59 f_5_52 rfl (by decide) (by decide), w_ic_ge (M := mX5_pass) (tgt := 117) dX5_pass_62 (by decide), w_aload_n0 (M := mX5_pass) dX5_pass_65, w_getA (M := mX5_pass) dX5_pass_66 f_5_27 rfl (by decide) (by decide), w_iload7 (M := mX5_pass) dX5_pass_69, w_aaload (M := mX5_pass) dX5_pass_71, w_getZ (M := mX5_pass) dX5_pass_72 f_5_61 rfl (by decide) (by decide), w_if_eq (M := mX5_pass) (tgt := 88) dX5_pass_75 (by decide), w_aload_n0 (M := mX5_pass) dX5_pass_78, w_iload7 (M := mX5_pass) dX5_pass_79, w_aload_n2 (M := mX5_pass) dX5_pass_81, w_aload_n3 (M := mX5_pass) dX5_pass_82, w_aload4 (M := mX5_pass) dX5_pass_83, c_5_65 (M := mX5_pass) dX5_pass_85 rfl, w_aload_n0 (M := mX5_pass) dX5_pass_88, w_getA (M := mX5_pass) dX5_pass_89 f_5_27 rfl (by decide) (by decide), w_iload7 (M := mX5_pass) dX5_pass_92, w_aaload (M := mX5_pass) dX5_pass_94, w_getZ (M := mX5_pass) dX5_pass_95 f_5_61 rfl (by decide) (by decide), w_if_ne (M := mX5_pass) (tgt := 111) dX5_pass_98 (by decide), w_aload_n0 (M := mX5_pass) dX5_pass_101, w_iload7 (M := mX5_pass) dX5_pass_102, w_aload_n2 (M := mX5_pass) dX5_pass_104, w_aload_n3 (M := mX5_pass) dX5_pass_105, w_aload4 (M := mX5_pass) dX5_pass_106, c_5_69 (M := mX5_pass) dX5_pass_108 rfl, w_iinc7 (M := mX5_pass) (v := 1) dX5_pass_111 rfl (by decide), w_goto (M := mX5_pass) (tgt := 56) dX5_pass_114 (by decide), Kn_v_, Kn_n_, kl_i_, kl_a_, kl_l_, kl_n_, s1_0_, s2_0_, s1_1, s1_2, s1_3, s1_4, s1_5, s1_6, s1_7, s1_8, s1_9, s1_10, s1_11, s1_12, s1_13, s1_14, s2_1, s2_2, s2_3, s2_4, s2_5, s2_6, s2_7, s2_8, s2_9, s2_10, s2_11, s2_12, s2_13, s2_14, List.map_nil, List.map_cons, List.sum_nil, List.sum_cons, ct_i_, ct_r_, ct_l_, t_si_, t_sl_, t_sr_, n_si_, n_sl_, n_sr_, i_si_, i_sl_, i_sr_, l_si_, l_sl_, l_sr_, r_si_, r_sl_, r_sr_, vr_s_, vr_n_, nz_0_, nz_1_, hC.e, cn, lt, p1, p5, p10, f1, f2, ie, ce, a4, c0, o2, nI_s]
set_option maxRecDepth 20000 in
set_option maxHeartbeats 2000000 in
theorem c_pass2 (b : cBs m p B n g VW VS VL h0) (P : PA m n K s) (hK : K + 8 ≤ 100000) (Kc : cK m p h0 h s) (hh : ∀ e, e < n → a_i h (p + 5 + e) 4 = nI (bN (H e))) : ∃ h', (∀ Q, WP (d + 4) mX5_pass 56 [some (.ref p), some (.int t1), some (.ref 2), some (.ref 91), some (.ref B), some (.int b1), some (.int i1), some (.int (nI 0))] [] h Q = WP (d + 4) mX5_pass 117 [some (.ref p), some (.int t1), some (.ref 2), some (.ref 91), some (.ref B), some (.int b1), some (.int i1), some (.int (nI n))] [] h' Q) ∧ cK m p h0 h' (itr (ACT g VW VS VL m n H) 0 n s) ∧ ∀ e, e < n → a_i h' (p + 5 + e) 4 = nI (bN (H e)) := by
  have b' := b
  obtain ⟨hm, x0, x1, x2, G, gn, td⟩ := b'
  have n4 := G.1
  have st : ∀ (i : Nat) (x : am_h), i < n → (cK m p h0 x (itr (ACT g VW VS VL m n H) 0 i s) ∧ ∀ e, e < n → a_i x (p + 5 + e) 4 = nI (bN (H e))) → ∃ x', (∀ Q, WP (d + 4) mX5_pass 56 [some (.ref p), some (.int t1), some (.ref 2), some (.ref 91), some (.ref B), some (.int b1), some (.int i1), some (.int (nI i))] [] x Q = WP (d + 4) mX5_pass 56 [some (.ref p), some (.int t1), some (.ref 2), some (.ref 91), some (.ref B), some (.int b1), some (.int i1), some (.int (nI (i + 1)))] [] x' Q) ∧ (cK m p h0 x' (itr (ACT g VW VS VL m n H) 0 (i + 1) s) ∧ ∀ e, e < n → a_i x' (p + 5 + e) 4 = nI (bN (H e))) := by
    intro i x hi ⟨Kx, hx⟩
    obtain ⟨x', y1, y2, y3⟩ := c_act (d := d) (t1 := t1) (b1 := b1) (i1 := i1) b (P.acts n4 hK i (by omega) (g := g) (VW := VW) (VS := VS) (VL := VL) (H := H)) (by omega) Kx hi (hx i hi)
    refine ⟨x', y1, ?_, fun e he => (y3 _ (by omega) (by omega)).trans (hx e he)⟩
    rw [itr_snoc, Nat.zero_add]
    exact y2
  obtain ⟨h', a1, a2, a3⟩ := lp (W := fun i (x : am_h) Q => WP (d + 4) mX5_pass 56 [some (.ref p), some (.int t1), some (.ref 2), some (.ref 91), some (.ref B), some (.int b1), some (.int i1), some (.int (nI i))] [] x Q) (P := fun i x => cK m p h0 x (itr (ACT g VW VS VL m n H) 0 i s) ∧ ∀ e, e < n → a_i x (p + 5 + e) 4 = nI (bN (H e))) st n 0 h (by omega) ⟨Kc, hh⟩
  refine ⟨h', fun Q => (a1 Q).trans ?_, a2, a3⟩
  have hCx := a2.C x0.1
  have cn : a_i h' 2 4 = nI n := by
    rw [a2.2.2.2.1 2 4 (by unfold tch; unfold mpB at hm; omega)]
    exact gn
  rw [w_iload7 (M := mX5_pass) dX5_pass_56]
  simp [w_aload_n2 (M := mX5_pass) dX5_pass_58, w_getI (M := mX5_pass) dX5_pass_59 f_5_52 rfl (by decide) (by decide), w_ic_ge (M := mX5_pass) (tgt := 117) dX5_pass_62 (by decide), Kn_v_, Kn_n_, kl_i_, kl_a_, kl_l_, kl_n_, s1_0_, s2_0_, s1_1, s1_2, s1_3, s1_4, s1_5, s1_6, s1_7, s1_8, s1_9, s1_10, s1_11, s1_12, s1_13, s1_14, s2_1, s2_2, s2_3, s2_4, s2_5, s2_6, s2_7, s2_8, s2_9, s2_10, s2_11, s2_12, s2_13, s2_14, List.map_nil, List.map_cons, List.sum_nil, List.sum_cons, ct_i_, ct_r_, ct_l_, t_si_, t_sl_, t_sr_, n_si_, n_sl_, n_sr_, i_si_, i_sl_, i_sr_, l_si_, l_sl_, l_sr_, r_si_, r_sl_, r_sr_, vr_s_, vr_n_, nz_0_, nz_1_, hCx.e, cn, show (nI n < nI n) = False from nI_ltF (Nat.le_refl _) (by omega)]
theorem sh63 : (1 &&& 63 : Int64) = 1 := by decide
set_option maxRecDepth 20000 in
set_option maxHeartbeats 2000000 in
theorem c_pass3 (b : cBs m p B n g VW VS VL h0) (P : PA m n K s) (hH : ∀ e f, n ≤ f → H e f = false) (Kc : cK m p h0 h s) (hh : ∀ e, e < n → a_i h (p + 5 + e) 4 = nI (bN (H e))) : ∃ h', (∀ Q, WP (d + 4) mX5_pass 120 [some (.ref p), some (.int t1), some (.ref 2), some (.ref 91), some (.ref B), some (.int b1), some (.int i1), some (.int (nI 0))] [] h Q = WP (d + 4) mX5_pass 186 [some (.ref p), some (.int t1), some (.ref 2), some (.ref 91), some (.ref B), some (.int b1), some (.int i1), some (.int (nI n))] [] h' Q) ∧ cK m p h0 h' (CNT s H n) := by
  have b' := b
  obtain ⟨hm, x0, x1, x2, G, gn, td⟩ := b'
  have n4 := G.1
  have C1 : ∀ i e, CNT s H i 1 e = s 1 e := fun i e => by
    unfold CNT
    rw [if_neg (by omega), if_neg (by omega), if_neg (by omega)]
  have C0 : CNT s H 0 = s := by
    funext c i
    unfold CNT
    by_cases c8 : c = 8
    · subst c8; rw [if_pos rfl, if_neg (by omega)]
    · rw [if_neg c8]
      by_cases c9 : c = 9
      · subst c9; rw [if_pos rfl, if_neg (by omega)]
      · rw [if_neg c9, if_neg (by omega)]
  have st : ∀ (i : Nat) (x : am_h), i < n → (cK m p h0 x (CNT s H i) ∧ ∀ e, e < n → a_i x (p + 5 + e) 4 = nI (bN (H e))) → ∃ x', (∀ Q, WP (d + 4) mX5_pass 120 [some (.ref p), some (.int t1), some (.ref 2), some (.ref 91), some (.ref B), some (.int b1), some (.int i1), some (.int (nI i))] [] x Q = WP (d + 4) mX5_pass 120 [some (.ref p), some (.int t1), some (.ref 2), some (.ref 91), some (.ref B), some (.int b1), some (.int i1), some (.int (nI (i + 1)))] [] x' Q) ∧ (cK m p h0 x' (CNT s H (i + 1)) ∧ ∀ e, e < n → a_i x' (p + 5 + e) 4 = nI (bN (H e))) := by
    intro i x hi ⟨Kx, hx⟩
    have hC := Kx.C x0.1
    have cn : a_i x 2 4 = nI n := ((Kx.td hm (td i hi)).1).trans G.2.1
    have hp := shL_m hm hC
    have hp' := hp
    obtain ⟨p1, p2, p3, p4, p5, p6, p7, p8, p9, p10⟩ := hp'
    obtain ⟨f1, f2⟩ := p6 i (by omega)
    have a4 : a_i x (p + 5 + i) 0 = s 1 i := ((Kx.en (e := i) (by omega)).2.2.2.2.1).trans (C1 i i)
    have ie : am_in1 (nI i) 4 = True := by rw [in1_n (by omega)]; exact eq_true (by omega)
    have ce : (nI i).toNatClampNeg = i := nI_c (by omega)
    have h01 := (P.2.2 i (by omega)).1
    obtain ⟨r, hr⟩ : ∃ r, r = if one4 (H i) = true ∧ s 1 i = 0 then p + 2 else p + 3 := ⟨_, rfl⟩
    have rne : ¬ r = p + 5 + i := by
      rw [hr]
      split <;> omega
    have qc := fun d Q => q_countHeard (d := d) (Q := Q) (r := r) hp n4 hi (hx i hi) (by rw [a4]; exact hr)
    have Kn' := Kx.nx hm hi n4 (fun f hf => hH i f hf) h01 hr
    refine ⟨_, fun Q => ?_, Kn', fun e he => ?_⟩
    · rw [w_iload7 (M := mX5_pass) dX5_pass_120]
      rcases h01 with z | z
      · simp [w_aload_n2 (M := mX5_pass) dX5_pass_122, w_getI (M := mX5_pass) dX5_pass_123 f_5_52 rfl (by decide) (by decide), w_ic_ge (M := mX5_pass) (tgt := 186) dX5_pass_126 (by decide), w_aload_n0 (M := mX5_pass) dX5_pass_129, w_iload7 (M := mX5_pass) dX5_pass_130, w_aload_n2 (M := mX5_pass) dX5_pass_132, w_getI (M := mX5_pass) dX5_pass_133 f_5_52 rfl (by decide) (by decide), c_5_72 (M := mX5_pass) dX5_pass_136 rfl, w_aload_n0 (M := mX5_pass) dX5_pass_139, w_getA (M := mX5_pass) dX5_pass_140 f_5_27 rfl (by decide) (by decide), w_iload7 (M := mX5_pass) dX5_pass_143, w_aaload (M := mX5_pass) dX5_pass_145, w_aload_n0 (M := mX5_pass) dX5_pass_146, w_getA (M := mX5_pass) dX5_pass_147 f_5_27 rfl (by decide) (by decide), w_iload7 (M := mX5_pass) dX5_pass_150, w_aaload (M := mX5_pass) dX5_pass_152, w_getL (M := mX5_pass) dX5_pass_153 f_5_75 rfl (by decide) (by decide), w_iconst (M := mX5_pass) (v := 1) dX5_pass_156 rfl, w_lshl (M := mX5_pass) dX5_pass_157, w_aload_n0 (M := mX5_pass) dX5_pass_158, w_getA (M := mX5_pass) dX5_pass_159 f_5_27 rfl (by decide) (by decide), w_iload7 (M := mX5_pass) dX5_pass_162, w_aaload (M := mX5_pass) dX5_pass_164, w_getZ (M := mX5_pass) dX5_pass_165 f_5_61 rfl (by decide) (by decide), w_if_eq (M := mX5_pass) (tgt := 175) dX5_pass_168 (by decide), w_lconst (M := mX5_pass) (v := 1) dX5_pass_171 rfl, w_goto (M := mX5_pass) (tgt := 176) dX5_pass_172 (by decide), w_lconst (M := mX5_pass) (v := 0) dX5_pass_175 rfl, w_lor (M := mX5_pass) dX5_pass_176, w_putL (M := mX5_pass) dX5_pass_177 f_5_75 rfl (Or.inl rfl), w_iinc7 (M := mX5_pass) (v := 1) dX5_pass_180 rfl (by decide), w_goto (M := mX5_pass) (tgt := 120) dX5_pass_183 (by decide), Kn_v_, Kn_n_, kl_i_, kl_a_, kl_l_, kl_n_, s1_0_, s2_0_, s1_1, s1_2, s1_3, s1_4, s1_5, s1_6, s1_7, s1_8, s1_9, s1_10, s1_11, s1_12, s1_13, s1_14, s2_1, s2_2, s2_3, s2_4, s2_5, s2_6, s2_7, s2_8, s2_9, s2_10, s2_11, s2_12, s2_13, s2_14, List.map_nil, List.map_cons, List.sum_nil, List.sum_cons, ct_i_, ct_r_, ct_l_, t_si_, t_sl_, t_sr_, n_si_, n_sl_, n_sr_, i_si_, i_sl_, i_sr_, l_si_, l_sl_, l_sr_, r_si_, r_sl_, r_sr_, vr_s_, vr_n_, nz_0_, nz_1_, hC.e, cn, show (nI i < nI n) = True from nI_ltT hi (by omega), qc, t_sw_, r_sw_, l_sw_, iwn (h := x) (f := cf (a_i x r) (H i) i n) (fun w => rne w.symm), p1, p5, p10, f1, f2, ie, ce, a4, z, nI_s, sh63]
      · simp [w_aload_n2 (M := mX5_pass) dX5_pass_122, w_getI (M := mX5_pass) dX5_pass_123 f_5_52 rfl (by decide) (by decide), w_ic_ge (M := mX5_pass) (tgt := 186) dX5_pass_126 (by decide), w_aload_n0 (M := mX5_pass) dX5_pass_129, w_iload7 (M := mX5_pass) dX5_pass_130, w_aload_n2 (M := mX5_pass) dX5_pass_132, w_getI (M := mX5_pass) dX5_pass_133 f_5_52 rfl (by decide) (by decide), c_5_72 (M := mX5_pass) dX5_pass_136 rfl, w_aload_n0 (M := mX5_pass) dX5_pass_139, w_getA (M := mX5_pass) dX5_pass_140 f_5_27 rfl (by decide) (by decide), w_iload7 (M := mX5_pass) dX5_pass_143, w_aaload (M := mX5_pass) dX5_pass_145, w_aload_n0 (M := mX5_pass) dX5_pass_146, w_getA (M := mX5_pass) dX5_pass_147 f_5_27 rfl (by decide) (by decide), w_iload7 (M := mX5_pass) dX5_pass_150, w_aaload (M := mX5_pass) dX5_pass_152, w_getL (M := mX5_pass) dX5_pass_153 f_5_75 rfl (by decide) (by decide), w_iconst (M := mX5_pass) (v := 1) dX5_pass_156 rfl, w_lshl (M := mX5_pass) dX5_pass_157, w_aload_n0 (M := mX5_pass) dX5_pass_158, w_getA (M := mX5_pass) dX5_pass_159 f_5_27 rfl (by decide) (by decide), w_iload7 (M := mX5_pass) dX5_pass_162, w_aaload (M := mX5_pass) dX5_pass_164, w_getZ (M := mX5_pass) dX5_pass_165 f_5_61 rfl (by decide) (by decide), w_if_eq (M := mX5_pass) (tgt := 175) dX5_pass_168 (by decide), w_lconst (M := mX5_pass) (v := 1) dX5_pass_171 rfl, w_goto (M := mX5_pass) (tgt := 176) dX5_pass_172 (by decide), w_lconst (M := mX5_pass) (v := 0) dX5_pass_175 rfl, w_lor (M := mX5_pass) dX5_pass_176, w_putL (M := mX5_pass) dX5_pass_177 f_5_75 rfl (Or.inl rfl), w_iinc7 (M := mX5_pass) (v := 1) dX5_pass_180 rfl (by decide), w_goto (M := mX5_pass) (tgt := 120) dX5_pass_183 (by decide), Kn_v_, Kn_n_, kl_i_, kl_a_, kl_l_, kl_n_, s1_0_, s2_0_, s1_1, s1_2, s1_3, s1_4, s1_5, s1_6, s1_7, s1_8, s1_9, s1_10, s1_11, s1_12, s1_13, s1_14, s2_1, s2_2, s2_3, s2_4, s2_5, s2_6, s2_7, s2_8, s2_9, s2_10, s2_11, s2_12, s2_13, s2_14, List.map_nil, List.map_cons, List.sum_nil, List.sum_cons, ct_i_, ct_r_, ct_l_, t_si_, t_sl_, t_sr_, n_si_, n_sl_, n_sr_, i_si_, i_sl_, i_sr_, l_si_, l_sl_, l_sr_, r_si_, r_sl_, r_sr_, vr_s_, vr_n_, nz_0_, nz_1_, hC.e, cn, show (nI i < nI n) = True from nI_ltT hi (by omega), qc, t_sw_, r_sw_, l_sw_, iwn (h := x) (f := cf (a_i x r) (H i) i n) (fun w => rne w.symm), p1, p5, p10, f1, f2, ie, ce, a4, z, nI_s, sh63]
    · show a_i (s_w x r (cf (a_i x r) (H i) i n)) (p + 5 + e) 4 = _
      rw [iwn (by
        rw [hr]
        split <;> omega)]
      exact hx e he
  obtain ⟨h', a1, a2, a3⟩ := lp (W := fun i (x : am_h) Q => WP (d + 4) mX5_pass 120 [some (.ref p), some (.int t1), some (.ref 2), some (.ref 91), some (.ref B), some (.int b1), some (.int i1), some (.int (nI i))] [] x Q) (P := fun i x => cK m p h0 x (CNT s H i) ∧ ∀ e, e < n → a_i x (p + 5 + e) 4 = nI (bN (H e))) st n 0 h (by omega) ⟨by rw [C0]; exact Kc, hh⟩
  refine ⟨h', fun Q => (a1 Q).trans ?_, a2⟩
  have hCx := a2.C x0.1
  have cn : a_i h' 2 4 = nI n := by
    rw [a2.2.2.2.1 2 4 (by unfold tch; unfold mpB at hm; omega)]
    exact gn
  rw [w_iload7 (M := mX5_pass) dX5_pass_120]
  simp [w_aload_n2 (M := mX5_pass) dX5_pass_122, w_getI (M := mX5_pass) dX5_pass_123 f_5_52 rfl (by decide) (by decide), w_ic_ge (M := mX5_pass) (tgt := 186) dX5_pass_126 (by decide), Kn_v_, Kn_n_, kl_i_, kl_a_, kl_l_, kl_n_, s1_0_, s2_0_, s1_1, s1_2, s1_3, s1_4, s1_5, s1_6, s1_7, s1_8, s1_9, s1_10, s1_11, s1_12, s1_13, s1_14, s2_1, s2_2, s2_3, s2_4, s2_5, s2_6, s2_7, s2_8, s2_9, s2_10, s2_11, s2_12, s2_13, s2_14, List.map_nil, List.map_cons, List.sum_nil, List.sum_cons, ct_i_, ct_r_, ct_l_, t_si_, t_sl_, t_sr_, n_si_, n_sl_, n_sr_, i_si_, i_sl_, i_sr_, l_si_, l_sl_, l_sr_, r_si_, r_sl_, r_sr_, vr_s_, vr_n_, nz_0_, nz_1_, hCx.e, cn, show (nI n < nI n) = False from nI_ltF (Nat.le_refl _) (by omega)]
end PASS
