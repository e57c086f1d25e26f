/-! a rule that is tried: the class, the other side -/
section TRY2
variable {X : PX} {e n m j i T r c d K Z t : Nat} {s x : TS} {h0 h h1 y : am_h} {b0 v0 : Int32} {u : Nat → Int32} {VW VS VL : (Nat → Int32) → Int32 → Int32} {g : Nat → Int32} {Q : Option Value → am_h → Prop}
theorem rlO_c (k : Inv X h) : (a_i h 1 7 = -1 ∧ rlO (a_i h 127) = none) ∨ ∃ t, t < 4 ∧ a_i h 1 7 = nI t ∧ rlO (a_i h 127) = some (94 + 8 * t) := by
  unfold rlO
  rcases k.rl with ⟨z1, z2⟩ | ⟨t, z0, z1, z2⟩
  · exact Or.inl ⟨z1, by rw [if_pos z2]⟩
  · exact Or.inr ⟨t, z0, z1, by rw [z2, if_neg (of_eq_false (nI_n1 (by omega))), Nn_n (by omega)]⟩
set_option maxRecDepth 20000 in
set_option maxHeartbeats 8000000 in
/-- a try of the class, from any heap that is near -/
theorem c_try (tb : TB X n T g VW VS VL x h) (hv : inn v0 0 3 = true) (ht : t ≤ 3000) (ny : near h y) : ∃ y', (∀ Q, Cal (d + 5) mX11_tryRule [.ref 0, .int v0, .int (nI t)] y Q = Q none y') ∧ near h y' ∧ a_r y' 91 0 = rlO g ∧ (∀ k, k < 16 → a_i y' 69 k = TKS g VW VS VL 1 n t (tryS x v0) 8 k ∧ a_i y' 70 k = TKS g VW VS VL 1 n t (tryS x v0) 9 k) := by
  obtain ⟨k, x0, x1, x2, G, hg, x01, T9, wx, xd, xh, xs, xm, hr⟩ := tb
  have ky := ny.Iv k
  have hC := ky.1.1
  have q67 := shL_67 hC
  have q7 := shL_7 hC
  obtain ⟨h1, c1, w⟩ := q_X5_copyFrom (d := d + 3) (h := y) (p := 67) (q := 7) q67 q7 (by omega) (fun e he => by
    rw [show 7 + 5 + e = 12 + e by omega, (ky.n he).1]
    exact ky.sp he)
  obtain ⟨w1, w2, w3, w4, w5, w6⟩ := w
  obtain ⟨h2, eh2⟩ : ∃ h2, h2 = s_i h1 67 1 v0 := ⟨_, rfl⟩
  have hC1 : sh_C (a_t h1) (a_r h1) := by rw [w1.1, w1.2.1]; exact hC
  have hC2 : sh_C (a_t h2) (a_r h2) := by rw [eh2]; exact hC1
  obtain ⟨h3, f1, f2, f3, f4, f5⟩ := q_forget (d := d + 4) (shL_67 hC2)
  have hC3 : sh_C (a_t h3) (a_r h3) := by rw [f2.1, f2.2.1]; exact hC2
  have l17 : a_i h3 1 7 = a_i y 1 7 := by rw [f5 _ _ (by omega) (by omega), eh2, ine (by omega), w5 _ _ (by omega)]
  have y127 : a_i y 127 = g := by rw [← hg]; exact funext fun j => ny.2.2.2.1 127 j (by unfold scr; omega)
  have rl := rlO_c ky
  rw [y127, ← l17] at rl
  have ln := fun d Q => q_lawsNow (d := d) (Q := Q) hC3 rl
  obtain ⟨h4, eh4⟩ : ∃ h4, h4 = s_r h3 91 0 (rlO g) := ⟨_, rfl⟩
  have hC4 : sh_C (a_t h4) (a_r h4) := by
    rw [eh4]
    exact sh_C_fr (t := a_t h3) (r := a_r h3) (fun q _ => rfl) (fun q j _ c => rne (by omega)) hC3
  rw [← eh4] at ln
  -- what was copied
  have i4 : ∀ q j, ¬ (67 ≤ q ∧ q < 76) → a_i h4 q j = a_i y q j := fun q j c => by
    rw [eh4]
    show a_i h3 q j = _
    rw [f5 _ _ (by omega) (by omega), eh2, ine (by omega)]
    exact w5 q j c
  have l4 : ∀ q j, ¬ (67 ≤ q ∧ q < 76) → a_l h4 q j = a_l y q j := fun q j c => by
    rw [eh4]
    show a_l h3 q j = _
    rw [f3, eh2]
    exact w6 q j c
  have n4 : near h h4 := by
    refine ny.tr ⟨?_, ?_, fun q j c => ?_, fun q j c => i4 q j (fun z => c (by unfold scr; omega)), fun q c => l4 q 13 (by omega)⟩
    · rw [eh4]; show a_t h3 = _; rw [f2.1, eh2]; exact w1.1
    · rw [eh4]; show h3.1 = _; rw [f2.2.2, eh2]; exact w1.2.2
    · rw [eh4, rne c, f2.2.1, eh2]; show a_r h1 q j = _; rw [w1.2.1]
  have r91 : a_r h4 91 0 = rlO g := by rw [eh4]; exact req rfl rfl
  have LX4 : ∀ {w V}, LX h w V → LX h4 w V := fun L => n4.LX (hr.trans r91.symm) L
  have hi : ∀ q j, ¬ scr q j → a_i h4 q j = a_i h q j := n4.2.2.2.1
  have gn : g 0 = nI n := G.2.1
  have k4 := n4.Iv k
  have h4127 : a_i h4 127 = g := by rw [← hg]; exact funext fun j => hi 127 j (by unfold scr; omega)
  have B : cBs 1 67 76 n g VW VS VL h4 := ⟨Or.inr ⟨rfl, rfl, rfl⟩, LX4 x0, LX4 x1, LX4 x2, G, by
    rw [k4.e.1, h4127]; exact gn, fun e he => by
    have o := k4.o (e := e) (by rw [h4127, gn, Nn_n (by have := G.1; omega)]; exact he)
    rw [h4127] at o
    exact ⟨by rw [k4.e.1, h4127], o⟩⟩
  -- the line that is tried
  have y7 : ∀ q j, 7 ≤ q → q < 16 → a_i y q j = a_i h q j := fun q j a b => ny.2.2.2.1 q j (by unfold scr; omega)
  have yl7 : ∀ q, 7 ≤ q → q < 16 → a_l y q 13 = a_l h q 13 := fun q a b => ny.2.2.2.2 q (by omega)
  have xy : rM (a_i y) (a_l y) 7 x := rM_fr (fun r j a b _ => y7 r j a (by omega)) (fun e he => yl7 _ (by omega) (by omega)) xm
  have xm4 : rM (a_i h4) (a_l h4) 67 (tryS x v0) := by
    obtain ⟨⟨m0, m1, m2, m3, m4⟩, m5, m6⟩ := xy
    have c3 : ∀ q j, 67 ≤ q → ¬ (q = 67 ∧ j = 1) → ¬ q = 69 → ¬ q = 70 → a_i h4 q j = a_i h1 q j := fun q j a b c1 c2 => by
      rw [eh4]
      show a_i h3 q j = _
      rw [f5 _ _ c1 c2, eh2, ine b]
    refine ⟨⟨?_, ?_, ?_, ?_, ?_⟩, fun kk hk => ⟨?_, ?_, ?_⟩, fun e he => ?_⟩
    · rw [c3 67 0 (by omega) (by omega) (by omega) (by omega), w2 0 (by omega), m0]; rfl
    · rw [eh4]; show a_i h3 67 1 = _; rw [f5 _ _ (by omega) (by omega), eh2, ieq rfl rfl]; rfl
    · rw [c3 67 2 (by omega) (by omega) (by omega) (by omega), w2 2 (by omega), m2]; rfl
    · rw [c3 67 3 (by omega) (by omega) (by omega) (by omega), w2 3 (by omega), m3]; rfl
    · rw [c3 67 4 (by omega) (by omega) (by omega) (by omega), w2 4 (by omega), m4]; rfl
    · rw [c3 (67 + 1) kk (by omega) (by omega) (by omega) (by omega), w3 1 kk (by omega) (by omega) hk, (m5 kk hk).1]; rfl
    · rw [eh4]; show a_i h3 69 kk = _; rw [(f4 kk hk).1]; rfl
    · rw [eh4]; show a_i h3 70 kk = _; rw [(f4 kk hk).2]; rfl
    · have z := m6 e he
      obtain ⟨v1, v2⟩ := w4 e he
      have ce : ∀ j, j < 13 → a_i h4 (67 + 5 + e) j = a_i y (7 + 5 + e) j := fun j hj => by
        rw [c3 _ _ (by omega) (by omega) (by omega) (by omega)]; exact v1 j hj
      have cl : a_l h4 (67 + 5 + e) 13 = a_l y (7 + 5 + e) 13 := by
        rw [eh4]
        show a_l h3 _ 13 = _
        rw [f3, eh2]
        exact v2
      have ts : ∀ c i, ¬ c = 0 → ¬ c = 8 → ¬ c = 9 → tryS x v0 c i = x c i := fun c i a b d => by
        unfold tryS
        rw [if_neg (by omega), if_neg (by omega)]
      unfold rMe at z ⊢
      rw [ce 0 (by omega), ce 1 (by omega), ce 2 (by omega), ce 3 (by omega), ce 5 (by omega), ce 6 (by omega), ce 10 (by omega), ce 11 (by omega), ce 12 (by omega), ce 7 (by omega), ce 8 (by omega), ce 9 (by omega), cl]
      simp (disch := omega) only [ts]
      exact z
  have W0 : WW 1 n 90 T (tryS x v0) := WW_0 G.1 wx xd xh x01 T9 (fun c i a b c' => by
    unfold tryS
    rw [if_neg c', if_neg (by omega)]) (inn_bt hv)
  have K0 : cK 1 67 h4 h4 (tryS x v0) := ⟨⟨rfl, rfl, rfl⟩, xm4, fun z => absurd z (by omega), fun _ _ _ => rfl, fun _ _ _ => rfl⟩
  obtain ⟨h5, p1, q1, q2, q3, q4, q5⟩ := c_passes (d := d) (t := t) B W0.1 (by omega) (by omega) K0 (by omega)
  refine ⟨h5, fun Q => ?_, n4.tr ⟨q1.1, q1.2.2, fun q j _ => by rw [q1.2.1], fun q j c => q4 q j (fun z => c (by unfold tch at z; unfold scr; omega)), fun q c => q5 q 13 (by omega)⟩, by rw [q1.2.1]; exact r91, fun kk hk => ?_⟩
  · unfold Cal
    rw [l_X11_tryRule]
    simp only [am_en, am_ag, ct_i, ct_r, ct_l, List.length_cons, List.length_nil, List.replicate]
    simp [w_aload_n0 (M := mX11_tryRule) dX11_tryRule_0, w_getO (M := mX11_tryRule) dX11_tryRule_1 f_11_22 rfl (by decide) (by decide), w_aload_n0 (M := mX11_tryRule) dX11_tryRule_4, w_getO (M := mX11_tryRule) dX11_tryRule_5 f_11_10 rfl (by decide) (by decide), w_getO (M := mX11_tryRule) dX11_tryRule_8 f_11_82 rfl (by decide) (by decide), c_11_386 (M := mX11_tryRule) dX11_tryRule_11 rfl, w_aload_n0 (M := mX11_tryRule) dX11_tryRule_14, w_getO (M := mX11_tryRule) dX11_tryRule_15 f_11_22 rfl (by decide) (by decide), w_iload_n1 (M := mX11_tryRule) dX11_tryRule_18, w_putI (M := mX11_tryRule) dX11_tryRule_19 f_11_102 rfl (Or.inl rfl), w_aload_n0 (M := mX11_tryRule) dX11_tryRule_22, w_getO (M := mX11_tryRule) dX11_tryRule_23 f_11_22 rfl (by decide) (by decide), c_11_389 (M := mX11_tryRule) dX11_tryRule_26 rfl, w_aload_n0 (M := mX11_tryRule) dX11_tryRule_29, w_getO (M := mX11_tryRule) dX11_tryRule_30 f_11_22 rfl (by decide) (by decide), w_iload_n2 (M := mX11_tryRule) dX11_tryRule_33, w_aload_n0 (M := mX11_tryRule) dX11_tryRule_34, w_getO (M := mX11_tryRule) dX11_tryRule_35 f_11_10 rfl (by decide) (by decide), w_getO (M := mX11_tryRule) dX11_tryRule_38 f_11_64 rfl (by decide) (by decide), w_aload_n0 (M := mX11_tryRule) dX11_tryRule_41, c_11_147 (M := mX11_tryRule) dX11_tryRule_42 rfl, w_aload_n0 (M := mX11_tryRule) dX11_tryRule_45, w_getO (M := mX11_tryRule) dX11_tryRule_46 f_11_31 rfl (by decide) (by decide), c_11_151 (M := mX11_tryRule) dX11_tryRule_49 rfl, w_pop_int (M := mX11_tryRule) dX11_tryRule_52, w_pop_ref (M := mX11_tryRule) dX11_tryRule_52, w_vret (M := mX11_tryRule) dX11_tryRule_53 rfl, Kn_v_, Kn_n_, kl_i_, kl_a_, kl_l_, kl_n_, s1_0_, s2_0_, s1_1, s1_2, s1_3, s1_4, s1_5, s1_6, s1_7, s1_8, s1_9, s1_10, s1_11, s1_12, s1_13, s1_14, s2_1, s2_2, s2_3, s2_4, s2_5, s2_6, s2_7, s2_8, s2_9, s2_10, s2_11, s2_12, s2_13, s2_14, List.map_nil, List.map_cons, List.sum_nil, List.sum_cons, ct_i_, ct_r_, ct_l_, t_si_, t_sl_, t_sr_, n_si_, n_sl_, n_sr_, i_si_, i_sl_, i_sr_, l_si_, l_sl_, l_sr_, r_si_, r_sl_, r_sr_, vr_s_, vr_n_, nz_0_, nz_1_, hC.e, c1, hC1.e, ← eh2, hC2.e, f1, hC3.e, ln, hC4.e, p1]
  · exact ⟨(q2.2.1 kk hk).2.1, (q2.2.1 kk hk).2.2⟩
theorem sum16_c {f g : Nat → Int32} (h : ∀ k, k < 16 → f k = g k) : sum16 f = sum16 g := by
  unfold sum16
  exact itr_congr (n := 16) (I := fun _ _ => True) (fun _ _ _ _ => trivial) (fun i s hi _ => by rw [h i hi]) 16 0 0 (by omega) trivial
theorem q_tot (hr : a_t h r = (20, 16)) : Cal d mX11_total [.ref r] h Q = Q (some (.int (sum16 (a_i h r)))) h := q_total hr
/-- the rule that is tried -/
theorem rJ.ur (k : rJ 1 n b0 u h0 h s) : rJ 1 n b0 u h0 (s_i h 126 45 v0) (up s 0 0 v0) := by
  obtain ⟨k1, ⟨a1, a2, a3, a4, a5, a6⟩, k3, k4, k5, k6, k7, k8⟩ := k
  refine ⟨k1.tr ⟨rfl, rfl, rfl⟩, ⟨?_, ?_, ?_, ?_, ?_, ?_⟩, fun e' he' => ?_, fun k hk => ?_, fun z => absurd z (by omega), fun z => ?_, fun q j c' => ?_, k8⟩
  · rw [ine (by omega)]; exact a1
  · rw [ine (by omega)]; exact a2
  · rw [ine (by omega), upn (by omega)]; exact a3
  · rw [ieq rfl rfl, upe' rfl rfl]
  · rw [ine (by omega), upn (by omega)]; exact a5
  · rw [ine (by omega), upn (by omega)]; exact a6
  · have := k3 e' he'
    unfold rJe at this ⊢
    simp (disch := omega) only [ine, upn]
    exact this
  · rw [ine (by omega), upn (by omega)]; exact k4 k hk
  · have e8 : up s 0 0 v0 8 = s 8 := funext fun i => upn (by omega)
    have e9 : up s 0 0 v0 9 = s 9 := funext fun i => upn (by omega)
    rw [ine (by omega), ine (by omega), e8, e9]
    exact k6 z
  · rw [ine (fun z => c' (by unfold jch; omega))]
    exact k7 q j c'
set_option maxRecDepth 20000 in
set_option maxHeartbeats 8000000 in
/-- a try of the other side, from any heap that is near -/
theorem r_try (tb : TB X n T g VW VS VL x h) (hv : inn v0 0 3 = true) (ht : t ≤ 3000) (ny : near h y) (r91 : a_r y 91 0 = rlO g) : ∃ y', (∀ Q, Cal (d + 8) mX12_laysRule [.ref 126, .int v0, .int (nI t)] y Q = Q none y') ∧ near h y' ∧ a_r y' 91 0 = rlO g ∧ a_i y' 126 48 = sum16 (TKS g VW VS VL 1 n t (tryS x v0) 8) ∧ a_i y' 126 49 = sum16 (TKS g VW VS VL 1 n t (tryS x v0) 9) := by
  obtain ⟨k, x0, x1, x2, G, hg, x01, T9, wx, xd, xh, xs, xm, hr⟩ := tb
  have hR := ny.sR k.1.2.1
  have y127 : a_i y 127 = g := by rw [← hg]; exact funext fun j => ny.2.2.2.1 127 j (by unfold scr; omega)
  have LXy : ∀ {w V}, LX h w V → LX y w V := fun L => ny.LX (hr.trans r91.symm) L
  have RB : rBs 1 n g VW VS VL y := ⟨by omega, LXy x0, LXy x1, LXy x2, G, fun j z1 z2 => by rw [y127]⟩
  obtain ⟨z0, hz0⟩ : ∃ z0 : TS, z0 = fun c i => if c = 8 ∨ c = 9 then 0 else x c i := ⟨_, rfl⟩
  have z0o : ∀ c i, ¬ c = 8 → ¬ c = 9 → z0 c i = x c i := fun c i a b => by
    rw [hz0]
    exact if_neg (by omega)
  obtain ⟨h5, y1, y2, y3⟩ := r_laysNow (d := d + 4) (m := 1) (h := y) (x := x) (y := z0) (n := n) hR (by omega) G.1 (fun c i hc => by rw [y127]; exact xs c i hc) (by rw [y127]; exact G.2.1) wx xd xh (fun z => absurd z (by omega)) (fun _ => ⟨z0o, fun i => by rw [hz0]; exact if_pos (Or.inl rfl), fun i => by rw [hz0]; exact if_pos (Or.inr rfl)⟩)
  rw [x01, Nn_n (by omega)] at y3
  obtain ⟨h6, eh6⟩ : ∃ h6, h6 = s_i h5 126 45 v0 := ⟨_, rfl⟩
  have tz : up z0 0 0 v0 = tryS x v0 := by
    funext c i
    unfold tryS up
    by_cases q : c = 0 ∧ i = 0
    · rw [if_pos q, if_pos q]
    · rw [if_neg q, if_neg q, hz0]
  have y2' : rJ 1 n (x 0 3) (fun _ => TKS g VW VS VL 1 n 0 (tryS x v0) 0 1 + 1) y h6 (TKS g VW VS VL 1 n 0 (tryS x v0)) := by
    rw [eh6]
    have := rJ.ur (v0 := v0) y2
    rw [tz] at this
    exact this
  have y3' : SPK h6 (TKS g VW VS VL 1 n 0 (tryS x v0)) (T + 0) := by
    intro kk k1 k2
    rw [eh6, ine (by omega), Nat.add_zero, y3 kk k1 k2]
    congr 1
    exact bN_c (fun f hf => by
      rw [← tz]
      show decide (z0 (30 + f) kk = 1) = decide (up z0 0 0 v0 (30 + f) kk = 1)
      rw [upn (by omega)])
  have W0 : WW 1 n 90 T (tryS x v0) := WW_0 G.1 wx xd xh x01 T9 (fun c i a b c' => by
    unfold tryS
    rw [if_neg c', if_neg (by omega)]) (inn_bt hv)
  have t01 : tryS x v0 0 1 = nI T := x01
  have st : ∀ (i : Nat) (z : am_h), i < t → (rJ 1 n (x 0 3) (fun _ => TKS g VW VS VL 1 n i (tryS x v0) 0 1 + 1) y z (TKS g VW VS VL 1 n i (tryS x v0)) ∧ SPK z (TKS g VW VS VL 1 n i (tryS x v0)) (T + i)) → ∃ z', (∀ Q, WP (d + 8) mX12_laysRule 12 [some (.ref 126), some (.int v0), some (.int (nI t)), some (.int (nI i))] [] z Q = WP (d + 8) mX12_laysRule 12 [some (.ref 126), some (.int v0), some (.int (nI t)), some (.int (nI (i + 1)))] [] z' Q) ∧ (rJ 1 n (x 0 3) (fun _ => TKS g VW VS VL 1 n (i + 1) (tryS x v0) 0 1 + 1) y z' (TKS g VW VS VL 1 n (i + 1) (tryS x v0)) ∧ SPK z' (TKS g VW VS VL 1 n (i + 1) (tryS x v0)) (T + (i + 1))) := by
    intro i z hi ⟨z1, z2⟩
    have W := W0.tks (g := g) (VW := VW) (VS := VS) (VL := VL) G.1 i (by omega) (by omega)
    have zR := z1.R hR
    obtain ⟨z', v1, v2, v3⟩ := r_tenthGoes (d := d) RB z1 W.1 W.2 (by omega) (by omega) (TKS_01 t01 i) (by omega) z2
    rw [← TKS_s] at v2 v3
    refine ⟨z', fun Q => ?_, v2, v3⟩
    rw [w_iload_n3 (M := mX12_laysRule) dX12_laysRule_12]
    simp [w_iload_n2 (M := mX12_laysRule) dX12_laysRule_13, w_ic_ge (M := mX12_laysRule) (tgt := 27) dX12_laysRule_14 (by decide), w_aload_n0 (M := mX12_laysRule) dX12_laysRule_17, c_12_517 (M := mX12_laysRule) dX12_laysRule_18 rfl, w_iinc3 (M := mX12_laysRule) (v := 1) dX12_laysRule_21 rfl (by decide), w_goto (M := mX12_laysRule) (tgt := 12) dX12_laysRule_24 (by decide), Kn_v_, Kn_n_, kl_i_, kl_a_, kl_l_, kl_n_, s1_0_, s2_0_, s1_1, s1_2, s1_3, s1_4, s1_5, s1_6, s1_7, s1_8, s1_9, s1_10, s1_11, s1_12, s1_13, s1_14, s2_1, s2_2, s2_3, s2_4, s2_5, s2_6, s2_7, s2_8, s2_9, s2_10, s2_11, s2_12, s2_13, s2_14, List.map_nil, List.map_cons, List.sum_nil, List.sum_cons, ct_i_, ct_r_, ct_l_, t_si_, t_sl_, t_sr_, n_si_, n_sl_, n_sr_, i_si_, i_sl_, i_sr_, l_si_, l_sl_, l_sr_, r_si_, r_sl_, r_sr_, vr_s_, vr_n_, nz_0_, nz_1_, show (nI i < nI t) = True from nI_ltT hi (by omega), v1, zR.e, nI_s]
  obtain ⟨h7, z1, z2, z3⟩ := lp (W := fun i (z : am_h) Q => WP (d + 8) mX12_laysRule 12 [some (.ref 126), some (.int v0), some (.int (nI t)), some (.int (nI i))] [] z Q) (P := fun i z => rJ 1 n (x 0 3) (fun _ => TKS g VW VS VL 1 n i (tryS x v0) 0 1 + 1) y z (TKS g VW VS VL 1 n i (tryS x v0)) ∧ SPK z (TKS g VW VS VL 1 n i (tryS x v0)) (T + i)) st t 0 h6 (by omega) ⟨y2', y3'⟩
  obtain ⟨u1, u2, u3, u4, u5, u6, u7, u8⟩ := z2
  refine ⟨h7, fun Q => ?_, ny.tr ⟨u1.1, u1.2.2, fun q j _ => by rw [u1.2.1], fun q j c => u7 q j (fun z => c (by unfold jch at z; unfold scr; omega)), fun q c => u8 q 13 (by omega)⟩, by rw [u1.2.1]; exact r91, (u6 rfl).1, (u6 rfl).2⟩
  have hR5 := y2.R hR
  have hR6 := y2'.R hR
  have y1' := y1
  rw [show nI 1 = 1 from rfl] at y1'
  have z1' := z1 Q
  have e0 : (0 : Int32) = nI 0 := rfl
  unfold Cal
  rw [l_X12_laysRule]
  simp only [am_en, am_ag, ct_i, ct_r, ct_l, List.length_cons, List.length_nil, List.replicate]
  simp [w_aload_n0 (M := mX12_laysRule) dX12_laysRule_0, w_iconst (M := mX12_laysRule) (v := 1) dX12_laysRule_1 rfl, c_12_514 (M := mX12_laysRule) dX12_laysRule_2 rfl, w_aload_n0 (M := mX12_laysRule) dX12_laysRule_5, w_iload_n1 (M := mX12_laysRule) dX12_laysRule_6, w_putI (M := mX12_laysRule) dX12_laysRule_7 f_12_427 rfl (Or.inl rfl), w_iconst (M := mX12_laysRule) (v := 0) dX12_laysRule_10 rfl, w_istore_n (M := mX12_laysRule) (i := 3) dX12_laysRule_11 rfl (by decide), Kn_v_, Kn_n_, kl_i_, kl_a_, kl_l_, kl_n_, s1_0_, s2_0_, s1_1, s1_2, s1_3, s1_4, s1_5, s1_6, s1_7, s1_8, s1_9, s1_10, s1_11, s1_12, s1_13, s1_14, s2_1, s2_2, s2_3, s2_4, s2_5, s2_6, s2_7, s2_8, s2_9, s2_10, s2_11, s2_12, s2_13, s2_14, List.map_nil, List.map_cons, List.sum_nil, List.sum_cons, ct_i_, ct_r_, ct_l_, t_si_, t_sl_, t_sr_, n_si_, n_sl_, n_sr_, i_si_, i_sl_, i_sr_, l_si_, l_sl_, l_sr_, r_si_, r_sl_, r_sr_, vr_s_, vr_n_, nz_0_, nz_1_, hR.e, y1', hR5.e, ← eh6]
  rw [e0]
  refine Eq.to_iff (Eq.trans z1' ?_)
  show WP (d + 8) mX12_laysRule 12 _ _ _ _ = _
  rw [w_iload_n3 (M := mX12_laysRule) dX12_laysRule_12]
  simp [w_iload_n2 (M := mX12_laysRule) dX12_laysRule_13, w_ic_ge (M := mX12_laysRule) (tgt := 27) dX12_laysRule_14 (by decide), w_vret (M := mX12_laysRule) dX12_laysRule_27 rfl, Kn_v_, Kn_n_, kl_i_, kl_a_, kl_l_, kl_n_, s1_0_, s2_0_, s1_1, s1_2, s1_3, s1_4, s1_5, s1_6, s1_7, s1_8, s1_9, s1_10, s1_11, s1_12, s1_13, s1_14, s2_1, s2_2, s2_3, s2_4, s2_5, s2_6, s2_7, s2_8, s2_9, s2_10, s2_11, s2_12, s2_13, s2_14, List.map_nil, List.map_cons, List.sum_nil, List.sum_cons, ct_i_, ct_r_, ct_l_, t_si_, t_sl_, t_sr_, n_si_, n_sl_, n_sr_, i_si_, i_sl_, i_sr_, l_si_, l_sl_, l_sr_, r_si_, r_sl_, r_sr_, vr_s_, vr_n_, nz_0_, nz_1_, show (nI t < nI t) = False from nI_ltF (Nat.le_refl _) (by omega)]
end TRY2
