/-! go, both sides -/
section GO3
variable {X : PX} {d : Nat} {h : am_h}
theorem inn_nat {v lo hi : Int32} (k : inn v lo hi = true) (h0 : 0 ≤ lo.toInt) (hh : hi.toInt < 2000000000) : ∃ t : Nat, v = nI t ∧ lo.toInt ≤ t ∧ (t : Int) ≤ hi.toInt := by
  have b := inn_bt k
  obtain ⟨t, t1, t2, t3⟩ := btn b h0 hh
  unfold bt at b
  exact ⟨t, t1, by omega, by omega⟩
set_option maxRecDepth 20000 in
set_option maxHeartbeats 8000000 in
theorem ot_go (k : Inv X h) (ol : rOl h) {v0 : Int32} : opT X (d + 8) mX11_go mX12_go [.ref 0, .int v0] [.ref 126, .int v0] h := by
  have hC := k.1.1
  have hR := k.1.2.1
  have kf := k.e
  by_cases c0 : inn v0 1 300 = true
  · obtain ⟨t, rfl, t1, t2⟩ := inn_nat c0 (by decide) (by decide)
    have t2 : t ≤ 300 := by
      have : (300 : Int32).toInt = 300 := rfl
      omega
    have w := k.2.1.2.2.2.2.1
    obtain ⟨n, e1, e2, e3⟩ := k.N
    rw [e3] at w
    have w91 : bt 0 (a_i h 127 91) 9000 := w.2.1
    obtain ⟨T, T1, T2, T3⟩ := btn w91 (by omega) (by omega)
    have T9 : T ≤ 9000 := by unfold bt at w91; omega
    have sum : a_i h 127 91 + nI t = nI (T + t) := by rw [T1, nI_a]
    by_cases c1 : 9000 < T + t
    · have c1' : (9000 < nI (T + t)) = True := nI_ltT (a := 9000) c1 (by omega)
      refine opT_ref (r := 1) k (by omega) (ans := -1) (fun Q => ?_) (fun Q => ?_)
      · unfold Cal
        rw [l_X11_go]
        simp only [am_en, am_ag, ct_i, ct_r, ct_l, List.length_cons, List.length_nil, List.replicate]
        simp [w_iload_n1 (M := mX11_go) dX11_go_0, w_iconst (M := mX11_go) (v := 1) dX11_go_1 rfl, w_sipush (M := mX11_go) (v := 300) dX11_go_2 rfl, c_11_56 (M := mX11_go) dX11_go_5 rfl, w_if_ne (M := mX11_go) (tgt := 18) dX11_go_8 (by decide), w_aload_n0 (M := mX11_go) dX11_go_11, w_iconst (M := mX11_go) (v := 0) dX11_go_12 rfl, w_iconst (M := mX11_go) (v := (-1)) dX11_go_13 rfl, c_11_60 (M := mX11_go) dX11_go_14 rfl, w_iret (M := mX11_go) dX11_go_17 rfl, w_aload_n0 (M := mX11_go) dX11_go_18, w_getO (M := mX11_go) dX11_go_19 f_11_10 rfl (by decide) (by decide), w_getO (M := mX11_go) dX11_go_22 f_11_82 rfl (by decide) (by decide), w_getI (M := mX11_go) dX11_go_25 f_11_127 rfl (by decide) (by decide), w_iload_n1 (M := mX11_go) dX11_go_28, w_iadd (M := mX11_go) dX11_go_29, w_sipush (M := mX11_go) (v := 9000) dX11_go_30 rfl, w_ic_le (M := mX11_go) (tgt := 43) dX11_go_33 (by decide), w_aload_n0 (M := mX11_go) dX11_go_36, w_iconst (M := mX11_go) (v := 1) dX11_go_37 rfl, w_iconst (M := mX11_go) (v := (-1)) dX11_go_38 rfl, c_11_60 (M := mX11_go) dX11_go_39 rfl, w_iret (M := mX11_go) dX11_go_42 rfl, w_aload_n0 (M := mX11_go) dX11_go_43, w_getO (M := mX11_go) dX11_go_44 f_11_10 rfl (by decide) (by decide), c_11_95 (M := mX11_go) dX11_go_47 rfl, w_aload_n0 (M := mX11_go) dX11_go_50, w_getO (M := mX11_go) dX11_go_51 f_11_10 rfl (by decide) (by decide), w_getO (M := mX11_go) dX11_go_54 f_11_82 rfl (by decide) (by decide), w_iload_n1 (M := mX11_go) dX11_go_57, w_aload_n0 (M := mX11_go) dX11_go_58, w_getO (M := mX11_go) dX11_go_59 f_11_10 rfl (by decide) (by decide), w_getO (M := mX11_go) dX11_go_62 f_11_64 rfl (by decide) (by decide), w_aload_n0 (M := mX11_go) dX11_go_65, c_11_147 (M := mX11_go) dX11_go_66 rfl, w_aload_n0 (M := mX11_go) dX11_go_69, w_getO (M := mX11_go) dX11_go_70 f_11_10 rfl (by decide) (by decide), w_getO (M := mX11_go) dX11_go_73 f_11_108 rfl (by decide) (by decide), c_11_151 (M := mX11_go) dX11_go_76 rfl, w_iret (M := mX11_go) dX11_go_79 rfl, Kn_v_, Kn_n_, kl_i_, kl_a_, kl_l_, kl_n_, s1_0_, s2_0_, s1_1, s1_2, s1_3, s1_4, s1_5, s1_6, s1_7, s1_8, s1_9, s1_10, s1_11, s1_12, s1_13, s1_14, s2_1, s2_2, s2_3, s2_4, s2_5, s2_6, s2_7, s2_8, s2_9, s2_10, s2_11, s2_12, s2_13, s2_14, List.map_nil, List.map_cons, List.sum_nil, List.sum_cons, ct_i_, ct_r_, ct_l_, t_si_, t_sl_, t_sr_, n_si_, n_sl_, n_sr_, i_si_, i_sl_, i_sr_, l_si_, l_sl_, l_sr_, r_si_, r_sl_, r_sr_, vr_s_, vr_n_, nz_0_, nz_1_, bI_0, bI_n, bI_t, bI_f, q_X11_within, q_X11_refuse, hC, hC.e, kf, c0, sum, c1']
      · unfold Cal
        rw [l_X12_go]
        simp only [am_en, am_ag, ct_i, ct_r, ct_l, List.length_cons, List.length_nil, List.replicate]
        simp [w_iload_n1 (M := mX12_go) dX12_go_0, w_iconst (M := mX12_go) (v := 1) dX12_go_1 rfl, w_sipush (M := mX12_go) (v := 300) dX12_go_2 rfl, c_12_173 (M := mX12_go) dX12_go_5 rfl, w_if_ne (M := mX12_go) (tgt := 18) dX12_go_8 (by decide), w_aload_n0 (M := mX12_go) dX12_go_11, w_iconst (M := mX12_go) (v := 0) dX12_go_12 rfl, w_iconst (M := mX12_go) (v := (-1)) dX12_go_13 rfl, c_12_177 (M := mX12_go) dX12_go_14 rfl, w_iret (M := mX12_go) dX12_go_17 rfl, w_aload_n0 (M := mX12_go) dX12_go_18, w_getA (M := mX12_go) dX12_go_19 f_12_7 rfl (by decide) (by decide), w_bipush (M := mX12_go) (v := 91) dX12_go_22 rfl, w_iaload (M := mX12_go) dX12_go_24, w_iload_n1 (M := mX12_go) dX12_go_25, w_iadd (M := mX12_go) dX12_go_26, w_sipush (M := mX12_go) (v := 9000) dX12_go_27 rfl, w_ic_le (M := mX12_go) (tgt := 40) dX12_go_30 (by decide), w_aload_n0 (M := mX12_go) dX12_go_33, w_iconst (M := mX12_go) (v := 1) dX12_go_34 rfl, w_iconst (M := mX12_go) (v := (-1)) dX12_go_35 rfl, c_12_177 (M := mX12_go) dX12_go_36 rfl, w_iret (M := mX12_go) dX12_go_39 rfl, w_aload_n0 (M := mX12_go) dX12_go_40, c_12_191 (M := mX12_go) dX12_go_41 rfl, w_aload_n0 (M := mX12_go) dX12_go_44, w_iconst (M := mX12_go) (v := 0) dX12_go_45 rfl, c_12_514 (M := mX12_go) dX12_go_46 rfl, w_iconst (M := mX12_go) (v := 0) dX12_go_49 rfl, w_istore_n (M := mX12_go) (i := 2) dX12_go_50 rfl (by decide), w_iload_n2 (M := mX12_go) dX12_go_51, w_iload_n1 (M := mX12_go) dX12_go_52, w_ic_ge (M := mX12_go) (tgt := 66) dX12_go_53 (by decide), w_aload_n0 (M := mX12_go) dX12_go_56, c_12_517 (M := mX12_go) dX12_go_57 rfl, w_iinc2 (M := mX12_go) (v := 1) dX12_go_60 rfl (by decide), w_goto (M := mX12_go) (tgt := 51) dX12_go_63 (by decide), w_aload_n0 (M := mX12_go) dX12_go_66, c_12_520 (M := mX12_go) dX12_go_67 rfl, w_aload_n0 (M := mX12_go) dX12_go_70, w_getI (M := mX12_go) dX12_go_71 f_12_433 rfl (by decide) (by decide), w_iret (M := mX12_go) dX12_go_74 rfl, Kn_v_, Kn_n_, kl_i_, kl_a_, kl_l_, kl_n_, s1_0_, s2_0_, s1_1, s1_2, s1_3, s1_4, s1_5, s1_6, s1_7, s1_8, s1_9, s1_10, s1_11, s1_12, s1_13, s1_14, s2_1, s2_2, s2_3, s2_4, s2_5, s2_6, s2_7, s2_8, s2_9, s2_10, s2_11, s2_12, s2_13, s2_14, List.map_nil, List.map_cons, List.sum_nil, List.sum_cons, ct_i_, ct_r_, ct_l_, t_si_, t_sl_, t_sr_, n_si_, n_sl_, n_sr_, i_si_, i_sl_, i_sr_, l_si_, l_sl_, l_sr_, r_si_, r_sl_, r_sr_, vr_s_, vr_n_, nz_0_, nz_1_, bI_0, bI_n, bI_t, bI_f, q_X12_in, q_X12_refuses, hR, hR.e, am_in1, c0, sum, c1', i_si_, i_sl_, i_sr_, t_si_, t_sl_, t_sr_, r_si_, r_sl_, l_si_, n_si_, n_sl_]
    · have c1' : (9000 < nI (T + t)) = False := nI_ltF (a := 9000) (b := T + t) (by omega) (by omega)
      obtain ⟨nn, h1, n1, n2, ck, kv, g1, g2, g3⟩ := keepS (d := d + 4) k
      obtain ⟨g, hg⟩ : ∃ g, g = a_i h 127 := ⟨_, rfl⟩
      rw [← hg] at kv
      have lo : ∀ i, i < 740 → ¬ i = 3 → KS nn g i = g i := fun i z1 z2 => ks_lo n2 z1 z2
      have hC1 : sh_C (a_t h1) (a_r h1) := kv.1.1
      have e127 : a_i h1 127 = g := by rw [hg]; exact funext fun j => g1 127 j (by omega) (by omega)
      have rl := kv.rl
      have rl1 : (a_i h1 1 7 = -1 ∧ g 2 = -1) ∨ ∃ t, t < 4 ∧ a_i h1 1 7 = nI t ∧ g 2 = nI t := by
        rw [iwn (by omega), iwe rfl, lo 2 (by omega) (by omega)] at rl
        exact rl
      obtain ⟨l, hl, hl2⟩ : ∃ l : Option Nat, ((a_i h1 1 7 = -1 ∧ l = none) ∨ ∃ t, t < 4 ∧ a_i h1 1 7 = nI t ∧ l = some (94 + 8 * t)) ∧ l = (if g 2 = -1 then none else some (94 + 8 * Nn (g 2))) := by
        rcases rl1 with ⟨z1, z2⟩ | ⟨t, z0, z1, z2⟩
        · exact ⟨none, Or.inl ⟨z1, rfl⟩, by rw [if_pos z2]⟩
        · exact ⟨some (94 + 8 * t), Or.inr ⟨t, z0, z1, rfl⟩, by rw [z2, if_neg (of_eq_false (nI_n1 (by omega))), Nn_n (by omega)]⟩
      -- laws laid to hand
      obtain ⟨h2, eh2⟩ : ∃ h2, h2 = s_r h1 91 0 l := ⟨_, rfl⟩
      obtain ⟨H2, eH2⟩ : ∃ H2, H2 = s_r (s_w h1 127 (KS nn g)) 91 0 l := ⟨_, rfl⟩
      have kv2 : Inv X H2 := by
        rw [eH2]
        exact Inv_scr kv rfl rfl (fun q j hq => rne (by omega)) (fun q j _ => rfl) (fun q _ => rfl)
      have H2i : ∀ q, ¬ q = 127 → a_i H2 q = a_i h2 q := fun q hq => by rw [eH2, eh2]; exact iwn hq
      have H2r : a_i H2 127 = KS nn g := by
        rw [eH2]
        show a_i (s_w h1 127 (KS nn g)) 127 = _
        exact iwe rfl
      have h2i : a_i h2 = a_i h1 := by rw [eh2]; rfl
      have H2t : a_t H2 = a_t h2 := by rw [eH2, eh2]; rfl
      have H2rr : a_r H2 = a_r h2 := by rw [eH2, eh2]; rfl
      have H2l : a_l H2 = a_l h2 := by rw [eH2, eh2]; rfl
      have H21 : H2.1 = h2.1 := by rw [eH2, eh2]; rfl
      have ol2 : rOl H2 := by
        have o1 := ol.old (Cal.old ck)
        obtain ⟨o1, o2, o3⟩ := o1
        refine ⟨by rw [H2t, eh2]; exact o1, by rw [H2t, eh2]; exact o2, fun w hw => ?_⟩
        rw [H2i _ (by omega), H2i _ (by omega), h2i]
        exact o3 w hw
      have hr91 : a_r H2 91 0 = if a_i H2 127 2 = -1 then none else some (94 + 8 * Nn (a_i H2 127 2)) := by
        rw [H2r, lo 2 (by omega) (by omega), ← hl2, eH2]
        exact req rfl rfl
      obtain ⟨VW, x0⟩ := LX_ex X kv2 ol2 (w := 0) (by omega) hr91
      obtain ⟨VS, x1⟩ := LX_ex X kv2 ol2 (w := 1) (by omega) hr91
      obtain ⟨VL, x2⟩ := LX_ex X kv2 ol2 (w := 2) (by omega) hr91
      have i127 : a_i h2 127 = g := by rw [h2i]; exact e127
      have LXh : ∀ {w V} (y : am_h), a_t y = a_t h2 → a_r y = a_r h2 → (∀ q j, (94 ≤ q ∧ q < 126) ∨ (130 ≤ q ∧ q < 138) ∨ 1000000 ≤ q → a_i y q j = a_i h2 q j) → a_i y 127 2 = g 2 → LX H2 w V → LX y w V := by
        intro w V y z1 z2 z3 z4 L
        exact LX_fr (z1.trans H2t.symm) (z2.trans H2rr.symm) (fun q j hq => by rw [z3 q j hq, H2i q (by omega)]) (by rw [z4, H2r, lo 2 (by omega) (by omega)]) L
      -- the line now
      have dk : dec (KS nn g) 90 = dec g 90 := dec_congr (fun j hj => lo _ (by omega) (by omega))
      have r6 : rLn (a_i h2) (a_l h2) 7 (dec g 90) := by
        have := kv2.2.1.2.1
        rw [H2r, dk] at this
        exact rLn_fr (fun k j hk => by rw [H2i _ (by omega)]) (fun e he => by rw [H2l]) this
      obtain ⟨xs, xm, xd, xh⟩ := rLn_M r6
      obtain ⟨x, ex⟩ : ∃ x, x = ext (a_i h2) (a_l h2) 7 (dec g 90) := ⟨_, rfl⟩
      rw [← ex] at xs xm xd xh
      have x01 : x 0 1 = nI T := by rw [xs 0 1 (by omega), dec_1, hg]; exact T1
      have d01 : dec g 90 0 1 = x 0 1 := (xs 0 1 (by omega)).symm
      rw [d01] at xd xh
      have wx : wS n x := by
        have := kv2.2.1.2.2.2.2.1
        rw [H2r, dk, lo 0 (by omega) (by omega), show g 0 = a_i h 127 0 by rw [hg], e3] at this
        exact wS_c xs this
      have gn : g 0 = nI n := by rw [hg]; exact e1
      have wg := k.2.1.1.2.2.2.2
      have G : gB g n := ⟨e2, gn, fun e he => by
        have := wg.2.2.2.2.2.2.2.2.2.1 e (by rw [e3]; exact he)
        rw [← hg] at this
        exact this⟩
      have B : cBs 0 7 16 n g VW VS VL h2 := ⟨Or.inl ⟨rfl, rfl, rfl⟩, LXh h2 rfl rfl (fun _ _ _ => rfl) (by rw [i127]) x0, LXh h2 rfl rfl (fun _ _ _ => rfl) (by rw [i127]) x1, LXh h2 rfl rfl (fun _ _ _ => rfl) (by rw [i127]) x2, G, by
        rw [h2i, g1 _ _ (by omega) (by omega), kf.1, ← hg]; exact gn, fun e he => by
        have o := k.o (e := e) (by rw [e3]; exact he)
        unfold tdC
        rw [h2i, g1 _ _ (by omega) (by omega), g1 _ _ (by omega) (by omega), g1 _ _ (by omega) (by omega), g1 _ _ (by omega) (by omega), g1 _ _ (by omega) (by omega), hg]
        exact ⟨kf.1, o⟩⟩
      have bk : rBk (a_i h2) 0 x := by
        have := kv2.2.1.2.2.1
        rw [H2r, dk] at this
        refine rBk_s (s := dec g 90) (fun c i hc => xs c i (by omega)) ?_
        exact rBk_fr (fun k j hk => by rw [H2i _ (by omega)]) this
      have K0 : cK 0 7 h2 h2 x := ⟨⟨rfl, rfl, rfl⟩, xm, fun _ => bk, fun _ _ _ => rfl, fun _ _ _ => rfl⟩
      have W0 : WW 0 n 90 T x := WW_0 e2 wx xd xh x01 T9 (fun _ _ _ _ _ => rfl) wx.1
      obtain ⟨h3, p1, p2⟩ := c_passes (d := d + 3) (t := t) B W0.1 (by omega) (by omega) K0 (by omega)
      obtain ⟨S, hS⟩ : ∃ S, S = TKS g VW VS VL 0 n t x := ⟨_, rfl⟩
      rw [← hS] at p1 p2
      obtain ⟨q1, q2, q3, q4, q5⟩ := p2
      have nt : ∀ q, ¬ (7 ≤ q ∧ q < 16) → ¬ (91 ≤ q ∧ q ≤ 93) → ¬ (17 ≤ q ∧ q ≤ 21) → ∀ j, a_i h3 q j = a_i h2 q j := fun q z1 z2 z3 j => q4 q j (by unfold tch; omega)
      have h3127 : a_i h3 127 = g := by rw [← i127]; exact funext fun j => nt 127 (by omega) (by omega) (by omega) j
      have hR3 : sh_R (a_t h3) (a_r h3) := by
        rw [q1.1, q1.2.1, ← H2t, ← H2rr]
        exact kv2.1.2.1
      -- the other side
      obtain ⟨h4, eh4⟩ : ∃ h4, h4 = s_w h3 127 (KS nn g) := ⟨_, rfl⟩
      have ks : ∀ Q, Cal (d + 7) mX12_keepsStep [.ref 126] h3 Q = Q none h4 := by
        intro Q
        have := q_X12_keepsStep (d := d + 7) (Q := Q) (h := h3) (eq_true hR3) (n := nn) (by rw [h3127, hg]; exact n1) n2
        rw [h3127, ← eh4] at this
        exact this
      have h4r : a_i h4 127 = KS nn g := by rw [eh4]; exact iwe rfl
      have h4i : ∀ q, ¬ q = 127 → a_i h4 q = a_i h3 q := fun q hq => by rw [eh4]; exact iwn hq
      have t4 : a_t h4 = a_t h2 := by rw [eh4]; exact q1.1
      have r4 : a_r h4 = a_r h2 := by rw [eh4]; exact q1.2.1
      have l4 : a_l h4 = a_l h3 := by rw [eh4]; rfl
      have f4 : h4.1 = h2.1 := by rw [eh4]; exact q1.2.2
      have hR4 : sh_R (a_t h4) (a_r h4) := by rw [eh4]; exact hR3
      have LX4 : ∀ {w V}, LX H2 w V → LX h4 w V := fun L => LXh h4 t4 r4 (fun q j hq => by rw [h4i q (by omega)]; exact nt q (by omega) (by omega) (by omega) j) (by rw [h4r, lo 2 (by omega) (by omega)]) L
      have RB : rBs 0 n g VW VS VL h4 := ⟨by omega, LX4 x0, LX4 x1, LX4 x2, G, fun j z1 z2 => by rw [h4r]; exact lo j (by omega) z2⟩
      obtain ⟨h5, y1, y2, y3⟩ := r_laysNow (d := d + 4) (m := 0) (h := h4) (x := x) (y := x) (n := n) hR4 (by omega) e2 (fun c i hc => by rw [h4r, dk]; exact xs c i hc) (by rw [h4r, lo 0 (by omega) (by omega)]; exact gn) wx xd xh (fun _ => rfl) (fun z => absurd z (by omega))
      rw [x01, Nn_n (by omega)] at y3
      have st : ∀ (i : Nat) (y : am_h), i < t → (rJ 0 n (x 0 3) (fun _ => TKS g VW VS VL 0 n i x 0 1 + 1) h4 y (TKS g VW VS VL 0 n i x) ∧ SPK y (TKS g VW VS VL 0 n i x) (T + i)) → ∃ y', (∀ Q, WP (d + 8) mX12_go 51 [some (.ref 126), some (.int (nI t)), some (.int (nI i))] [] y Q = WP (d + 8) mX12_go 51 [some (.ref 126), some (.int (nI t)), some (.int (nI (i + 1)))] [] y' Q) ∧ (rJ 0 n (x 0 3) (fun _ => TKS g VW VS VL 0 n (i + 1) x 0 1 + 1) h4 y' (TKS g VW VS VL 0 n (i + 1) x) ∧ SPK y' (TKS g VW VS VL 0 n (i + 1) x) (T + (i + 1))) := by
        intro i y hi ⟨z1, z2⟩
        have W := W0.tks (g := g) (VW := VW) (VS := VS) (VL := VL) e2 i (by omega) (by omega)
        have yR := z1.R hR4
        obtain ⟨y', v1, v2, v3⟩ := r_tenthGoes (d := d) RB z1 W.1 W.2 (by omega) (by omega) (TKS_01 x01 i) (by omega) z2
        rw [← TKS_s] at v2 v3
        refine ⟨y', fun Q => ?_, v2, v3⟩
        rw [w_iload_n2 (M := mX12_go) dX12_go_51]
        simp [w_iload_n1 (M := mX12_go) dX12_go_52, w_ic_ge (M := mX12_go) (tgt := 66) dX12_go_53 (by decide), w_aload_n0 (M := mX12_go) dX12_go_56, c_12_517 (M := mX12_go) dX12_go_57 rfl, w_iinc2 (M := mX12_go) (v := 1) dX12_go_60 rfl (by decide), w_goto (M := mX12_go) (tgt := 51) dX12_go_63 (by decide), Kn_v_, Kn_n_, kl_i_, kl_a_, kl_l_, kl_n_, s1_0_, s2_0_, s1_1, s1_2, s1_3, s1_4, s1_5, s1_6, s1_7, s1_8, s1_9, s1_10, s1_11, s1_12, s1_13, s1_14, s2_1, s2_2, s2_3, s2_4, s2_5, s2_6, s2_7, s2_8, s2_9, s2_10, s2_11, s2_12, s2_13, s2_14, List.map_nil, List.map_cons, List.sum_nil, List.sum_cons, ct_i_, ct_r_, ct_l_, t_si_, t_sl_, t_sr_, n_si_, n_sl_, n_sr_, i_si_, i_sl_, i_sr_, l_si_, l_sl_, l_sr_, r_si_, r_sl_, r_sr_, vr_s_, vr_n_, nz_0_, nz_1_, show (nI i < nI t) = True from nI_ltT hi (by omega), v1, yR.e, nI_s]
      obtain ⟨h6, z1, z2, z3⟩ := lp (W := fun i (y : am_h) Q => WP (d + 8) mX12_go 51 [some (.ref 126), some (.int (nI t)), some (.int (nI i))] [] y Q) (P := fun i y => rJ 0 n (x 0 3) (fun _ => TKS g VW VS VL 0 n i x 0 1 + 1) h4 y (TKS g VW VS VL 0 n i x) ∧ SPK y (TKS g VW VS VL 0 n i x) (T + i)) st t 0 h5 (by omega) ⟨y2, y3⟩
      rw [← hS] at z2
      obtain ⟨h7, v1, v2, v3, v4, v5, v6⟩ := r_keepsNow (d := d + 7) hR4 z2
      have b47 : a_i h7 126 47 = S 0 3 - x 0 3 := by rw [v4 _ _ (by omega)]; exact z2.2.1.2.2.2.2.2
      have hR5 := y2.R hR4
      have hR6 := z2.R hR4
      have hR7 : sh_R (a_t h7) (a_r h7) := by rw [v2.1, v2.2.1]; exact hR6
      -- what stands at the end
      have pd : PD n x S := by
        rw [hS]
        exact PD.tks ⟨wx, xd, xh, wOld_refl⟩ W0 e2 gn (fun e N he => by
          have := LX_b (w := 2) (by omega) x2 (N := N) (tw_b (G.2.2 e he) (w := 2) (by omega))
          exact this) x01 t (by omega) (by omega) (by omega)
      have dS : ∀ c i, c < 18 → S c i = dec (a_i h7 127) 90 c i := by
        intro c i hc
        rw [v6]
        have rr := z2.2.2.2.2.1 rfl
        unfold KW
        by_cases b1 : c = 0 ∧ i = 1
        · rw [if_pos b1, b1.1, b1.2]
        · rw [if_neg b1]
          by_cases b2 : c = 0 ∧ i = 2
          · rw [if_pos b2, b2.1, b2.2]
          · rw [if_neg b2]
            by_cases b3 : 1 ≤ c ∧ c ≤ 6 ∧ i < 4
            · rw [if_pos b3]
            · rw [if_neg b3]
              by_cases b4 : 7 ≤ c ∨ (c = 0 ∧ i < 5)
              · exact (rr c i (by omega)).symm
              · rw [hS, TKS_oor e2 (by omega) t, xs c i hc]
                have z : ∀ G : Nat → Int32, dec G 90 c i = 0 := by
                  intro G
                  have : c = 0 ∨ c = 1 ∨ c = 2 ∨ c = 3 ∨ c = 4 ∨ c = 5 ∨ c = 6 := by omega
                  rcases this with rfl | rfl | rfl | rfl | rfl | rfl | rfl
                  · show (if i = 0 then _ else if i = 1 then _ else if i = 2 then _ else if i = 3 then _ else if i = 4 then _ else (0 : Int32)) = 0
                    rw [if_neg (by omega), if_neg (by omega), if_neg (by omega), if_neg (by omega), if_neg (by omega)]
                  all_goals exact if_neg (by omega)
                rw [z, z]
      have h76 : ∀ q j, ¬ q = 127 → a_i h7 q j = a_i h6 q j := v4
      have h64 : ∀ q j, ¬ jch 0 q j → a_i h6 q j = a_i h4 q j := z2.2.2.2.2.2.2.1
      have near : ∀ q j, ¬ q = 127 → ¬ (q = 126 ∧ 42 ≤ j ∧ j ≤ 49) → ¬ (150 ≤ q ∧ q ≤ 166) → a_i h7 q j = a_i h3 q j := fun q j z1 z2 z3 => by
        rw [h76 q j z1, h64 q j (by unfold jch; omega), h4i q z1]
      refine ⟨S 0 3 - x 0 3, h3, h7, fun Q => ?_, fun Q => ?_, ?_, ?_⟩
      · unfold Cal
        rw [l_X11_go]
        simp only [am_en, am_ag, ct_i, ct_r, ct_l, List.length_cons, List.length_nil, List.replicate]
        have ln := fun d Q => q_lawsNow (d := d) (Q := Q) hC1 hl
        have hC2 : sh_C (a_t h2) (a_r h2) := by rw [← H2t, ← H2rr]; exact kv2.1.1
        rw [← eh2] at ln
        simp [w_iload_n1 (M := mX11_go) dX11_go_0, w_iconst (M := mX11_go) (v := 1) dX11_go_1 rfl, w_sipush (M := mX11_go) (v := 300) dX11_go_2 rfl, c_11_56 (M := mX11_go) dX11_go_5 rfl, w_if_ne (M := mX11_go) (tgt := 18) dX11_go_8 (by decide), w_aload_n0 (M := mX11_go) dX11_go_11, w_iconst (M := mX11_go) (v := 0) dX11_go_12 rfl, w_iconst (M := mX11_go) (v := (-1)) dX11_go_13 rfl, c_11_60 (M := mX11_go) dX11_go_14 rfl, w_iret (M := mX11_go) dX11_go_17 rfl, w_aload_n0 (M := mX11_go) dX11_go_18, w_getO (M := mX11_go) dX11_go_19 f_11_10 rfl (by decide) (by decide), w_getO (M := mX11_go) dX11_go_22 f_11_82 rfl (by decide) (by decide), w_getI (M := mX11_go) dX11_go_25 f_11_127 rfl (by decide) (by decide), w_iload_n1 (M := mX11_go) dX11_go_28, w_iadd (M := mX11_go) dX11_go_29, w_sipush (M := mX11_go) (v := 9000) dX11_go_30 rfl, w_ic_le (M := mX11_go) (tgt := 43) dX11_go_33 (by decide), w_aload_n0 (M := mX11_go) dX11_go_36, w_iconst (M := mX11_go) (v := 1) dX11_go_37 rfl, w_iconst (M := mX11_go) (v := (-1)) dX11_go_38 rfl, c_11_60 (M := mX11_go) dX11_go_39 rfl, w_iret (M := mX11_go) dX11_go_42 rfl, w_aload_n0 (M := mX11_go) dX11_go_43, w_getO (M := mX11_go) dX11_go_44 f_11_10 rfl (by decide) (by decide), c_11_95 (M := mX11_go) dX11_go_47 rfl, w_aload_n0 (M := mX11_go) dX11_go_50, w_getO (M := mX11_go) dX11_go_51 f_11_10 rfl (by decide) (by decide), w_getO (M := mX11_go) dX11_go_54 f_11_82 rfl (by decide) (by decide), w_iload_n1 (M := mX11_go) dX11_go_57, w_aload_n0 (M := mX11_go) dX11_go_58, w_getO (M := mX11_go) dX11_go_59 f_11_10 rfl (by decide) (by decide), w_getO (M := mX11_go) dX11_go_62 f_11_64 rfl (by decide) (by decide), w_aload_n0 (M := mX11_go) dX11_go_65, c_11_147 (M := mX11_go) dX11_go_66 rfl, w_aload_n0 (M := mX11_go) dX11_go_69, w_getO (M := mX11_go) dX11_go_70 f_11_10 rfl (by decide) (by decide), w_getO (M := mX11_go) dX11_go_73 f_11_108 rfl (by decide) (by decide), c_11_151 (M := mX11_go) dX11_go_76 rfl, w_iret (M := mX11_go) dX11_go_79 rfl, Kn_v_, Kn_n_, kl_i_, kl_a_, kl_l_, kl_n_, s1_0_, s2_0_, s1_1, s1_2, s1_3, s1_4, s1_5, s1_6, s1_7, s1_8, s1_9, s1_10, s1_11, s1_12, s1_13, s1_14, s2_1, s2_2, s2_3, s2_4, s2_5, s2_6, s2_7, s2_8, s2_9, s2_10, s2_11, s2_12, s2_13, s2_14, List.map_nil, List.map_cons, List.sum_nil, List.sum_cons, ct_i_, ct_r_, ct_l_, t_si_, t_sl_, t_sr_, n_si_, n_sl_, n_sr_, i_si_, i_sl_, i_sr_, l_si_, l_sl_, l_sr_, r_si_, r_sl_, r_sr_, vr_s_, vr_n_, nz_0_, nz_1_, bI_0, bI_n, bI_t, bI_f, q_X11_within, hC, hC.e, kf, c0, sum, c1', ck, hC1.e, ln, hC2.e, p1]
      · have z1' := z1 Q
        unfold Cal
        rw [l_X12_go]
        simp only [am_en, am_ag, ct_i, ct_r, ct_l, List.length_cons, List.length_nil, List.replicate]
        have c91 : a_i h3 127 91 = nI T := by rw [h3127, hg]; exact T1
        have e0 : (0 : Int32) = nI 0 := rfl
        have y1' := y1
        rw [show nI 0 = 0 from rfl] at y1'
        simp [w_iload_n1 (M := mX12_go) dX12_go_0, w_iconst (M := mX12_go) (v := 1) dX12_go_1 rfl, w_sipush (M := mX12_go) (v := 300) dX12_go_2 rfl, c_12_173 (M := mX12_go) dX12_go_5 rfl, w_if_ne (M := mX12_go) (tgt := 18) dX12_go_8 (by decide), w_aload_n0 (M := mX12_go) dX12_go_11, w_iconst (M := mX12_go) (v := 0) dX12_go_12 rfl, w_iconst (M := mX12_go) (v := (-1)) dX12_go_13 rfl, c_12_177 (M := mX12_go) dX12_go_14 rfl, w_iret (M := mX12_go) dX12_go_17 rfl, w_aload_n0 (M := mX12_go) dX12_go_18, w_getA (M := mX12_go) dX12_go_19 f_12_7 rfl (by decide) (by decide), w_bipush (M := mX12_go) (v := 91) dX12_go_22 rfl, w_iaload (M := mX12_go) dX12_go_24, w_iload_n1 (M := mX12_go) dX12_go_25, w_iadd (M := mX12_go) dX12_go_26, w_sipush (M := mX12_go) (v := 9000) dX12_go_27 rfl, w_ic_le (M := mX12_go) (tgt := 40) dX12_go_30 (by decide), w_aload_n0 (M := mX12_go) dX12_go_33, w_iconst (M := mX12_go) (v := 1) dX12_go_34 rfl, w_iconst (M := mX12_go) (v := (-1)) dX12_go_35 rfl, c_12_177 (M := mX12_go) dX12_go_36 rfl, w_iret (M := mX12_go) dX12_go_39 rfl, w_aload_n0 (M := mX12_go) dX12_go_40, c_12_191 (M := mX12_go) dX12_go_41 rfl, w_aload_n0 (M := mX12_go) dX12_go_44, w_iconst (M := mX12_go) (v := 0) dX12_go_45 rfl, c_12_514 (M := mX12_go) dX12_go_46 rfl, w_iconst (M := mX12_go) (v := 0) dX12_go_49 rfl, w_istore_n (M := mX12_go) (i := 2) dX12_go_50 rfl (by decide), Kn_v_, Kn_n_, kl_i_, kl_a_, kl_l_, kl_n_, s1_0_, s2_0_, s1_1, s1_2, s1_3, s1_4, s1_5, s1_6, s1_7, s1_8, s1_9, s1_10, s1_11, s1_12, s1_13, s1_14, s2_1, s2_2, s2_3, s2_4, s2_5, s2_6, s2_7, s2_8, s2_9, s2_10, s2_11, s2_12, s2_13, s2_14, List.map_nil, List.map_cons, List.sum_nil, List.sum_cons, ct_i_, ct_r_, ct_l_, t_si_, t_sl_, t_sr_, n_si_, n_sl_, n_sr_, i_si_, i_sl_, i_sr_, l_si_, l_sl_, l_sr_, r_si_, r_sl_, r_sr_, vr_s_, vr_n_, nz_0_, nz_1_, bI_0, bI_n, bI_t, bI_f, q_X12_in, hR3.e, am_in1, c0, c91, nI_a, c1', ks, hR4.e, y1', hR5.e]
        rw [e0]
        refine Eq.to_iff (Eq.trans z1' ?_)
        show WP (d + 8) mX12_go 51 _ _ _ _ = _
        rw [w_iload_n2 (M := mX12_go) dX12_go_51]
        simp [w_iload_n1 (M := mX12_go) dX12_go_52, w_ic_ge (M := mX12_go) (tgt := 66) dX12_go_53 (by decide), w_aload_n0 (M := mX12_go) dX12_go_66, c_12_520 (M := mX12_go) dX12_go_67 rfl, w_aload_n0 (M := mX12_go) dX12_go_70, w_getI (M := mX12_go) dX12_go_71 f_12_433 rfl (by decide) (by decide), w_iret (M := mX12_go) dX12_go_74 rfl, Kn_v_, Kn_n_, kl_i_, kl_a_, kl_l_, kl_n_, s1_0_, s2_0_, s1_1, s1_2, s1_3, s1_4, s1_5, s1_6, s1_7, s1_8, s1_9, s1_10, s1_11, s1_12, s1_13, s1_14, s2_1, s2_2, s2_3, s2_4, s2_5, s2_6, s2_7, s2_8, s2_9, s2_10, s2_11, s2_12, s2_13, s2_14, List.map_nil, List.map_cons, List.sum_nil, List.sum_cons, ct_i_, ct_r_, ct_l_, t_si_, t_sl_, t_sr_, n_si_, n_sl_, n_sr_, i_si_, i_sl_, i_sr_, l_si_, l_sl_, l_sr_, r_si_, r_sl_, r_sr_, vr_s_, vr_n_, nz_0_, nz_1_, show (nI t < nI t) = False from nI_ltF (Nat.le_refl _) (by omega), hR6.e, v1, hR7.e, b47]
      · refine Inv_row kv2 ?_ ?_ (fun q j hq => ?_) (fun q j a1 a2 a3 => ?_) (fun q hq => ?_) ?_ ?_ ?_ ?_
        · rw [v2.1, z2.1.1, t4, H2t]
        · rw [v2.2.2, z2.1.2.2, f4, H21]
        · rw [v2.2.1, z2.1.2.1, r4, H2rr]
        · by_cases q7 : q = 127
          · subst q7
            rw [v5 j (by omega), h64 _ _ (by unfold jch; omega), h4r, H2r]
          · have b1 : ¬ (91 ≤ q ∧ q ≤ 93) := fun z => a2 (by unfold scr; omega)
            have b2 : ¬ (150 ≤ q ∧ q ≤ 166) := fun z => a2 (by unfold scr; omega)
            have b3 : ¬ (q = 126 ∧ 42 ≤ j ∧ j ≤ 49) := fun z => a2 (by unfold scr; omega)
            rw [near q j q7 b3 b2, nt q (by omega) b1 (by omega) j, H2i q q7]
        · rw [v3, z2.2.2.2.2.2.2.2 q 13 (by omega), l4, q5 q 13 (by omega), H2l]
        · refine rM_Ln (x := S) dS ?_ pd.2.1 pd.2.2.1
          refine rM_fr (fun r j z1 z2 z3 => near r j (by omega) (by omega) (by omega)) (fun e he => ?_) q2
          rw [v3, z2.2.2.2.2.2.2.2 _ 13 (by omega), l4]
        · refine rBk_s (s := S) (fun c i hc => (dS c i (by omega)).symm) ?_
          exact rBk_fr (fun k j hk => near _ j (by omega) (by omega) (by omega)) (q3 rfl)
        · rw [H2r, lo 0 (by omega) (by omega), gn, Nn_n (by omega)]
          exact wS_c (fun c i hc => (dS c i hc).symm) pd.1
        · rw [H2r, dk]
          exact wOld_tr (wOld_s (fun c i hc => xs c i (by omega))) (wOld_tr pd.2.2.2 (wOld_s (fun c i hc => (dS c i (by omega)).symm)))
      · refine ⟨congrArg Prod.fst (v2.2.2.trans (z2.1.2.2.trans (f4.trans q1.2.2.symm))), ?_⟩
        rw [v5 1 (by omega), h64 127 1 (by unfold jch; omega), h4r, lo 1 (by omega) (by omega), ← hg]
  · refine opT_ref (r := 0) k (by omega) (ans := -1) (fun Q => ?_) (fun Q => ?_)
    · unfold Cal
      rw [l_X11_go]
      simp only [am_en, am_ag, ct_i, ct_r, ct_l, List.length_cons, List.length_nil, List.replicate]
      simp [w_iload_n1 (M := mX11_go) dX11_go_0, w_iconst (M := mX11_go) (v := 1) dX11_go_1 rfl, w_sipush (M := mX11_go) (v := 300) dX11_go_2 rfl, c_11_56 (M := mX11_go) dX11_go_5 rfl, w_if_ne (M := mX11_go) (tgt := 18) dX11_go_8 (by decide), w_aload_n0 (M := mX11_go) dX11_go_11, w_iconst (M := mX11_go) (v := 0) dX11_go_12 rfl, w_iconst (M := mX11_go) (v := (-1)) dX11_go_13 rfl, c_11_60 (M := mX11_go) dX11_go_14 rfl, w_iret (M := mX11_go) dX11_go_17 rfl, w_aload_n0 (M := mX11_go) dX11_go_18, w_getO (M := mX11_go) dX11_go_19 f_11_10 rfl (by decide) (by decide), w_getO (M := mX11_go) dX11_go_22 f_11_82 rfl (by decide) (by decide), w_getI (M := mX11_go) dX11_go_25 f_11_127 rfl (by decide) (by decide), w_iload_n1 (M := mX11_go) dX11_go_28, w_iadd (M := mX11_go) dX11_go_29, w_sipush (M := mX11_go) (v := 9000) dX11_go_30 rfl, w_ic_le (M := mX11_go) (tgt := 43) dX11_go_33 (by decide), w_aload_n0 (M := mX11_go) dX11_go_36, w_iconst (M := mX11_go) (v := 1) dX11_go_37 rfl, w_iconst (M := mX11_go) (v := (-1)) dX11_go_38 rfl, c_11_60 (M := mX11_go) dX11_go_39 rfl, w_iret (M := mX11_go) dX11_go_42 rfl, w_aload_n0 (M := mX11_go) dX11_go_43, w_getO (M := mX11_go) dX11_go_44 f_11_10 rfl (by decide) (by decide), c_11_95 (M := mX11_go) dX11_go_47 rfl, w_aload_n0 (M := mX11_go) dX11_go_50, w_getO (M := mX11_go) dX11_go_51 f_11_10 rfl (by decide) (by decide), w_getO (M := mX11_go) dX11_go_54 f_11_82 rfl (by decide) (by decide), w_iload_n1 (M := mX11_go) dX11_go_57, w_aload_n0 (M := mX11_go) dX11_go_58, w_getO (M := mX11_go) dX11_go_59 f_11_10 rfl (by decide) (by decide), w_getO (M := mX11_go) dX11_go_62 f_11_64 rfl (by decide) (by decide), w_aload_n0 (M := mX11_go) dX11_go_65, c_11_147 (M := mX11_go) dX11_go_66 rfl, w_aload_n0 (M := mX11_go) dX11_go_69, w_getO (M := mX11_go) dX11_go_70 f_11_10 rfl (by decide) (by decide), w_getO (M := mX11_go) dX11_go_73 f_11_108 rfl (by decide) (by decide), c_11_151 (M := mX11_go) dX11_go_76 rfl, w_iret (M := mX11_go) dX11_go_79 rfl, Kn_v_, Kn_n_, kl_i_, kl_a_, kl_l_, kl_n_, s1_0_, s2_0_, s1_1, s1_2, s1_3, s1_4, s1_5, s1_6, s1_7, s1_8, s1_9, s1_10, s1_11, s1_12, s1_13, s1_14, s2_1, s2_2, s2_3, s2_4, s2_5, s2_6, s2_7, s2_8, s2_9, s2_10, s2_11, s2_12, s2_13, s2_14, List.map_nil, List.map_cons, List.sum_nil, List.sum_cons, ct_i_, ct_r_, ct_l_, t_si_, t_sl_, t_sr_, n_si_, n_sl_, n_sr_, i_si_, i_sl_, i_sr_, l_si_, l_sl_, l_sr_, r_si_, r_sl_, r_sr_, vr_s_, vr_n_, nz_0_, nz_1_, bI_0, bI_n, bI_t, bI_f, q_X11_within, q_X11_refuse, hC, hC.e, kf, c0]
    · unfold Cal
      rw [l_X12_go]
      simp only [am_en, am_ag, ct_i, ct_r, ct_l, List.length_cons, List.length_nil, List.replicate]
      simp [w_iload_n1 (M := mX12_go) dX12_go_0, w_iconst (M := mX12_go) (v := 1) dX12_go_1 rfl, w_sipush (M := mX12_go) (v := 300) dX12_go_2 rfl, c_12_173 (M := mX12_go) dX12_go_5 rfl, w_if_ne (M := mX12_go) (tgt := 18) dX12_go_8 (by decide), w_aload_n0 (M := mX12_go) dX12_go_11, w_iconst (M := mX12_go) (v := 0) dX12_go_12 rfl, w_iconst (M := mX12_go) (v := (-1)) dX12_go_13 rfl, c_12_177 (M := mX12_go) dX12_go_14 rfl, w_iret (M := mX12_go) dX12_go_17 rfl, w_aload_n0 (M := mX12_go) dX12_go_18, w_getA (M := mX12_go) dX12_go_19 f_12_7 rfl (by decide) (by decide), w_bipush (M := mX12_go) (v := 91) dX12_go_22 rfl, w_iaload (M := mX12_go) dX12_go_24, w_iload_n1 (M := mX12_go) dX12_go_25, w_iadd (M := mX12_go) dX12_go_26, w_sipush (M := mX12_go) (v := 9000) dX12_go_27 rfl, w_ic_le (M := mX12_go) (tgt := 40) dX12_go_30 (by decide), w_aload_n0 (M := mX12_go) dX12_go_33, w_iconst (M := mX12_go) (v := 1) dX12_go_34 rfl, w_iconst (M := mX12_go) (v := (-1)) dX12_go_35 rfl, c_12_177 (M := mX12_go) dX12_go_36 rfl, w_iret (M := mX12_go) dX12_go_39 rfl, w_aload_n0 (M := mX12_go) dX12_go_40, c_12_191 (M := mX12_go) dX12_go_41 rfl, w_aload_n0 (M := mX12_go) dX12_go_44, w_iconst (M := mX12_go) (v := 0) dX12_go_45 rfl, c_12_514 (M := mX12_go) dX12_go_46 rfl, w_iconst (M := mX12_go) (v := 0) dX12_go_49 rfl, w_istore_n (M := mX12_go) (i := 2) dX12_go_50 rfl (by decide), w_iload_n2 (M := mX12_go) dX12_go_51, w_iload_n1 (M := mX12_go) dX12_go_52, w_ic_ge (M := mX12_go) (tgt := 66) dX12_go_53 (by decide), w_aload_n0 (M := mX12_go) dX12_go_56, c_12_517 (M := mX12_go) dX12_go_57 rfl, w_iinc2 (M := mX12_go) (v := 1) dX12_go_60 rfl (by decide), w_goto (M := mX12_go) (tgt := 51) dX12_go_63 (by decide), w_aload_n0 (M := mX12_go) dX12_go_66, c_12_520 (M := mX12_go) dX12_go_67 rfl, w_aload_n0 (M := mX12_go) dX12_go_70, w_getI (M := mX12_go) dX12_go_71 f_12_433 rfl (by decide) (by decide), w_iret (M := mX12_go) dX12_go_74 rfl, Kn_v_, Kn_n_, kl_i_, kl_a_, kl_l_, kl_n_, s1_0_, s2_0_, s1_1, s1_2, s1_3, s1_4, s1_5, s1_6, s1_7, s1_8, s1_9, s1_10, s1_11, s1_12, s1_13, s1_14, s2_1, s2_2, s2_3, s2_4, s2_5, s2_6, s2_7, s2_8, s2_9, s2_10, s2_11, s2_12, s2_13, s2_14, List.map_nil, List.map_cons, List.sum_nil, List.sum_cons, ct_i_, ct_r_, ct_l_, t_si_, t_sl_, t_sr_, n_si_, n_sl_, n_sr_, i_si_, i_sl_, i_sr_, l_si_, l_sl_, l_sr_, r_si_, r_sl_, r_sr_, vr_s_, vr_n_, nz_0_, nz_1_, bI_0, bI_n, bI_t, bI_f, q_X12_in, q_X12_refuses, hR, hR.e, am_in1, c0, i_si_, i_sl_, i_sr_, t_si_, t_sl_, t_sr_, r_si_, r_sl_, l_si_, n_si_, n_sl_]
theorem op_go (k : Inv X h) (ol : rOl h) {v0 : Int32} : opS X (d + 8) mX11_go mX12_go [.ref 0, .int v0] [.ref 126, .int v0] h := (ot_go k ol).S
end GO3
