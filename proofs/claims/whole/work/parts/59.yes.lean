/-! acts: yes -/
section YES
variable {X : PX} {d : Nat} {h : am_h} {e Y T : Nat}
theorem FH_b {g : Nat → Int32} : ∀ n, (itr (FH g e) 0 n (-1, -1)).1 = -1 ∨ ∃ i, i < n ∧ (itr (FH g e) 0 n (-1, -1)).1 = nI i ∧ ¬ g (166 + 5 * i) = nI e := by
  intro n
  induction n with
  | zero => exact Or.inl rfl
  | succ n ih =>
    rw [itr_snoc, Nat.zero_add]
    generalize itr (FH g e) 0 n (-1, -1) = s at ih
    unfold FH
    split
    · rename_i q
      exact Or.inr ⟨n, by omega, rfl, q.1.1⟩
    · rcases ih with q | ⟨i, q1, q2⟩
      · exact Or.inl q
      · exact Or.inr ⟨i, by omega, q2⟩
/-- a yes on both sides -/
theorem Inv_yes (k : Inv X h) {hc : am_h} {m : Int32} {n : Nat} (hN : Nn (a_i h 127 0) = n) (he : e < n) (hT : a_i h 127 165 = nI T) (hT2 : T ≤ 90) (hY : a_i h 127 616 = nI Y) (hY2 : Y < 40) (hm : m = -1 ∨ ∃ i, i < T ∧ m = nI i ∧ ¬ a_i h 127 (166 + 5 * i) = nI e)
    (ct : sm h hc) (cl : a_l hc = a_l h) (cb : a_i hc 22 Y = nI e ∧ a_i hc 23 Y = a_i h 127 91 ∧ a_i hc 24 Y = m) (c4 : a_i hc 7 4 = nI (Y + 1))
    (co : ∀ q j, ¬ (22 ≤ q ∧ q ≤ 24 ∧ j = Y) → ¬ (q = 7 ∧ j = 4) → a_i hc q j = a_i h q j) :
    Inv X (s_w hc 127 (ud (ud (ud (ud (a_i h 127) (617 + 3 * Y) (nI e)) (617 + 3 * Y + 1) (a_i h 127 91)) (617 + 3 * Y + 2) m) 616 (nI (Y + 1)))) := by
  obtain ⟨G, eG⟩ : ∃ G, G = ud (ud (ud (ud (a_i h 127) (617 + 3 * Y) (nI e)) (617 + 3 * Y + 1) (a_i h 127 91)) (617 + 3 * Y + 2) m) 616 (nI (Y + 1)) := ⟨_, rfl⟩
  rw [← eG]
  have bn := bt_n (m := 4) k.2.1.1.2.2.2.2.1 (by omega) (by omega)
  have dG : dec G 90 = up (up (up (up (dec (a_i h 127) 90) 15 Y (nI e)) 16 Y (a_i h 127 91)) 17 Y m) 0 4 (nI (Y + 1)) := by
    rw [eG]
    refine du_d4.trans (congrArg (fun s => up s 0 4 _) ?_)
    refine (du_c17 hY2).trans (congrArg (fun s => up s 17 Y _) ?_)
    refine (du_c16 hY2).trans (congrArg (fun s => up s 16 Y _) ?_)
    exact du_c15 hY2
  have r6 := k.2.1.2.1
  have r7 := k.2.1.2.2.1
  have w := k.2.1.2.2.2.2.1
  have iG : ∀ j, j < 90 ∨ 737 ≤ j → G j = a_i h 127 j := by
    intro j hj
    rw [eG]
    simp (disch := omega) only [udn]
  have hs : ∀ c i, ¬ (c = 0 ∧ i = 4) → ¬ (15 ≤ c ∧ c ≤ 17 ∧ i = Y) → dec G 90 c i = dec (a_i h 127) 90 c i := by
    intro c i h1 h2
    rw [dG]
    simp (disch := omega) only [upn]
  have s04 : dec G 90 0 4 = nI (Y + 1) := by rw [dG]; exact upe
  have o04 : Nn (dec (a_i h 127) 90 0 4) = Y := by
    rw [dec_4]
    show Nn (a_i h 127 616) = Y
    rw [hY]; exact Nn_n (by omega)
  refine Inv_row k ct.1 ct.2.2 (fun q j _ => by rw [r_sw_, ct.2.1]) (fun q j d1 d2 d3 => ?_) (fun q d => by rw [l_sw_, cl]) ?_ ?_ ?_ ?_
  · by_cases c : q = 127
    · subst c
      rw [iwe rfl]
      exact iG j (by omega)
    · rw [iwn c]
      exact co q j (by omega) (by omega)
  · rw [iwe rfl, l_sw_, cl]
    unfold rLn at r6 ⊢
    obtain ⟨z0, z1, z2, z3, z4, z5, z6⟩ := r6
    rw [iwn (by omega), iwn (by omega), iwn (by omega), iwn (by omega), co 7 0 (by omega) (by omega), co 7 1 (by omega) (by omega), co 7 2 (by omega) (by omega), co 7 3 (by omega) (by omega), c4, hs 0 1 (by omega) (by omega), hs 0 0 (by omega) (by omega), hs 0 2 (by omega) (by omega), hs 0 3 (by omega) (by omega), s04]
    refine ⟨z0, z1, z2, z3, rfl, fun i hi => ?_, fun e he => ?_⟩
    · rw [co _ _ (by omega) (by omega), co _ _ (by omega) (by omega), co _ _ (by omega) (by omega), hs _ _ (by omega) (by omega), hs _ _ (by omega) (by omega), hs _ _ (by omega) (by omega)]
      exact z5 i hi
    · refine rEn_s (fun c i _ => hs c i (by omega) (by omega)) (rEn_fr (fun j => ?_) rfl (z6 e he))
      rw [iwn (by omega)]
      exact co _ _ (by omega) (by omega)
  · rw [iwe rfl]
    refine ⟨fun i hi => ?_, fun i hi => ?_⟩
    · rw [hs 0 3 (by omega) (by omega)] at hi
      rw [iwn (by omega), iwn (by omega), iwn (by omega), iwn (by omega), iwn (by omega), co _ _ (by omega) (by omega), co _ _ (by omega) (by omega), co _ _ (by omega) (by omega), co _ _ (by omega) (by omega), co _ _ (by omega) (by omega), hs 10 i (by omega) (by omega), hs 11 i (by omega) (by omega), hs 12 i (by omega) (by omega), hs 13 i (by omega) (by omega), hs 14 i (by omega) (by omega)]
      exact r7.1 i hi
    · rw [s04, Nn_n (by omega)] at hi
      rw [iwn (by omega), iwn (by omega), iwn (by omega)]
      by_cases c : i = Y
      · subst c
        rw [dG]
        simp (disch := omega) only [upn, upe']
        exact cb
      · rw [co _ _ (by omega) (by omega), co _ _ (by omega) (by omega), co _ _ (by omega) (by omega), hs 15 i (by omega) (by omega), hs 16 i (by omega) (by omega), hs 17 i (by omega) (by omega)]
        exact r7.2 i (by omega)
  · rw [iwe rfl, hN]
    rw [hN] at w
    have wz := wS_Z w rfl
    obtain ⟨k1, k2, k3, k4, k5, k6, k7, k8, k9, k10⟩ := w
    refine wS_of ?_ ?_ ?_ ?_ (fun e' he' => ?_) (fun j hj => ?_) ?_ (fun j hj => ?_)
    · rw [hs _ _ (by omega) (by omega)]; exact k1
    · rw [hs _ _ (by omega) (by omega)]; exact k2
    · rw [hs _ _ (by omega) (by omega)]; exact k3
    · rw [s04]
      unfold bt
      rw [nI_i (by omega)]
      omega
    · rw [hs _ _ (by omega) (by omega), hs _ _ (by omega) (by omega), hs _ _ (by omega) (by omega), hs _ _ (by omega) (by omega)]; exact k5 e' he'
    · rw [hs _ _ (by omega) (by omega)]; exact k6 j hj
    · unfold wZ at wz ⊢
      simp (disch := omega) only [hs]
      exact wz
    · rw [s04, Nn_n (by omega)] at hj
      rw [hs 0 1 (by omega) (by omega), hs 0 3 (by omega) (by omega)]
      have t3 : (dec (a_i h 127) 90 0 3).toInt = (T : Int) := by
        rw [dec_3]
        show (a_i h 127 165).toInt = _
        rw [hT, nI_i (by omega)]
      by_cases c : j = Y
      · subst c
        rw [dG]
        simp (disch := omega) only [upn, upe']
        refine ⟨?_, ?_, ?_, ?_⟩
        · unfold bt; rw [nI_i (by omega)]; omega
        · exact ⟨k2.1, Int.le_refl _⟩
        · rw [t3]
          unfold bt
          rcases hm with rfl | ⟨i, i1, rfl, _⟩
          · have : (-1 : Int32).toInt = -1 := rfl
            omega
          · rw [nI_i (by omega)]; omega
        · rcases hm with rfl | ⟨i, i1, rfl, i3⟩
          · exact Or.inl rfl
          · refine Or.inr ?_
            rw [Nn_n (by omega), dec_c10 (by omega)]
            exact i3
      · rw [hs 10 (Nn (dec G 90 17 j)) (by omega) (by omega), hs 15 j (by omega) (by omega), hs 16 j (by omega) (by omega), hs 17 j (by omega) (by omega)]
        exact k10 j (by omega)
  · rw [iwe rfl]
    refine ⟨by rw [hs 0 3 (by omega) (by omega)]; exact Nat.le_refl _, by rw [s04, o04, Nn_n (by omega)]; omega, fun i hi => ?_, fun i hi => ?_⟩
    · rw [hs 10 i (by omega) (by omega), hs 11 i (by omega) (by omega), hs 12 i (by omega) (by omega), hs 13 i (by omega) (by omega), hs 14 i (by omega) (by omega)]
      exact ⟨rfl, rfl, rfl, Or.inr ⟨rfl, rfl⟩⟩
    · rw [o04] at hi
      rw [hs 15 i (by omega) (by omega), hs 16 i (by omega) (by omega), hs 17 i (by omega) (by omega)]
      exact ⟨rfl, rfl, rfl⟩
set_option maxRecDepth 20000 in
set_option maxHeartbeats 1000000 in
theorem ot_yes (k : Inv X h) {v0 : Int32} : opT X (d + 4) mX11_yes mX12_yes [.ref 0, .int v0] [.ref 126, .int v0] h := by
  have hC := k.1.1
  have hR := k.1.2.1
  have kf := k.e
  obtain ⟨N, e1, e2, e3⟩ := k.N
  obtain ⟨T, t1, t2, t3⟩ := k.T
  obtain ⟨Y, y1, y2, y3⟩ := k.Y
  by_cases c0 : inn v0 0 (a_i h 127 0 - 1) = true
  · obtain ⟨e, a1, rfl⟩ := inn_ix (n := N) (by omega) (by rw [e1] at c0; exact c0)
    by_cases c2 : Y = 40
    · have f1 : (nI Y < 40) = False := nI_ltF (b := 40) (by omega) (by omega)
      have f2 : nI Y = 40 := by rw [c2]; rfl
      refine opT_ref (r := 1) k (by omega) (ans := -2) (fun Q => ?_) (fun Q => ?_)
      · unfold Cal
        rw [l_X11_yes]
        simp only [am_en, am_ag, ct_i, ct_r, ct_l, List.length_cons, List.length_nil, List.replicate]
        simp [w_aload_n0 (M := mX11_yes) dX11_yes_0, w_iload_n1 (M := mX11_yes) dX11_yes_1, c_11_105 (M := mX11_yes) dX11_yes_2 rfl, w_if_ne (M := mX11_yes) (tgt := 16) dX11_yes_5 (by decide), w_aload_n0 (M := mX11_yes) dX11_yes_8, w_iconst (M := mX11_yes) (v := 0) dX11_yes_9 rfl, w_bipush (M := mX11_yes) (v := (-2)) dX11_yes_10 rfl, c_11_60 (M := mX11_yes) dX11_yes_12 rfl, w_iret (M := mX11_yes) dX11_yes_15 rfl, w_aload_n0 (M := mX11_yes) dX11_yes_16, w_getO (M := mX11_yes) dX11_yes_17 f_11_10 rfl (by decide) (by decide), w_getO (M := mX11_yes) dX11_yes_20 f_11_82 rfl (by decide) (by decide), w_getI (M := mX11_yes) dX11_yes_23 f_11_140 rfl (by decide) (by decide), w_bipush (M := mX11_yes) (v := 40) dX11_yes_26 rfl, w_ic_lt (M := mX11_yes) (tgt := 39) dX11_yes_28 (by decide), w_aload_n0 (M := mX11_yes) dX11_yes_31, w_iconst (M := mX11_yes) (v := 1) dX11_yes_32 rfl, w_bipush (M := mX11_yes) (v := (-2)) dX11_yes_33 rfl, c_11_60 (M := mX11_yes) dX11_yes_35 rfl, w_iret (M := mX11_yes) dX11_yes_38 rfl, w_aload_n0 (M := mX11_yes) dX11_yes_39, w_getO (M := mX11_yes) dX11_yes_40 f_11_10 rfl (by decide) (by decide), c_11_95 (M := mX11_yes) dX11_yes_43 rfl, w_aload_n0 (M := mX11_yes) dX11_yes_46, w_getO (M := mX11_yes) dX11_yes_47 f_11_10 rfl (by decide) (by decide), w_getO (M := mX11_yes) dX11_yes_50 f_11_108 rfl (by decide) (by decide), w_iload_n1 (M := mX11_yes) dX11_yes_53, w_aload_n0 (M := mX11_yes) dX11_yes_54, w_getO (M := mX11_yes) dX11_yes_55 f_11_10 rfl (by decide) (by decide), w_getO (M := mX11_yes) dX11_yes_58 f_11_82 rfl (by decide) (by decide), c_11_143 (M := mX11_yes) dX11_yes_61 rfl, w_iret (M := mX11_yes) dX11_yes_64 rfl, Kn_v_, Kn_n_, kl_i_, kl_a_, kl_l_, kl_n_, s1_0_, s2_0_, s1_1, s1_2, s1_3, s1_4, s1_5, s1_6, s1_7, s1_8, s1_9, s1_10, s1_11, s1_12, s1_13, s1_14, s2_1, s2_2, s2_3, s2_4, s2_5, s2_6, s2_7, s2_8, s2_9, s2_10, s2_11, s2_12, s2_13, s2_14, List.map_nil, List.map_cons, List.sum_nil, List.sum_cons, ct_i_, ct_r_, ct_l_, t_si_, t_sl_, t_sr_, n_si_, n_sl_, n_sr_, i_si_, i_sl_, i_sr_, l_si_, l_sl_, l_sr_, r_si_, r_sl_, r_sr_, vr_s_, vr_n_, nz_0_, nz_1_, bI_0, bI_n, bI_t, bI_f, q_X11_isEnd, q_X11_refuse, hC, hC.e, kf, c0, y1, f1]
      · unfold Cal
        rw [l_X12_yes]
        simp only [am_en, am_ag, ct_i, ct_r, ct_l, List.length_cons, List.length_nil, List.replicate]
        simp [w_aload_n0 (M := mX12_yes) dX12_yes_0, w_iload_n1 (M := mX12_yes) dX12_yes_1, c_12_185 (M := mX12_yes) dX12_yes_2 rfl, w_if_ne (M := mX12_yes) (tgt := 16) dX12_yes_5 (by decide), w_aload_n0 (M := mX12_yes) dX12_yes_8, w_iconst (M := mX12_yes) (v := 0) dX12_yes_9 rfl, w_bipush (M := mX12_yes) (v := (-2)) dX12_yes_10 rfl, c_12_177 (M := mX12_yes) dX12_yes_12 rfl, w_iret (M := mX12_yes) dX12_yes_15 rfl, w_aload_n0 (M := mX12_yes) dX12_yes_16, w_getA (M := mX12_yes) dX12_yes_17 f_12_7 rfl (by decide) (by decide), w_sipush (M := mX12_yes) (v := 616) dX12_yes_20 rfl, w_iaload (M := mX12_yes) dX12_yes_23, w_bipush (M := mX12_yes) (v := 40) dX12_yes_24 rfl, w_ic_ne (M := mX12_yes) (tgt := 37) dX12_yes_26 (by decide), w_aload_n0 (M := mX12_yes) dX12_yes_29, w_iconst (M := mX12_yes) (v := 1) dX12_yes_30 rfl, w_bipush (M := mX12_yes) (v := (-2)) dX12_yes_31 rfl, c_12_177 (M := mX12_yes) dX12_yes_33 rfl, w_iret (M := mX12_yes) dX12_yes_36 rfl, w_aload_n0 (M := mX12_yes) dX12_yes_37, c_12_191 (M := mX12_yes) dX12_yes_38 rfl, w_sipush (M := mX12_yes) (v := 617) dX12_yes_41 rfl, w_iconst (M := mX12_yes) (v := 3) dX12_yes_44 rfl, w_aload_n0 (M := mX12_yes) dX12_yes_45, w_getA (M := mX12_yes) dX12_yes_46 f_12_7 rfl (by decide) (by decide), w_sipush (M := mX12_yes) (v := 616) dX12_yes_49 rfl, w_iaload (M := mX12_yes) dX12_yes_52, w_imul (M := mX12_yes) dX12_yes_53, w_iadd (M := mX12_yes) dX12_yes_54, w_istore_n (M := mX12_yes) (i := 2) dX12_yes_55 rfl (by decide), w_aload_n0 (M := mX12_yes) dX12_yes_56, w_getA (M := mX12_yes) dX12_yes_57 f_12_7 rfl (by decide) (by decide), w_iload_n2 (M := mX12_yes) dX12_yes_60, w_iload_n1 (M := mX12_yes) dX12_yes_61, w_iastore (M := mX12_yes) dX12_yes_62, w_aload_n0 (M := mX12_yes) dX12_yes_63, w_getA (M := mX12_yes) dX12_yes_64 f_12_7 rfl (by decide) (by decide), w_iload_n2 (M := mX12_yes) dX12_yes_67, w_iconst (M := mX12_yes) (v := 1) dX12_yes_68 rfl, w_iadd (M := mX12_yes) dX12_yes_69, w_aload_n0 (M := mX12_yes) dX12_yes_70, w_getA (M := mX12_yes) dX12_yes_71 f_12_7 rfl (by decide) (by decide), w_bipush (M := mX12_yes) (v := 91) dX12_yes_74 rfl, w_iaload (M := mX12_yes) dX12_yes_76, w_iastore (M := mX12_yes) dX12_yes_77, w_aload_n0 (M := mX12_yes) dX12_yes_78, w_getA (M := mX12_yes) dX12_yes_79 f_12_7 rfl (by decide) (by decide), w_iload_n2 (M := mX12_yes) dX12_yes_82, w_iconst (M := mX12_yes) (v := 2) dX12_yes_83 rfl, w_iadd (M := mX12_yes) dX12_yes_84, w_aload_n0 (M := mX12_yes) dX12_yes_85, w_iload_n1 (M := mX12_yes) dX12_yes_86, c_12_526 (M := mX12_yes) dX12_yes_87 rfl, w_iastore (M := mX12_yes) dX12_yes_90, w_aload_n0 (M := mX12_yes) dX12_yes_91, w_getA (M := mX12_yes) dX12_yes_92 f_12_7 rfl (by decide) (by decide), w_sipush (M := mX12_yes) (v := 616) dX12_yes_95 rfl, w_dup2 (M := mX12_yes) dX12_yes_98, w_iaload (M := mX12_yes) dX12_yes_99, w_iconst (M := mX12_yes) (v := 1) dX12_yes_100 rfl, w_iadd (M := mX12_yes) dX12_yes_101, w_iastore (M := mX12_yes) dX12_yes_102, w_aload_n0 (M := mX12_yes) dX12_yes_103, w_getA (M := mX12_yes) dX12_yes_104 f_12_7 rfl (by decide) (by decide), w_iload_n2 (M := mX12_yes) dX12_yes_107, w_iconst (M := mX12_yes) (v := 2) dX12_yes_108 rfl, w_iadd (M := mX12_yes) dX12_yes_109, w_iaload (M := mX12_yes) dX12_yes_110, w_iret (M := mX12_yes) dX12_yes_111 rfl, Kn_v_, Kn_n_, kl_i_, kl_a_, kl_l_, kl_n_, s1_0_, s2_0_, s1_1, s1_2, s1_3, s1_4, s1_5, s1_6, s1_7, s1_8, s1_9, s1_10, s1_11, s1_12, s1_13, s1_14, s2_1, s2_2, s2_3, s2_4, s2_5, s2_6, s2_7, s2_8, s2_9, s2_10, s2_11, s2_12, s2_13, s2_14, List.map_nil, List.map_cons, List.sum_nil, List.sum_cons, ct_i_, ct_r_, ct_l_, t_si_, t_sl_, t_sr_, n_si_, n_sl_, n_sr_, i_si_, i_sl_, i_sr_, l_si_, l_sl_, l_sr_, r_si_, r_sl_, r_sr_, vr_s_, vr_n_, nz_0_, nz_1_, bI_0, bI_n, bI_t, bI_f, q_X12_isEnd, q_X12_refuses, hR, hR.e, am_in1, c0, y1, f2, i_si_, i_sl_, i_sr_, t_si_, t_sl_, t_sr_, r_si_, r_sl_, l_si_, n_si_, n_sl_]
    · have hY2 : Y < 40 := by omega
      have f1 : (nI Y < 40) = True := nI_ltT (b := 40) (by omega) (by omega)
      have f2 : ¬ nI Y = 40 := by rw [show (40 : Int32) = nI 40 from rfl, nI_inj (by omega) (by omega)]; exact c2
      have tg := k.tG (T := T) t3
      have bg := k.bG (T := T) t3
      obtain ⟨n, h1, n1, n2, ck, kv, g1, g2, g3⟩ := keepS (d := d) k
      have hC1 : sh_C (a_t h1) (a_r h1) := kv.1.1
      have hR1 : sh_R (a_t h1) (a_r h1) := kv.1.2.1
      have e127 : a_i h1 127 = a_i h 127 := funext fun j => g1 127 j (by omega) (by omega)
      have lo : ∀ i, i < 740 → ¬ i = 3 → KS n (a_i h 127) i = a_i h 127 i := fun i z1 z2 => ks_lo n2 z1 z2
      have h70 : a_i h1 7 0 = a_i h 127 91 := by rw [g1 _ _ (by omega) (by omega)]; simp [kf]
      have h74 : a_i h1 7 4 = nI Y := by rw [g1 _ _ (by omega) (by omega)]; simp [kf, y1]
      obtain ⟨m, em⟩ : ∃ m, m = (itr (FH (a_i h 127) e) 0 T (-1, -1)).1 := ⟨_, rfl⟩
      obtain ⟨h2, eh2⟩ : ∃ h2, h2 = s_i (s_i h1 22 Y (nI e)) 23 Y (a_i h 127 91) := ⟨_, rfl⟩
      have hC2' : sh_C (a_t h2) (a_r h2) := by rw [eh2]; exact hC1
      have B2 : bG h2 (a_i h 127) T := by
        refine ⟨hC2', ?_, ?_, fun i hi => ?_, fun i hi => ?_⟩
        · rw [eh2, ine (by omega), ine (by omega), g1 _ _ (by omega) (by omega)]; exact bg.2.1
        · rw [eh2, ine (by omega), ine (by omega)]; exact h70
        · rw [eh2, ine (by omega), ine (by omega), g1 _ _ (by omega) (by omega)]; exact bg.2.2.2.1 i hi
        · rw [eh2]
          simp (disch := omega) only [ine, g1]
          exact bg.2.2.2.2 i hi
      have ho : ∀ Q, Cal (d + 2) mX2_heardOutLast [.ref 16, .int (nI e), .ref 7] h2 Q = Q (some (.int m)) h2 := fun Q => by
        rw [em]; exact q_X2_heardOutLast B2 tg (by omega)
      obtain ⟨hc, ehc⟩ : ∃ hc, hc = s_i (s_i h2 24 Y m) 7 4 (nI (Y + 1)) := ⟨_, rfl⟩
      have co : ∀ q j, ¬ (22 ≤ q ∧ q ≤ 24 ∧ j = Y) → ¬ (q = 7 ∧ j = 4) → a_i hc q j = a_i h1 q j := by
        intro q j z1 z2
        rw [ehc, eh2]
        simp (disch := omega) only [ine]
      have smc : sm h1 hc := by rw [ehc, eh2]; exact ⟨rfl, rfl, rfl⟩
      have hC2 : sh_C (a_t hc) (a_r hc) := by rw [smc.1, smc.2.1]; exact hC1
      have hR2 : sh_R (a_t hc) (a_r hc) := by rw [smc.1, smc.2.1]; exact hR1
      have c127 : a_i hc 127 = a_i h 127 := by rw [← e127]; exact funext fun j => co 127 j (by omega) (by omega)
      have h2_74 : a_i h2 7 4 = nI Y := by rw [eh2, ine (by omega), ine (by omega)]; exact h74
      have hc_24 : a_i hc 24 Y = m := by rw [ehc, ine (by omega), ieq rfl rfl]
      have hc_22 : a_i hc 22 Y = nI e := by rw [ehc, ine (by omega), ine (by omega), eh2, ine (by omega), ieq rfl rfl]
      have hc_23 : a_i hc 23 Y = a_i h 127 91 := by rw [ehc, ine (by omega), ine (by omega), eh2, ieq rfl rfl]
      have ks : ∀ Q, Cal (d + 3) mX12_keepsStep [.ref 126] hc Q = Q none (s_w hc 127 (KS n (a_i h 127))) := by
        intro Q
        have := q_X12_keepsStep (d := d + 3) (Q := Q) (h := hc) (eq_true hR2) (n := n) (by rw [c127]; exact n1) n2
        rw [c127] at this
        exact this
      obtain ⟨G, eG⟩ : ∃ G, G = ud (ud (KS n (a_i h 127)) (617 + 3 * Y) (nI e)) (617 + 3 * Y + 1) (a_i h 127 91) := ⟨_, rfl⟩
      have loG : ∀ j, 4 ≤ j → j < 617 → G j = a_i h 127 j := by
        intro j z1 z2
        rw [eG, udn (by omega), udn (by omega)]
        exact lo j (by omega) (by omega)
      have tgG : tG G T := by
        refine ⟨tg.1, fun i hi => ?_⟩
        have := tg.2 i hi
        rw [loG _ (by omega) (by omega), loG _ (by omega) (by omega), loG _ (by omega) (by omega)]
        exact this
      have hr : ∀ Q, Cal (d + 3) mX12_heardOut [.ref 126, .int (nI e)] (s_w hc 127 G) Q = Q (some (.int m)) (s_w hc 127 G) := by
        intro Q
        have := q_X12_heardOut (d := d + 1) (Q := Q) (h := s_w hc 127 G) (T := T) (e := e) hR2 (by rw [iwe rfl, loG _ (by omega) (by omega)]; exact t1) (by rw [iwe rfl]; exact tgG) (by omega)
        rw [this, iwe rfl, FH_c tg (by omega) (fun j z1 z2 => loG j (by omega) (by omega)), em]
      have iv := Inv_yes (e := e) (Y := Y) (T := T) (m := m) (n := N) (hc := s_w hc 127 (KS n (a_i h 127))) kv (by rw [iwe rfl, lo 0 (by omega) (by omega)]; exact e3) a1 (by rw [iwe rfl, lo 165 (by omega) (by omega)]; exact t1) t2 (by rw [iwe rfl, lo 616 (by omega) (by omega)]; exact y1) hY2 (by
          rw [em, iwe rfl]
          rcases FH_b (g := a_i h 127) (e := e) T with q | ⟨i, q1, q2, q3⟩
          · exact Or.inl q
          · exact Or.inr ⟨i, q1, q2, by rw [lo _ (by omega) (by omega)]; exact q3⟩) ⟨smc.1, smc.2.1, smc.2.2⟩ (by rw [l_sw_, l_sw_, ehc, eh2]; rfl)
        ⟨by rw [iwn (q := 22) (by omega)]; exact hc_22, by rw [iwn (q := 23) (by omega), iwe rfl, lo 91 (by omega) (by omega)]; exact hc_23, by rw [iwn (q := 24) (by omega)]; exact hc_24⟩
        (by rw [iwn (by omega), ehc, ieq rfl rfl])
        (fun q j z1 z2 => by
          by_cases cq : q = 127
          · rw [iwe cq, iwe cq]
          · rw [iwn cq, iwn cq]; exact co q j z1 z2)
      rw [iwe rfl, sw_sw, lo 91 (by omega) (by omega), ← eG] at iv
      refine ⟨m, hc, _, fun Q => ?_, fun Q => ?_, iv, rfl, by rw [iwe rfl]; simp (disch := omega) only [udn, eG]; exact lo 1 (by omega) (by omega)⟩
      · have ay : ∀ Q, Cal (d + 3) mX2_addYes [.ref 16, .int (nI e), .ref 7] h1 Q = Q (some (.int m)) hc := by
          intro Q
          unfold Cal
          rw [l_X2_addYes]
          simp only [am_en, am_ag, ct_i, ct_r, ct_l, List.length_cons, List.length_nil, List.replicate]
          simp [w_aload_n2 (M := mX2_addYes) dX2_addYes_0, w_getI (M := mX2_addYes) dX2_addYes_1 f_2_42 rfl (by decide) (by decide), w_istore_n (M := mX2_addYes) (i := 3) dX2_addYes_4 rfl (by decide), w_iload_n3 (M := mX2_addYes) dX2_addYes_5, w_aload_n0 (M := mX2_addYes) dX2_addYes_6, w_getA (M := mX2_addYes) dX2_addYes_7 f_2_27 rfl (by decide) (by decide), w_alen (M := mX2_addYes) dX2_addYes_10, w_ic_lt (M := mX2_addYes) (tgt := 17) dX2_addYes_11 (by decide), w_bipush (M := mX2_addYes) (v := (-2)) dX2_addYes_14 rfl, w_iret (M := mX2_addYes) dX2_addYes_16 rfl, w_aload_n0 (M := mX2_addYes) dX2_addYes_17, w_getA (M := mX2_addYes) dX2_addYes_18 f_2_27 rfl (by decide) (by decide), w_iload_n3 (M := mX2_addYes) dX2_addYes_21, w_iload_n1 (M := mX2_addYes) dX2_addYes_22, w_iastore (M := mX2_addYes) dX2_addYes_23, w_aload_n0 (M := mX2_addYes) dX2_addYes_24, w_getA (M := mX2_addYes) dX2_addYes_25 f_2_30 rfl (by decide) (by decide), w_iload_n3 (M := mX2_addYes) dX2_addYes_28, w_aload_n2 (M := mX2_addYes) dX2_addYes_29, w_getI (M := mX2_addYes) dX2_addYes_30 f_2_53 rfl (by decide) (by decide), w_iastore (M := mX2_addYes) dX2_addYes_33, w_aload_n0 (M := mX2_addYes) dX2_addYes_34, w_getA (M := mX2_addYes) dX2_addYes_35 f_2_33 rfl (by decide) (by decide), w_iload_n3 (M := mX2_addYes) dX2_addYes_38, w_aload_n0 (M := mX2_addYes) dX2_addYes_39, w_iload_n1 (M := mX2_addYes) dX2_addYes_40, w_aload_n2 (M := mX2_addYes) dX2_addYes_41, c_2_56 (M := mX2_addYes) dX2_addYes_42 rfl, w_iastore (M := mX2_addYes) dX2_addYes_45, w_aload_n2 (M := mX2_addYes) dX2_addYes_46, w_dup_int (M := mX2_addYes) dX2_addYes_47, w_dup_ref (M := mX2_addYes) dX2_addYes_47, w_getI (M := mX2_addYes) dX2_addYes_48 f_2_42 rfl (by decide) (by decide), w_iconst (M := mX2_addYes) (v := 1) dX2_addYes_51 rfl, w_iadd (M := mX2_addYes) dX2_addYes_52, w_putI (M := mX2_addYes) dX2_addYes_53 f_2_42 rfl (Or.inl rfl), w_aload_n0 (M := mX2_addYes) dX2_addYes_56, w_getA (M := mX2_addYes) dX2_addYes_57 f_2_33 rfl (by decide) (by decide), w_iload_n3 (M := mX2_addYes) dX2_addYes_60, w_iaload (M := mX2_addYes) dX2_addYes_61, w_iret (M := mX2_addYes) dX2_addYes_62 rfl, Kn_v_, Kn_n_, kl_i_, kl_a_, kl_l_, kl_n_, s1_0_, s2_0_, s1_1, s1_2, s1_3, s1_4, s1_5, s1_6, s1_7, s1_8, s1_9, s1_10, s1_11, s1_12, s1_13, s1_14, s2_1, s2_2, s2_3, s2_4, s2_5, s2_6, s2_7, s2_8, s2_9, s2_10, s2_11, s2_12, s2_13, s2_14, List.map_nil, List.map_cons, List.sum_nil, List.sum_cons, ct_i_, ct_r_, ct_l_, t_si_, t_sl_, t_sr_, n_si_, n_sl_, n_sr_, i_si_, i_sl_, i_sr_, l_si_, l_sl_, l_sr_, r_si_, r_sl_, r_sr_, vr_s_, vr_n_, nz_0_, nz_1_, hC1.e, h74, h70, f1, show Int32.ofNat 40 = 40 from rfl, in1_n (k := Y) (n := 40) (by omega), hY2, nI_c (a := Y) (by omega), ← eh2, ho, hC2'.e, h2_74, nI_s, ← ehc, hC2.e, hc_24]
        unfold Cal
        rw [l_X11_yes]
        simp only [am_en, am_ag, ct_i, ct_r, ct_l, List.length_cons, List.length_nil, List.replicate]
        simp [w_aload_n0 (M := mX11_yes) dX11_yes_0, w_iload_n1 (M := mX11_yes) dX11_yes_1, c_11_105 (M := mX11_yes) dX11_yes_2 rfl, w_if_ne (M := mX11_yes) (tgt := 16) dX11_yes_5 (by decide), w_aload_n0 (M := mX11_yes) dX11_yes_8, w_iconst (M := mX11_yes) (v := 0) dX11_yes_9 rfl, w_bipush (M := mX11_yes) (v := (-2)) dX11_yes_10 rfl, c_11_60 (M := mX11_yes) dX11_yes_12 rfl, w_iret (M := mX11_yes) dX11_yes_15 rfl, w_aload_n0 (M := mX11_yes) dX11_yes_16, w_getO (M := mX11_yes) dX11_yes_17 f_11_10 rfl (by decide) (by decide), w_getO (M := mX11_yes) dX11_yes_20 f_11_82 rfl (by decide) (by decide), w_getI (M := mX11_yes) dX11_yes_23 f_11_140 rfl (by decide) (by decide), w_bipush (M := mX11_yes) (v := 40) dX11_yes_26 rfl, w_ic_lt (M := mX11_yes) (tgt := 39) dX11_yes_28 (by decide), w_aload_n0 (M := mX11_yes) dX11_yes_31, w_iconst (M := mX11_yes) (v := 1) dX11_yes_32 rfl, w_bipush (M := mX11_yes) (v := (-2)) dX11_yes_33 rfl, c_11_60 (M := mX11_yes) dX11_yes_35 rfl, w_iret (M := mX11_yes) dX11_yes_38 rfl, w_aload_n0 (M := mX11_yes) dX11_yes_39, w_getO (M := mX11_yes) dX11_yes_40 f_11_10 rfl (by decide) (by decide), c_11_95 (M := mX11_yes) dX11_yes_43 rfl, w_aload_n0 (M := mX11_yes) dX11_yes_46, w_getO (M := mX11_yes) dX11_yes_47 f_11_10 rfl (by decide) (by decide), w_getO (M := mX11_yes) dX11_yes_50 f_11_108 rfl (by decide) (by decide), w_iload_n1 (M := mX11_yes) dX11_yes_53, w_aload_n0 (M := mX11_yes) dX11_yes_54, w_getO (M := mX11_yes) dX11_yes_55 f_11_10 rfl (by decide) (by decide), w_getO (M := mX11_yes) dX11_yes_58 f_11_82 rfl (by decide) (by decide), c_11_143 (M := mX11_yes) dX11_yes_61 rfl, w_iret (M := mX11_yes) dX11_yes_64 rfl, Kn_v_, Kn_n_, kl_i_, kl_a_, kl_l_, kl_n_, s1_0_, s2_0_, s1_1, s1_2, s1_3, s1_4, s1_5, s1_6, s1_7, s1_8, s1_9, s1_10, s1_11, s1_12, s1_13, s1_14, s2_1, s2_2, s2_3, s2_4, s2_5, s2_6, s2_7, s2_8, s2_9, s2_10, s2_11, s2_12, s2_13, s2_14, List.map_nil, List.map_cons, List.sum_nil, List.sum_cons, ct_i_, ct_r_, ct_l_, t_si_, t_sl_, t_sr_, n_si_, n_sl_, n_sr_, i_si_, i_sl_, i_sr_, l_si_, l_sl_, l_sr_, r_si_, r_sl_, r_sr_, vr_s_, vr_n_, nz_0_, nz_1_, bI_0, bI_n, bI_t, bI_f, q_X11_isEnd, hC, hC.e, kf, c0, y1, f1, ck, hC1.e, ay]
      · have j0 : (617 + 3 * nI Y).toNatClampNeg = 617 + 3 * Y := ixY0 (by omega)
        have l0 : (0 ≤ 617 + 3 * nI Y) = True := ipY0 (by omega)
        have j1 : (617 + 3 * nI Y + 1).toNatClampNeg = 617 + 3 * Y + 1 := ixY1 (by omega)
        have l1 : (0 ≤ 617 + 3 * nI Y + 1) = True := ipY1 (by omega)
        have j2 : (617 + 3 * nI Y + 2).toNatClampNeg = 617 + 3 * Y + 2 := ixY2 (by omega)
        have l2 : (0 ≤ 617 + 3 * nI Y + 2) = True := ipY2 (by omega)
        have u1 : KS n (a_i h 127) 616 = nI Y := by rw [lo _ (by omega) (by omega)]; exact y1
        have u3 : ud (KS n (a_i h 127)) (617 + 3 * Y) (nI e) 91 = a_i h 127 91 := by rw [udn (by omega)]; exact lo _ (by omega) (by omega)
        have u4 : ud G (617 + 3 * Y + 2) m 616 = nI Y := by rw [udn (by omega), eG, udn (by omega), udn (by omega)]; exact u1
        have u5 : ud (ud G (617 + 3 * Y + 2) m) 616 (nI (Y + 1)) (617 + 3 * Y + 2) = m := by rw [udn (by omega), ude rfl]
        unfold Cal
        rw [l_X12_yes]
        simp only [am_en, am_ag, ct_i, ct_r, ct_l, List.length_cons, List.length_nil, List.replicate]
        simp [w_aload_n0 (M := mX12_yes) dX12_yes_0, w_iload_n1 (M := mX12_yes) dX12_yes_1, c_12_185 (M := mX12_yes) dX12_yes_2 rfl, w_if_ne (M := mX12_yes) (tgt := 16) dX12_yes_5 (by decide), w_aload_n0 (M := mX12_yes) dX12_yes_8, w_iconst (M := mX12_yes) (v := 0) dX12_yes_9 rfl, w_bipush (M := mX12_yes) (v := (-2)) dX12_yes_10 rfl, c_12_177 (M := mX12_yes) dX12_yes_12 rfl, w_iret (M := mX12_yes) dX12_yes_15 rfl, w_aload_n0 (M := mX12_yes) dX12_yes_16, w_getA (M := mX12_yes) dX12_yes_17 f_12_7 rfl (by decide) (by decide), w_sipush (M := mX12_yes) (v := 616) dX12_yes_20 rfl, w_iaload (M := mX12_yes) dX12_yes_23, w_bipush (M := mX12_yes) (v := 40) dX12_yes_24 rfl, w_ic_ne (M := mX12_yes) (tgt := 37) dX12_yes_26 (by decide), w_aload_n0 (M := mX12_yes) dX12_yes_29, w_iconst (M := mX12_yes) (v := 1) dX12_yes_30 rfl, w_bipush (M := mX12_yes) (v := (-2)) dX12_yes_31 rfl, c_12_177 (M := mX12_yes) dX12_yes_33 rfl, w_iret (M := mX12_yes) dX12_yes_36 rfl, w_aload_n0 (M := mX12_yes) dX12_yes_37, c_12_191 (M := mX12_yes) dX12_yes_38 rfl, w_sipush (M := mX12_yes) (v := 617) dX12_yes_41 rfl, w_iconst (M := mX12_yes) (v := 3) dX12_yes_44 rfl, w_aload_n0 (M := mX12_yes) dX12_yes_45, w_getA (M := mX12_yes) dX12_yes_46 f_12_7 rfl (by decide) (by decide), w_sipush (M := mX12_yes) (v := 616) dX12_yes_49 rfl, w_iaload (M := mX12_yes) dX12_yes_52, w_imul (M := mX12_yes) dX12_yes_53, w_iadd (M := mX12_yes) dX12_yes_54, w_istore_n (M := mX12_yes) (i := 2) dX12_yes_55 rfl (by decide), w_aload_n0 (M := mX12_yes) dX12_yes_56, w_getA (M := mX12_yes) dX12_yes_57 f_12_7 rfl (by decide) (by decide), w_iload_n2 (M := mX12_yes) dX12_yes_60, w_iload_n1 (M := mX12_yes) dX12_yes_61, w_iastore (M := mX12_yes) dX12_yes_62, w_aload_n0 (M := mX12_yes) dX12_yes_63, w_getA (M := mX12_yes) dX12_yes_64 f_12_7 rfl (by decide) (by decide), w_iload_n2 (M := mX12_yes) dX12_yes_67, w_iconst (M := mX12_yes) (v := 1) dX12_yes_68 rfl, w_iadd (M := mX12_yes) dX12_yes_69, w_aload_n0 (M := mX12_yes) dX12_yes_70, w_getA (M := mX12_yes) dX12_yes_71 f_12_7 rfl (by decide) (by decide), w_bipush (M := mX12_yes) (v := 91) dX12_yes_74 rfl, w_iaload (M := mX12_yes) dX12_yes_76, w_iastore (M := mX12_yes) dX12_yes_77, w_aload_n0 (M := mX12_yes) dX12_yes_78, w_getA (M := mX12_yes) dX12_yes_79 f_12_7 rfl (by decide) (by decide), w_iload_n2 (M := mX12_yes) dX12_yes_82, w_iconst (M := mX12_yes) (v := 2) dX12_yes_83 rfl, w_iadd (M := mX12_yes) dX12_yes_84, w_aload_n0 (M := mX12_yes) dX12_yes_85, w_iload_n1 (M := mX12_yes) dX12_yes_86, c_12_526 (M := mX12_yes) dX12_yes_87 rfl, w_iastore (M := mX12_yes) dX12_yes_90, w_aload_n0 (M := mX12_yes) dX12_yes_91, w_getA (M := mX12_yes) dX12_yes_92 f_12_7 rfl (by decide) (by decide), w_sipush (M := mX12_yes) (v := 616) dX12_yes_95 rfl, w_dup2 (M := mX12_yes) dX12_yes_98, w_iaload (M := mX12_yes) dX12_yes_99, w_iconst (M := mX12_yes) (v := 1) dX12_yes_100 rfl, w_iadd (M := mX12_yes) dX12_yes_101, w_iastore (M := mX12_yes) dX12_yes_102, w_aload_n0 (M := mX12_yes) dX12_yes_103, w_getA (M := mX12_yes) dX12_yes_104 f_12_7 rfl (by decide) (by decide), w_iload_n2 (M := mX12_yes) dX12_yes_107, w_iconst (M := mX12_yes) (v := 2) dX12_yes_108 rfl, w_iadd (M := mX12_yes) dX12_yes_109, w_iaload (M := mX12_yes) dX12_yes_110, w_iret (M := mX12_yes) dX12_yes_111 rfl, Kn_v_, Kn_n_, kl_i_, kl_a_, kl_l_, kl_n_, s1_0_, s2_0_, s1_1, s1_2, s1_3, s1_4, s1_5, s1_6, s1_7, s1_8, s1_9, s1_10, s1_11, s1_12, s1_13, s1_14, s2_1, s2_2, s2_3, s2_4, s2_5, s2_6, s2_7, s2_8, s2_9, s2_10, s2_11, s2_12, s2_13, s2_14, List.map_nil, List.map_cons, List.sum_nil, List.sum_cons, ct_i_, ct_r_, ct_l_, t_si_, t_sl_, t_sr_, n_si_, n_sl_, n_sr_, i_si_, i_sl_, i_sr_, l_si_, l_sl_, l_sr_, r_si_, r_sl_, r_sr_, vr_s_, vr_n_, nz_0_, nz_1_, bI_0, bI_n, bI_t, bI_f, q_X12_isEnd, hR2, hR2.e, am_in1, c0, y1, f2, ks, c127, t_sw_, r_sw_, i_sw_, si_sw, j0, j1, j2, l0, l1, l2, u1, u3, ← eG, hr, u4, u5, nI_s, show 617 + 3 * Y < 20150 by omega, show 617 + 3 * Y < 20149 by omega, show 617 + 3 * Y < 20148 by omega, show (617 + 3 * Y + 1 < 20150) = True from eq_true (by omega), show (617 + 3 * Y + 2 < 20150) = True from eq_true (by omega)]
  · refine opT_ref (r := 0) k (by omega) (ans := -2) (fun Q => ?_) (fun Q => ?_)
    · unfold Cal
      rw [l_X11_yes]
      simp only [am_en, am_ag, ct_i, ct_r, ct_l, List.length_cons, List.length_nil, List.replicate]
      simp [w_aload_n0 (M := mX11_yes) dX11_yes_0, w_iload_n1 (M := mX11_yes) dX11_yes_1, c_11_105 (M := mX11_yes) dX11_yes_2 rfl, w_if_ne (M := mX11_yes) (tgt := 16) dX11_yes_5 (by decide), w_aload_n0 (M := mX11_yes) dX11_yes_8, w_iconst (M := mX11_yes) (v := 0) dX11_yes_9 rfl, w_bipush (M := mX11_yes) (v := (-2)) dX11_yes_10 rfl, c_11_60 (M := mX11_yes) dX11_yes_12 rfl, w_iret (M := mX11_yes) dX11_yes_15 rfl, w_aload_n0 (M := mX11_yes) dX11_yes_16, w_getO (M := mX11_yes) dX11_yes_17 f_11_10 rfl (by decide) (by decide), w_getO (M := mX11_yes) dX11_yes_20 f_11_82 rfl (by decide) (by decide), w_getI (M := mX11_yes) dX11_yes_23 f_11_140 rfl (by decide) (by decide), w_bipush (M := mX11_yes) (v := 40) dX11_yes_26 rfl, w_ic_lt (M := mX11_yes) (tgt := 39) dX11_yes_28 (by decide), w_aload_n0 (M := mX11_yes) dX11_yes_31, w_iconst (M := mX11_yes) (v := 1) dX11_yes_32 rfl, w_bipush (M := mX11_yes) (v := (-2)) dX11_yes_33 rfl, c_11_60 (M := mX11_yes) dX11_yes_35 rfl, w_iret (M := mX11_yes) dX11_yes_38 rfl, w_aload_n0 (M := mX11_yes) dX11_yes_39, w_getO (M := mX11_yes) dX11_yes_40 f_11_10 rfl (by decide) (by decide), c_11_95 (M := mX11_yes) dX11_yes_43 rfl, w_aload_n0 (M := mX11_yes) dX11_yes_46, w_getO (M := mX11_yes) dX11_yes_47 f_11_10 rfl (by decide) (by decide), w_getO (M := mX11_yes) dX11_yes_50 f_11_108 rfl (by decide) (by decide), w_iload_n1 (M := mX11_yes) dX11_yes_53, w_aload_n0 (M := mX11_yes) dX11_yes_54, w_getO (M := mX11_yes) dX11_yes_55 f_11_10 rfl (by decide) (by decide), w_getO (M := mX11_yes) dX11_yes_58 f_11_82 rfl (by decide) (by decide), c_11_143 (M := mX11_yes) dX11_yes_61 rfl, w_iret (M := mX11_yes) dX11_yes_64 rfl, Kn_v_, Kn_n_, kl_i_, kl_a_, kl_l_, kl_n_, s1_0_, s2_0_, s1_1, s1_2, s1_3, s1_4, s1_5, s1_6, s1_7, s1_8, s1_9, s1_10, s1_11, s1_12, s1_13, s1_14, s2_1, s2_2, s2_3, s2_4, s2_5, s2_6, s2_7, s2_8, s2_9, s2_10, s2_11, s2_12, s2_13, s2_14, List.map_nil, List.map_cons, List.sum_nil, List.sum_cons, ct_i_, ct_r_, ct_l_, t_si_, t_sl_, t_sr_, n_si_, n_sl_, n_sr_, i_si_, i_sl_, i_sr_, l_si_, l_sl_, l_sr_, r_si_, r_sl_, r_sr_, vr_s_, vr_n_, nz_0_, nz_1_, bI_0, bI_n, bI_t, bI_f, q_X11_isEnd, q_X11_refuse, hC, hC.e, kf, c0]
    · unfold Cal
      rw [l_X12_yes]
      simp only [am_en, am_ag, ct_i, ct_r, ct_l, List.length_cons, List.length_nil, List.replicate]
      simp [w_aload_n0 (M := mX12_yes) dX12_yes_0, w_iload_n1 (M := mX12_yes) dX12_yes_1, c_12_185 (M := mX12_yes) dX12_yes_2 rfl, w_if_ne (M := mX12_yes) (tgt := 16) dX12_yes_5 (by decide), w_aload_n0 (M := mX12_yes) dX12_yes_8, w_iconst (M := mX12_yes) (v := 0) dX12_yes_9 rfl, w_bipush (M := mX12_yes) (v := (-2)) dX12_yes_10 rfl, c_12_177 (M := mX12_yes) dX12_yes_12 rfl, w_iret (M := mX12_yes) dX12_yes_15 rfl, w_aload_n0 (M := mX12_yes) dX12_yes_16, w_getA (M := mX12_yes) dX12_yes_17 f_12_7 rfl (by decide) (by decide), w_sipush (M := mX12_yes) (v := 616) dX12_yes_20 rfl, w_iaload (M := mX12_yes) dX12_yes_23, w_bipush (M := mX12_yes) (v := 40) dX12_yes_24 rfl, w_ic_ne (M := mX12_yes) (tgt := 37) dX12_yes_26 (by decide), w_aload_n0 (M := mX12_yes) dX12_yes_29, w_iconst (M := mX12_yes) (v := 1) dX12_yes_30 rfl, w_bipush (M := mX12_yes) (v := (-2)) dX12_yes_31 rfl, c_12_177 (M := mX12_yes) dX12_yes_33 rfl, w_iret (M := mX12_yes) dX12_yes_36 rfl, w_aload_n0 (M := mX12_yes) dX12_yes_37, c_12_191 (M := mX12_yes) dX12_yes_38 rfl, w_sipush (M := mX12_yes) (v := 617) dX12_yes_41 rfl, w_iconst (M := mX12_yes) (v := 3) dX12_yes_44 rfl, w_aload_n0 (M := mX12_yes) dX12_yes_45, w_getA (M := mX12_yes) dX12_yes_46 f_12_7 rfl (by decide) (by decide), w_sipush (M := mX12_yes) (v := 616) dX12_yes_49 rfl, w_iaload (M := mX12_yes) dX12_yes_52, w_imul (M := mX12_yes) dX12_yes_53, w_iadd (M := mX12_yes) dX12_yes_54, w_istore_n (M := mX12_yes) (i := 2) dX12_yes_55 rfl (by decide), w_aload_n0 (M := mX12_yes) dX12_yes_56, w_getA (M := mX12_yes) dX12_yes_57 f_12_7 rfl (by decide) (by decide), w_iload_n2 (M := mX12_yes) dX12_yes_60, w_iload_n1 (M := mX12_yes) dX12_yes_61, w_iastore (M := mX12_yes) dX12_yes_62, w_aload_n0 (M := mX12_yes) dX12_yes_63, w_getA (M := mX12_yes) dX12_yes_64 f_12_7 rfl (by decide) (by decide), w_iload_n2 (M := mX12_yes) dX12_yes_67, w_iconst (M := mX12_yes) (v := 1) dX12_yes_68 rfl, w_iadd (M := mX12_yes) dX12_yes_69, w_aload_n0 (M := mX12_yes) dX12_yes_70, w_getA (M := mX12_yes) dX12_yes_71 f_12_7 rfl (by decide) (by decide), w_bipush (M := mX12_yes) (v := 91) dX12_yes_74 rfl, w_iaload (M := mX12_yes) dX12_yes_76, w_iastore (M := mX12_yes) dX12_yes_77, w_aload_n0 (M := mX12_yes) dX12_yes_78, w_getA (M := mX12_yes) dX12_yes_79 f_12_7 rfl (by decide) (by decide), w_iload_n2 (M := mX12_yes) dX12_yes_82, w_iconst (M := mX12_yes) (v := 2) dX12_yes_83 rfl, w_iadd (M := mX12_yes) dX12_yes_84, w_aload_n0 (M := mX12_yes) dX12_yes_85, w_iload_n1 (M := mX12_yes) dX12_yes_86, c_12_526 (M := mX12_yes) dX12_yes_87 rfl, w_iastore (M := mX12_yes) dX12_yes_90, w_aload_n0 (M := mX12_yes) dX12_yes_91, w_getA (M := mX12_yes) dX12_yes_92 f_12_7 rfl (by decide) (by decide), w_sipush (M := mX12_yes) (v := 616) dX12_yes_95 rfl, w_dup2 (M := mX12_yes) dX12_yes_98, w_iaload (M := mX12_yes) dX12_yes_99, w_iconst (M := mX12_yes) (v := 1) dX12_yes_100 rfl, w_iadd (M := mX12_yes) dX12_yes_101, w_iastore (M := mX12_yes) dX12_yes_102, w_aload_n0 (M := mX12_yes) dX12_yes_103, w_getA (M := mX12_yes) dX12_yes_104 f_12_7 rfl (by decide) (by decide), w_iload_n2 (M := mX12_yes) dX12_yes_107, w_iconst (M := mX12_yes) (v := 2) dX12_yes_108 rfl, w_iadd (M := mX12_yes) dX12_yes_109, w_iaload (M := mX12_yes) dX12_yes_110, w_iret (M := mX12_yes) dX12_yes_111 rfl, Kn_v_, Kn_n_, kl_i_, kl_a_, kl_l_, kl_n_, s1_0_, s2_0_, s1_1, s1_2, s1_3, s1_4, s1_5, s1_6, s1_7, s1_8, s1_9, s1_10, s1_11, s1_12, s1_13, s1_14, s2_1, s2_2, s2_3, s2_4, s2_5, s2_6, s2_7, s2_8, s2_9, s2_10, s2_11, s2_12, s2_13, s2_14, List.map_nil, List.map_cons, List.sum_nil, List.sum_cons, ct_i_, ct_r_, ct_l_, t_si_, t_sl_, t_sr_, n_si_, n_sl_, n_sr_, i_si_, i_sl_, i_sr_, l_si_, l_sl_, l_sr_, r_si_, r_sl_, r_sr_, vr_s_, vr_n_, nz_0_, nz_1_, bI_0, bI_n, bI_t, bI_f, q_X12_isEnd, q_X12_refuses, hR, hR.e, am_in1, c0, i_si_, i_sl_, i_sr_, t_si_, t_sl_, t_sr_, r_si_, r_sl_, l_si_, n_si_, n_sl_]
theorem op_yes (k : Inv X h) {v0 : Int32} : opS X (d + 4) mX11_yes mX12_yes [.ref 0, .int v0] [.ref 126, .int v0] h := (ot_yes k).S
end YES
