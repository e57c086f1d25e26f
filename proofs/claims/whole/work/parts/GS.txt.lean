/-! text answers alike on both sides -/
section TEXT
variable {h : am_h} {d n u : Nat} {Q : Option Value → am_h → Prop}
theorem wp_one {X : (Option Value → am_h → Prop) → Prop} {r : Option Value} {A B : am_h} (k1 : ∀ Q, X Q = Q r A) (k2 : ∀ Q, X Q = Q r B) : A = B := by
  have z := k1 (fun _ f => f = B)
  rw [k2] at z
  exact z.mp rfl
/-- there are four already -/
theorem txt_4 (k : Inv XP h) (e4 : a_i h 127 1 = 4) : opS XP 100 mX11_text mX12_text [.ref 0] [.ref 126] h := by
  have hC := k.1.1
  have hR := k.1.2.1
  have e1 : a_i h 1 6 = 4 := k.2.1.1.2.1.1.trans e4
  obtain ⟨A, eA⟩ : ∃ A, A = s_i h 26 1 (a_i h 26 1 + 1) := ⟨_, rfl⟩
  have rf : ∀ Q, Cal 99 mX11_refuse [.ref 0, .int 1, .int (-1)] h Q = Q (some (.int (-1))) A := fun Q => by
    rw [q_X11_refuse (eq_true hC), eA]
    exact propext ⟨fun z => z.2, fun z => ⟨⟨by decide, by decide⟩, z⟩⟩
  have hRA : sh_R (a_t A) (a_r A) := by rw [eA]; exact hR
  have e4A : a_i A 127 1 = 4 := by rw [eA, ine (by omega)]; exact e4
  have rg : ∀ Q, Cal 99 mX12_refuses [.ref 126, .int 1, .int (-1)] A Q = Q (some (.int (-1))) (s_i A 127 (9 + 1) (a_i A 127 (9 + 1) + 1)) := fun Q => by
    rw [q_X12_refuses (eq_true hRA)]
    exact propext ⟨fun z => z.2, fun z => ⟨⟨by decide, by decide⟩, z⟩⟩
  refine ⟨-1, A, s_i A 127 (9 + 1) (a_i A 127 (9 + 1) + 1), fun Q => ?_, fun Q => ?_, ?_⟩
  · unfold Cal
    rw [show m_l mX11_text = 1 from rfl]
    simp only [am_en, am_ag, ct_i, ct_r, ct_l, List.length_cons, List.length_nil, List.replicate]
    simp [w_aload_n0 (M := mX11_text) dX11_text_0, w_getO (M := mX11_text) dX11_text_1 f_11_10 rfl (by decide) (by decide), w_getI (M := mX11_text) dX11_text_4 f_11_162 rfl (by decide) (by decide), w_iconst (M := mX11_text) (v := 4) dX11_text_7 rfl, w_ic_lt (M := mX11_text) (tgt := 18) dX11_text_8 (by decide), w_aload_n0 (M := mX11_text) dX11_text_11, w_iconst (M := mX11_text) (v := 1) dX11_text_12 rfl, w_iconst (M := mX11_text) (v := (-1)) dX11_text_13 rfl, c_11_60 (M := mX11_text) dX11_text_14 rfl, w_iret (M := mX11_text) dX11_text_17 rfl, Kn_v_, Kn_n_, kl_i_, kl_a_, kl_l_, kl_n_, s1_0_, s2_0_, s1_1, s1_2, s1_3, s1_4, s1_5, s1_6, s1_7, s1_8, s1_9, s1_10, s1_11, s1_12, s1_13, s1_14, s2_1, s2_2, s2_3, s2_4, s2_5, s2_6, s2_7, s2_8, s2_9, s2_10, s2_11, s2_12, s2_13, s2_14, List.map_nil, List.map_cons, List.sum_nil, List.sum_cons, ct_i_, ct_r_, ct_l_, t_si_, t_sl_, t_sr_, n_si_, n_sl_, n_sr_, i_si_, i_sl_, i_sr_, l_si_, l_sl_, l_sr_, r_si_, r_sl_, r_sr_, vr_s_, vr_n_, nz_0_, nz_1_, hC.e, e1, rf]
  · unfold Cal
    rw [show m_l mX12_text = 4 from rfl]
    simp only [am_en, am_ag, ct_i, ct_r, ct_l, List.length_cons, List.length_nil, List.replicate]
    simp [w_aload_n0 (M := mX12_text) dX12_text_0, w_getA (M := mX12_text) dX12_text_1 f_12_7 rfl (by decide) (by decide), w_iconst (M := mX12_text) (v := 1) dX12_text_4 rfl, w_iaload (M := mX12_text) dX12_text_5, w_iconst (M := mX12_text) (v := 4) dX12_text_6 rfl, w_ic_ne (M := mX12_text) (tgt := 17) dX12_text_7 (by decide), w_aload_n0 (M := mX12_text) dX12_text_10, w_iconst (M := mX12_text) (v := 1) dX12_text_11 rfl, w_iconst (M := mX12_text) (v := (-1)) dX12_text_12 rfl, c_12_177 (M := mX12_text) dX12_text_13 rfl, w_iret (M := mX12_text) dX12_text_16 rfl, Kn_v_, Kn_n_, kl_i_, kl_a_, kl_l_, kl_n_, s1_0_, s2_0_, s1_1, s1_2, s1_3, s1_4, s1_5, s1_6, s1_7, s1_8, s1_9, s1_10, s1_11, s1_12, s1_13, s1_14, s2_1, s2_2, s2_3, s2_4, s2_5, s2_6, s2_7, s2_8, s2_9, s2_10, s2_11, s2_12, s2_13, s2_14, List.map_nil, List.map_cons, List.sum_nil, List.sum_cons, ct_i_, ct_r_, ct_l_, t_si_, t_sl_, t_sr_, n_si_, n_sl_, n_sr_, i_si_, i_sl_, i_sr_, l_si_, l_sl_, l_sr_, r_si_, r_sl_, r_sr_, vr_s_, vr_n_, nz_0_, nz_1_, hRA.e, e4A, rg, l1_in, l1_c]
  · have z := Inv_ref k (r := 1) (by omega)
    rw [eA, ine (by omega)]
    exact z
/-- the one side's call, where there is room -/
theorem cx_text (hC : sh_C (a_t h) (a_r h)) (eu : a_i h 1 6 = nI u) (lu : u < 4) {G : am_h} (rd : ∀ Q, Cal 99 mX7_readInto [.ref 86, .ref (94 + 8 * u)] h Q = Q none G) (hCG : sh_C (a_t G) (a_r G)) (eG : a_i G 1 6 = nI u) : ∀ Q, Cal 100 mX11_text [.ref 0] h Q = if a_i G 86 2 = 0 then Q (some (.int (nI u))) (s_i G 1 6 (nI (u + 1))) else Q (some (.int (-1))) G := fun Q => by
  have c1 : (nI u < 4) = True := by rw [show (4 : Int32) = nI 4 from rfl]; exact nI_ltT lu (by omega)
  have c2 : (4 ≤ nI u) = False := by rw [show (4 : Int32) = nI 4 from rfl, nI_lE (by omega) (by omega)]; exact eq_false (by omega)
  have x1 : am_in1 (nI u) 4 = True := by rw [in1_n (by omega)]; exact eq_true lu
  have x2 := nI_c (a := u) (by omega)
  have x3 : nI u + 1 = nI (u + 1) := nI_a (b := 1)
  have x4 : nI (u + 1) - 1 = nI u := nI_sb (b := 1) (by omega)
  have r85 := (shTx hC lu).2.2.2.2.2.2.2
  unfold Cal
  rw [show m_l mX11_text = 1 from rfl]
  simp only [am_en, am_ag, ct_i, ct_r, ct_l, List.length_cons, List.length_nil, List.replicate]
  by_cases z : a_i G 86 2 = 0
  · rw [if_pos z]
    simp [w_aload_n0 (M := mX11_text) dX11_text_0, w_getO (M := mX11_text) dX11_text_1 f_11_10 rfl (by decide) (by decide), w_getI (M := mX11_text) dX11_text_4 f_11_162 rfl (by decide) (by decide), w_iconst (M := mX11_text) (v := 4) dX11_text_7 rfl, w_ic_lt (M := mX11_text) (tgt := 18) dX11_text_8 (by decide), w_aload_n0 (M := mX11_text) dX11_text_18, w_getO (M := mX11_text) dX11_text_19 f_11_44 rfl (by decide) (by decide), w_aload_n0 (M := mX11_text) dX11_text_22, w_getA (M := mX11_text) dX11_text_23 f_11_37 rfl (by decide) (by decide), w_aload_n0 (M := mX11_text) dX11_text_26, w_getO (M := mX11_text) dX11_text_27 f_11_10 rfl (by decide) (by decide), w_getI (M := mX11_text) dX11_text_30 f_11_162 rfl (by decide) (by decide), w_aaload (M := mX11_text) dX11_text_33, c_11_164 (M := mX11_text) dX11_text_34 rfl, w_aload_n0 (M := mX11_text) dX11_text_37, w_getO (M := mX11_text) dX11_text_38 f_11_44 rfl (by decide) (by decide), w_getI (M := mX11_text) dX11_text_41 f_11_168 rfl (by decide) (by decide), w_if_eq (M := mX11_text) (tgt := 49) dX11_text_44 (by decide), w_iconst (M := mX11_text) (v := (-1)) dX11_text_47 rfl, w_iret (M := mX11_text) dX11_text_48 rfl, w_aload_n0 (M := mX11_text) dX11_text_49, w_getO (M := mX11_text) dX11_text_50 f_11_10 rfl (by decide) (by decide), w_dup_int (M := mX11_text) dX11_text_53, w_dup_ref (M := mX11_text) dX11_text_53, w_getI (M := mX11_text) dX11_text_54 f_11_162 rfl (by decide) (by decide), w_iconst (M := mX11_text) (v := 1) dX11_text_57 rfl, w_iadd (M := mX11_text) dX11_text_58, w_putI (M := mX11_text) dX11_text_59 f_11_162 rfl (Or.inl rfl), w_aload_n0 (M := mX11_text) dX11_text_62, w_getO (M := mX11_text) dX11_text_63 f_11_10 rfl (by decide) (by decide), w_getI (M := mX11_text) dX11_text_66 f_11_162 rfl (by decide) (by decide), w_iconst (M := mX11_text) (v := 1) dX11_text_69 rfl, w_isub (M := mX11_text) dX11_text_70, w_iret (M := mX11_text) dX11_text_71 rfl, Kn_v_, Kn_n_, kl_i_, kl_a_, kl_l_, kl_n_, s1_0_, s2_0_, s1_1, s1_2, s1_3, s1_4, s1_5, s1_6, s1_7, s1_8, s1_9, s1_10, s1_11, s1_12, s1_13, s1_14, s2_1, s2_2, s2_3, s2_4, s2_5, s2_6, s2_7, s2_8, s2_9, s2_10, s2_11, s2_12, s2_13, s2_14, List.map_nil, List.map_cons, List.sum_nil, List.sum_cons, ct_i_, ct_r_, ct_l_, t_si_, t_sl_, t_sr_, n_si_, n_sl_, n_sr_, i_si_, i_sl_, i_sr_, l_si_, l_sl_, l_sr_, r_si_, r_sl_, r_sr_, vr_s_, vr_n_, nz_0_, nz_1_, hC.e, hCG.e, eu, eG, c1, c2, x1, x2, x3, x4, r85, rd, z]
  · rw [if_neg z]
    simp [w_aload_n0 (M := mX11_text) dX11_text_0, w_getO (M := mX11_text) dX11_text_1 f_11_10 rfl (by decide) (by decide), w_getI (M := mX11_text) dX11_text_4 f_11_162 rfl (by decide) (by decide), w_iconst (M := mX11_text) (v := 4) dX11_text_7 rfl, w_ic_lt (M := mX11_text) (tgt := 18) dX11_text_8 (by decide), w_aload_n0 (M := mX11_text) dX11_text_18, w_getO (M := mX11_text) dX11_text_19 f_11_44 rfl (by decide) (by decide), w_aload_n0 (M := mX11_text) dX11_text_22, w_getA (M := mX11_text) dX11_text_23 f_11_37 rfl (by decide) (by decide), w_aload_n0 (M := mX11_text) dX11_text_26, w_getO (M := mX11_text) dX11_text_27 f_11_10 rfl (by decide) (by decide), w_getI (M := mX11_text) dX11_text_30 f_11_162 rfl (by decide) (by decide), w_aaload (M := mX11_text) dX11_text_33, c_11_164 (M := mX11_text) dX11_text_34 rfl, w_aload_n0 (M := mX11_text) dX11_text_37, w_getO (M := mX11_text) dX11_text_38 f_11_44 rfl (by decide) (by decide), w_getI (M := mX11_text) dX11_text_41 f_11_168 rfl (by decide) (by decide), w_if_eq (M := mX11_text) (tgt := 49) dX11_text_44 (by decide), w_iconst (M := mX11_text) (v := (-1)) dX11_text_47 rfl, w_iret (M := mX11_text) dX11_text_48 rfl, w_aload_n0 (M := mX11_text) dX11_text_49, w_getO (M := mX11_text) dX11_text_50 f_11_10 rfl (by decide) (by decide), w_dup_int (M := mX11_text) dX11_text_53, w_dup_ref (M := mX11_text) dX11_text_53, w_getI (M := mX11_text) dX11_text_54 f_11_162 rfl (by decide) (by decide), w_iconst (M := mX11_text) (v := 1) dX11_text_57 rfl, w_iadd (M := mX11_text) dX11_text_58, w_putI (M := mX11_text) dX11_text_59 f_11_162 rfl (Or.inl rfl), w_aload_n0 (M := mX11_text) dX11_text_62, w_getO (M := mX11_text) dX11_text_63 f_11_10 rfl (by decide) (by decide), w_getI (M := mX11_text) dX11_text_66 f_11_162 rfl (by decide) (by decide), w_iconst (M := mX11_text) (v := 1) dX11_text_69 rfl, w_isub (M := mX11_text) dX11_text_70, w_iret (M := mX11_text) dX11_text_71 rfl, Kn_v_, Kn_n_, kl_i_, kl_a_, kl_l_, kl_n_, s1_0_, s2_0_, s1_1, s1_2, s1_3, s1_4, s1_5, s1_6, s1_7, s1_8, s1_9, s1_10, s1_11, s1_12, s1_13, s1_14, s2_1, s2_2, s2_3, s2_4, s2_5, s2_6, s2_7, s2_8, s2_9, s2_10, s2_11, s2_12, s2_13, s2_14, List.map_nil, List.map_cons, List.sum_nil, List.sum_cons, ct_i_, ct_r_, ct_l_, t_si_, t_sl_, t_sr_, n_si_, n_sl_, n_sr_, i_si_, i_sl_, i_sr_, l_si_, l_sl_, l_sr_, r_si_, r_sl_, r_sr_, vr_s_, vr_n_, nz_0_, nz_1_, hC.e, hCG.e, eu, eG, c1, c2, x1, x2, x3, x4, r85, rd, z]
theorem clS_0 {t : Nat → Nat} {T : List (Nat × Nat × Nat)} {q w : Nat} {hc hr : am_h} (C : okC q T 0 0 hc) (h4 : a_i hc q 4 = nI 0) (hl : ∀ w, w < 5 → a_i hc (q + 5) w = -1) (h3 : a_i hc 86 3 = -1) (P : okP t n T w 0 hr) (KK : okK 0 0 0 0 hr) (s28 : a_i hr 126 28 = 4) (s30 : a_i hr 126 30 = nI 0) (s20 : a_i hr 126 20 = -1) : clS t n T q 0 0 0 0 hc hr :=
  ⟨C, ⟨w, P⟩, KK, s28, s30, h4, by omega, Nat.le_refl _, ⟨fun k lk => absurd lk (by omega), fun w lw => Or.inl ⟨hl w lw, fun k lk => absurd lk (by omega)⟩⟩, h3, s20⟩
set_option maxHeartbeats 1000000 in
theorem txt : TXT := by
  intro L xs fo h W
  obtain ⟨k, sp, old⟩ := W
  have tx0 : txC h := txC.of old
  have hC := k.1.1
  have hR := k.1.2.1
  have tp := k.2.2.2.1
  have r5 := k.2.1.1.2.2.2.2
  have r2 := k.2.1.1.2.1
  obtain ⟨n, en, en2, -⟩ := btn tp.2.1 (by omega) (by omega)
  have hn : n ≤ 300 := by have := tp.2.1; unfold bt at this; omega
  have e1 : a_i h 86 1 = nI n := tp.1.trans en
  obtain ⟨t, et⟩ : ∃ t : Nat → Nat, t = fun j => Nn (a_i h 87 j) := ⟨_, rfl⟩
  have ht : ∀ j, j < n → a_i h 87 j = nI (t j) ∧ t j < 256 ∧ a_i h 129 j = b8 (t j) := fun j hj => by
    obtain ⟨b1, b2⟩ := tp.2.2.2.2 j (by rw [en, Nn_n (by omega)]; exact hj)
    have q1 := bt_e b1 (by omega) (by omega)
    have q2 := bt_n (m := 255) b1 (by omega) (by omega)
    rw [et]
    refine ⟨q1, by show Nn (a_i h 87 j) < 256; omega, ?_⟩
    rw [b2]
    unfold b8
    show _ = (nI (Nn (a_i h 87 j))).toInt8.toInt32
    rw [← q1]
  obtain ⟨u, eu, eu2, -⟩ := btn r5.2.1 (by omega) (by omega)
  have lu4 : u ≤ 4 := by have := r5.2.1; unfold bt at this; omega
  by_cases c4 : u = 4
  · exact txt_4 k (by rw [eu, c4]; rfl)
  have lu : u < 4 := by omega
  have e16 : a_i h 1 6 = nI u := r2.1.trans eu
  obtain ⟨q, eq⟩ : ∃ q, q = 94 + 8 * u := ⟨_, rfl⟩
  -- the one side's beginning
  obtain ⟨h1, rb, C, h14, h1l, h13, h1t, h11, h1al, h1r, h1i⟩ := rd_beg (d := 90) (q := q) lu eq ⟨hC, e1, hn, fun j hj => ⟨(ht j hj).1, (ht j hj).2.1⟩⟩ tx0
  obtain ⟨T, eT⟩ : ∃ T, T = tks t n 300 0 ++ [(0, 0, n)] := ⟨_, rfl⟩
  rw [← eT] at C
  have lq := C.1.2.1
  have lq2 := C.1.2.2.1
  have nt : ∀ H : am_h, a_i H 127 1 = nI u → ¬ a_i H 127 1 = 4 := fun H e => by
    rw [e, show (4 : Int32) = nI 4 from rfl, nI_inj (by omega) (by omega)]; omega
  -- what the one side comes to
  have ex : ∃ hx, (∀ Q, WP 99 mX7_readInto 37 (riL q 0) [] h1 Q = Q none (s_i hx 86 1 0)) ∧ cX q h1 hx := by
    obtain ⟨w, hr0, a1, a2, a3, a4, a5, a6, a7, a8, a9, a10⟩ := rt_beg (d := 0) hR en hn (fun j hj => ⟨(ht j hj).2.2, (ht j hj).2.1⟩) (nt h eu)
    rw [← eT] at a2
    rcases loop_at (d := 0) (e := 34) T.length 0 0 0 0 h1 hr0 (by omega) (clS_0 C h14 h1l h13 a2 a3 a4 a5 a6) with ⟨j', c', g', K', hc', hr', x, b1, b2, b3, b4, b5, b6, b7⟩ | ⟨f, s, hc', hr', b1, b2, b3, b4⟩
    · exact ⟨hc', b1, b5⟩
    · exact ⟨hc', b1, b2.2.1⟩
  obtain ⟨hx, rx, Xx⟩ := ex
  obtain ⟨G, eG⟩ : ∃ G, G = s_i hx 86 1 0 := ⟨_, rfl⟩
  rw [← eG] at rx
  have rd : ∀ Q, Cal 99 mX7_readInto [.ref 86, .ref (94 + 8 * u)] h Q = Q none G := fun Q => by rw [← eq, rb, rx]
  have sG : a_t G = a_t h ∧ (∀ p j, ¬ (p = 86 ∧ j = 4) → a_r G p j = a_r h p j) ∧ G.1 = h.1 ∧ a_l G = a_l h := by
    have x1 : a_t G = a_t hx := by rw [eG]; rfl
    have x2 : a_r G = a_r hx := by rw [eG]; rfl
    have x3 : G.1 = hx.1 := by rw [eG]; rfl
    have x4 : a_l G = a_l hx := by rw [eG]; rfl
    exact ⟨x1.trans (Xx.1.1.trans h1t), fun p j m => by rw [x2, Xx.1.2.1]; exact h1r p j m, x3.trans (Xx.1.2.2.trans h11), x4.trans (Xx.2.1.trans h1al)⟩
  have Gi : ∀ p i, ¬ (p = 86 ∧ (i = 1 ∨ i = 2 ∨ i = 3 ∨ i = 5 ∨ (9 ≤ i ∧ i ≤ 13))) → ¬ (88 ≤ p ∧ p ≤ 90) → ¬ (q ≤ p ∧ p ≤ q + 7) → a_i G p i = a_i h p i := fun p i m1 m2 m3 => by
    rw [eG, ine (by omega), Xx.2.2 _ _ (by omega) m3, h1i _ _ (by omega) m2 m3]
  have hCG : sh_C (a_t G) (a_r G) := sh_C_fr (fun p _ => by rw [sG.1]) (fun p j _ m => sG.2.1 p j (by omega)) hC
  have hRG : sh_R (a_t G) (a_r G) := sh_R_fr (fun p _ => by rw [sG.1]) (fun p j _ m => sG.2.1 p j (by omega)) hR
  have cx := cx_text hC e16 lu rd hCG ((Gi _ _ (by omega) (by omega) (by omega)).trans e16)
  -- any heap that is as G is to the other side
  have two : ∀ B : am_h, sm G B → a_l B = a_l G → (∀ p i, ¬ (p = 1 ∧ i = 6) → a_i B p i = a_i G p i) →
      (∃ (j' c' g' K' : Nat) (hc' hr0 hr' : am_h) (x : Nat × Nat × Nat), G = s_i hc' 86 1 0 ∧ (∀ Q, Cal 100 mX12_text [.ref 126] B Q = LPH 90 hr' Q) ∧ clS t n T q j' c' g' K' hc' hr' ∧ T[j']? = some x ∧ x.1 = 0 ∧ (sm B hr0 ∧ a_l hr0 = a_l B ∧ a_i hr0 126 3 = 0 ∧ ∀ p i, ¬ (p = 126 ∧ (i = 3 ∨ (14 ≤ i ∧ i ≤ 37))) → a_i hr0 p i = a_i B p i) ∧ rX hr0 hr')
      ∨ ∃ (f s : Int32) (hr0 hr' : am_h), (¬ f = 0 ∧ a_i G 86 2 = f ∧ a_i G 86 3 = s) ∧ (∀ Q, Cal 100 mX12_text [.ref 126] B Q = LPH 90 hr' Q) ∧ (sm B hr0 ∧ a_l hr0 = a_l B ∧ a_i hr0 126 3 = 0 ∧ ∀ p i, ¬ (p = 126 ∧ (i = 3 ∨ (14 ≤ i ∧ i ≤ 37))) → a_i hr0 p i = a_i B p i) ∧ flR f s hr0 hr' := fun B sB lB iB => by
    have Bi : ∀ p i, 126 ≤ p → a_i B p i = a_i h p i := fun p i lp => (iB _ _ (by omega)).trans (Gi _ _ (by omega) (by omega) (by omega))
    have hRB : sh_R (a_t B) (a_r B) := by rw [sB.1, sB.2.1]; exact hRG
    obtain ⟨w, hr0, a1, a2, a3, a4, a5, a6, a7, a8, a9, a10⟩ := rt_beg (d := 90) (t := t) (n := n) hRB ((Bi _ _ (by omega)).trans en) hn (fun j hj => ⟨(Bi _ _ (by omega)).trans (ht j hj).2.2, (ht j hj).2.1⟩) (nt B ((Bi _ _ (by omega)).trans eu))
    rw [← eT] at a2
    rcases loop_at (d := 90) (e := 34) T.length 0 0 0 0 h1 hr0 (by omega) (clS_0 C h14 h1l h13 a2 a3 a4 a5 a6) with ⟨j', c', g', K', hc', hr', x, b1, b2, b3, b4, b5, b6, b7⟩ | ⟨f, s, hc', hr', b1, b2, b3, b4⟩
    · exact Or.inl ⟨j', c', g', K', hc', hr0, hr', x, wp_one rx b1, fun Q => by rw [a1, b7], b2, b3, b4, ⟨a8, a9, a7, a10⟩, b6⟩
    · have eGc : G = s_i hc' 86 1 0 := wp_one rx b1
      refine Or.inr ⟨f, s, hr0, hr', ⟨b2.1, ?_, ?_⟩, fun Q => by rw [a1, b3], ⟨a8, a9, a7, a10⟩, b4⟩
      · rw [eGc, ine (by omega)]; exact b2.2.2.1
      · rw [eGc, ine (by omega)]; exact b2.2.2.2.1
  have tape0 : ∀ H : am_h, a_i H 86 1 = 0 → a_i H 126 3 = 0 → a_i H 86 2 = a_i H 126 4 → a_i H 86 3 = a_i H 126 5 → rTp (a_i H) := fun H z1 z2 z3 z4 => by
    refine ⟨z1.trans z2.symm, ?_, z3, z4, fun k lk => ?_⟩
    · rw [z2]
      exact ⟨by decide, by decide⟩
    · rw [z2, show Nn 0 = 0 from rfl] at lk
      exact absurd lk (Nat.not_lt_zero _)
  have G1 : a_i G 86 1 = 0 := by rw [eG]; exact ieq rfl rfl
  by_cases z : a_i G 86 2 = 0
  · -- it stands
    obtain ⟨B, eB⟩ : ∃ B, B = s_i G 1 6 (nI (u + 1)) := ⟨_, rfl⟩
    rcases two B (by rw [eB]; exact ⟨rfl, rfl, rfl⟩) (by rw [eB]; rfl) (fun p i m => by rw [eB]; exact ine m) with ⟨j', c', g', K', hc', hr0, hr', x, y1, y2, y3, y4, y5, y6, y7⟩ | ⟨f, s, hr0, hr', y1, y2, y3, y4⟩
    · obtain ⟨Cc, ⟨w, P⟩, KK, s28, s30, c4', lK, lg, R, m3, m20⟩ := y3
      have ln := Cc.len
      have lc := Cc.2.2.2.2.2.1
      obtain ⟨s0, l0, t0, i0⟩ := y6
      have hk : a_i hr' 126 17 = 0 := by
        rcases (P.tk y4).2 with ⟨k1, k2⟩ | ⟨k1, k2, -⟩ | ⟨k1, -⟩ | ⟨k1, -⟩ | ⟨k1, -⟩
        · exact k2
        · omega
        · omega
        · omega
        · omega
      have Bo : ∀ p i, ¬ (p = 126 ∧ (i = 3 ∨ (14 ≤ i ∧ i ≤ 37))) → ¬ (138 ≤ p ∧ p ≤ 149) → a_i hr' p i = a_i B p i := fun p i m1 m2 => (y7.2.2 _ _ (by omega) m2).trans (i0 _ _ m1)
      have hu' : a_i hr' 127 1 = nI u := (Bo _ _ (by omega) (by omega)).trans (by rw [eB, ine (by omega)]; exact (Gi _ _ (by omega) (by omega) (by omega)).trans eu)
      obtain ⟨H, z1, z2, z3, z4, z5, z6, z7, z8, z9, z10⟩ := rt_ok (d := 90) P.R P.2.1 m20 s28 hk hu' lu s30 lK KK.2.2.2.1 (by omega)
      have Hb : ∀ p i, (p < 126 ∨ 150 ≤ p) → a_i H p i = a_i B p i := fun p i lp => (z10 _ _ (by omega) (by omega) (by omega) (by omega) (by omega)).trans (Bo _ _ (by omega) (by omega))
      have HG : ∀ p i, (p < 126 ∨ 150 ≤ p) → ¬ (p = 1 ∧ i = 6) → a_i H p i = a_i G p i := fun p i lp m => (Hb p i lp).trans (by rw [eB]; exact ine m)
      have H3 : a_i H 126 3 = 0 := (z10 _ _ (by omega) (by omega) (by omega) (by omega) (by omega)).trans ((y7.2.2 _ _ (by omega) (by omega)).trans t0)
      have Hh : ∀ p i, ¬ (p = 86 ∨ (88 ≤ p ∧ p ≤ 90) ∨ (94 ≤ p ∧ p ≤ 126) ∨ (130 ≤ p ∧ p ≤ 149) ∨ (p = 127 ∧ i = 1) ∨ (p = 1 ∧ i = 6)) → a_i H p i = a_i h p i := fun p i m => by
        rw [z10 _ _ (by omega) (by omega) (by omega) (by omega) (by omega), Bo _ _ (by omega) (by omega), eB, ine (by omega), Gi _ _ (by omega) (by omega) (by omega)]
      have sH : sm B H := s0.tr (y7.1.tr z2)
      have sB : sm G B := by rw [eB]; exact ⟨rfl, rfl, rfl⟩
      refine ⟨nI u, B, H, fun Q => by rw [cx, if_pos z, eB], fun Q => by rw [y2, z1], Inv_tx k ((sB.tr sH).1.trans sG.1) ((sB.tr sH).2.2.trans sG.2.2.1) (fun p j m => by rw [(sB.tr sH).2.1]; exact sG.2.1 p j m) ?_ Hh (tape0 H ?_ H3 ?_ ?_) ?_ ?_ ?_ (fun v lv => ?_)⟩
      · rw [z3, y7.2.1, l0, eB]
        exact sG.2.2.2
      · rw [HG _ _ (by omega) (by omega)]; exact G1
      · rw [HG _ _ (by omega) (by omega), z, z4]
      · rw [HG _ _ (by omega) (by omega), y1, ine (by omega), m3, z5]
      · rw [Hb _ _ (by omega), eB, ieq rfl rfl, z7]
      · rw [z7]
        unfold bt
        rw [nI_i (by omega)]
        omega
      · rw [z7, eu, nI_i (by omega), nI_i (by omega)]
        omega
      · rw [z7, Nn_n (by omega)] at lv
        by_cases ev : v = u
        · subst ev
          refine rTx_new eq R lK (by omega) (by omega) c4' (fun k j lk => ?_) z6 z8 z9
          rw [HG _ _ (by omega) (by omega), y1, ine (by omega)]
        · have old := k.2.2.2.2.2 v (by rw [eu, Nn_n (by omega)]; omega)
          have o : ∀ p i, 130 ≤ p → p ≤ 137 → a_i B p i = a_i h p i := fun p i p1 p2 => by
            rw [eB, ine (by omega), Gi _ _ (by omega) (by omega) (by omega)]
          refine rTx_f2 (fun k j lk => ?_) ?_ (fun p i p1 p2 li => ?_) (fun p i p1 li => ?_) old
          · rw [HG _ _ (by omega) (by omega), Gi _ _ (by omega) (by omega) (by omega)]
          · rw [z10 _ _ (by omega) (by omega) (by omega) (by omega) (by omega), Bo _ _ (by omega) (by omega), o _ _ (by omega) (by omega)]
          · rw [z10 _ _ (by omega) (by omega) (by omega) (by omega) (by omega), Bo _ _ (by omega) (by omega), o _ _ (by omega) (by omega)]
          · rw [z10 _ _ (by omega) (by omega) (by omega) (by omega) (by omega), Bo _ _ (by omega) (by omega), o _ _ (by omega) (by omega)]
    · exact absurd (y1.2.1.symm.trans z) y1.1
  · -- it doesn't
    rcases two G sm.rf rfl (fun _ _ _ => rfl) with ⟨j', c', g', K', hc', hr0, hr', x, y1, y2, y3, y4, y5, y6, y7⟩ | ⟨f, s, hr0, hr', y1, y2, y3, y4⟩
    · refine absurd ?_ z
      rw [y1, ine (by omega)]
      exact y3.1.2.2.1
    · obtain ⟨s0, l0, t0, i0⟩ := y3
      have hR' : sh_R (a_t hr') (a_r hr') := by rw [y4.2.1.1, y4.2.1.2.1, s0.1, s0.2.1]; exact hRG
      have rb2 := rt_bad (d := 90) y4 hR'
      obtain ⟨H, eH⟩ : ∃ H, H = s_i (s_i hr' 126 4 f) 126 5 s := ⟨_, rfl⟩
      rw [← eH] at rb2
      have Ho : ∀ p i, ¬ (p = 126 ∧ (i = 3 ∨ i = 4 ∨ i = 5 ∨ (14 ≤ i ∧ i ≤ 37))) → ¬ (138 ≤ p ∧ p ≤ 149) → a_i H p i = a_i G p i := fun p i m1 m2 => by
        rw [eH, ine (by omega), ine (by omega), y4.2.2.2.2.2 _ _ (by omega) m2, i0 _ _ (by omega)]
      have sH : sm G H := by
        have : sm G hr' := s0.tr y4.2.1
        rw [eH]
        exact ⟨this.1, this.2.1, this.2.2⟩
      have H1 : a_i H 127 1 = nI u := (Ho _ _ (by omega) (by omega)).trans ((Gi _ _ (by omega) (by omega) (by omega)).trans eu)
      refine ⟨-1, G, H, fun Q => by rw [cx, if_neg z], fun Q => by rw [y2, rb2], Inv_tx k (sH.1.trans sG.1) (sH.2.2.trans sG.2.2.1) (fun p j m => by rw [sH.2.1]; exact sG.2.1 p j m) ?_ (fun p i m => ?_) (tape0 H ?_ ?_ ?_ ?_) ?_ ?_ ?_ (fun v lv => ?_)⟩
      · have : a_l H = a_l hr' := by rw [eH]; rfl
        rw [this, y4.2.2.1, l0]
        exact sG.2.2.2
      · rw [Ho _ _ (by omega) (by omega), Gi _ _ (by omega) (by omega) (by omega)]
      · rw [Ho _ _ (by omega) (by omega)]; exact G1
      · rw [eH, ine (by omega), ine (by omega), y4.2.2.2.2.2 _ _ (by omega) (by omega)]; exact t0
      · rw [Ho _ _ (by omega) (by omega), y1.2.1, eH, ine (by omega), ieq rfl rfl]
      · rw [Ho _ _ (by omega) (by omega), y1.2.2, eH, ieq rfl rfl]
      · rw [H1, Ho _ _ (by omega) (by omega), Gi _ _ (by omega) (by omega) (by omega)]; exact e16
      · rw [H1, ← eu]; exact r5.2.1
      · rw [H1, eu]; exact Int.le_refl _
      · rw [H1, Nn_n (by omega)] at lv
        have old := k.2.2.2.2.2 v (by rw [eu, Nn_n (by omega)]; exact lv)
        refine rTx_fr (fun k j lk => ?_) (fun k j k1 k2 => ?_) old
        · rw [Ho _ _ (by omega) (by omega), Gi _ _ (by omega) (by omega) (by omega)]
        · rw [Ho _ _ (by omega) (by omega), Gi _ _ (by omega) (by omega) (by omega)]
theorem i_vc : Claimed_1_1 ∧ Claimed_1_2 := i_vc_open txt
end TEXT
