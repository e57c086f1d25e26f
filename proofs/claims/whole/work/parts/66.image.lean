/-! image, back -/
section IMAGE
variable {X : PX} {h : am_h} {d : Nat}
theorem ShI_w {p : Nat} {f : Nat → Int32} (k : ShI X h) (hp : p < 177) : ShI X (s_w h p f) := by
  refine ShI_sm k ⟨rfl, rfl, rfl⟩ (fun q0 e k' j hk => ?_)
  have s4 := k.2.2.2.1
  unfold rPr at s4
  rcases s4 with z | ⟨q, q1, q2, q3, q4, q5⟩
  · rw [z] at e; exact absurd e (by simp)
  · rw [q1] at e
    injection e with e
    subst e
    rw [iwn (by omega)]
theorem rC_w {o p : Nat} {f g : Nat → Int32} (sh : ShI X h) (ho : o = 0 ∨ o = 33) (hp : 126 ≤ p ∧ p < 177) (k : rC (a_i h) (a_l h) (a_r h) o g) : rC (a_i (s_w h p f)) (a_l (s_w h p f)) (a_r (s_w h p f)) o g := by
  refine rC_g (fun k j h1 h2 => by rw [iwn (by omega)]) (fun k _ _ => rfl) (fun i q hi hq => ?_) (fun i q hi hn' hq => ?_) (fun _ _ => rfl) k
  · have y := (sh.2.2.1.2.1 o i q ho hi hq).1
    exact ⟨hq, fun k j _ => by rw [iwn (by omega)], fun e _ => rfl⟩
  · have hq' : a_r h (25 + o) i = some q := hq
    rw [hn'] at hq'
    exact absurd hq' (by simp)
set_option maxRecDepth 20000 in
set_option maxHeartbeats 1000000 in
theorem op_image (k : Inv X h) : opS X (d + 4) mX11_image mX12_image [.ref 0] [.ref 126] h := by
  have hC := k.1.1
  have kf := k.e
  obtain ⟨h1, r1, s1, c1, f1, l1, a1⟩ := cp_state (d := d) (o := 33) (o' := 0) k.1 (Or.inr ⟨rfl, rfl⟩) k.2.1 k.2.2.1.2.2.2.1.2.2
  have hC1 := s1.1
  have hR1 := s1.2.1
  have e127 : a_i h1 127 = a_i h 127 := funext fun j => (f1 127 j (by omega) (by omega)).1
  have e128 : a_i h1 128 = a_i h 128 := funext fun j => (f1 128 j (by omega) (by omega)).1
  have h70 : a_i h1 7 0 = a_i h 127 91 := by rw [(f1 7 0 (by omega) (by omega)).1]; simp [kf]
  refine ⟨a_i h 127 91, h1, s_w h1 128 (CP (a_i h 127) (a_i h 128)), fun Q => ?_, fun Q => ?_, ?_⟩
  · unfold Cal
    rw [l_X11_image]
    simp only [am_en, am_ag, ct_i, ct_r, ct_l, List.length_cons, List.length_nil, List.replicate]
    simp [w_aload_n0 (M := mX11_image) dX11_image_0, w_getO (M := mX11_image) dX11_image_1 f_11_16 rfl (by decide) (by decide), w_aload_n0 (M := mX11_image) dX11_image_4, w_getO (M := mX11_image) dX11_image_5 f_11_10 rfl (by decide) (by decide), c_11_244 (M := mX11_image) dX11_image_8 rfl, w_aload_n0 (M := mX11_image) dX11_image_11, w_getO (M := mX11_image) dX11_image_12 f_11_10 rfl (by decide) (by decide), w_getO (M := mX11_image) dX11_image_15 f_11_82 rfl (by decide) (by decide), w_getI (M := mX11_image) dX11_image_18 f_11_127 rfl (by decide) (by decide), w_iret (M := mX11_image) dX11_image_21 rfl, Kn_v_, Kn_n_, kl_i_, kl_a_, kl_l_, kl_n_, s1_0_, s2_0_, s1_1, s1_2, s1_3, s1_4, s1_5, s1_6, s1_7, s1_8, s1_9, s1_10, s1_11, s1_12, s1_13, s1_14, s2_1, s2_2, s2_3, s2_4, s2_5, s2_6, s2_7, s2_8, s2_9, s2_10, s2_11, s2_12, s2_13, s2_14, List.map_nil, List.map_cons, List.sum_nil, List.sum_cons, ct_i_, ct_r_, ct_l_, t_si_, t_sl_, t_sr_, n_si_, n_sl_, n_sr_, i_si_, i_sl_, i_sr_, l_si_, l_sl_, l_sr_, r_si_, r_sl_, r_sr_, vr_s_, vr_n_, nz_0_, nz_1_, hC.e, r1, hC1.e, h70]
  · have cc : ∀ Q, Cal (d + 3) mX12_copies [.ref 126, .int 1] h1 Q = Q none (s_w h1 128 (CP (a_i h 127) (a_i h 128))) := by
      intro Q
      have := q_X12_copies_t (d := d + 3) (Q := Q) (h := h1) (eq_true hR1)
      rw [e127, e128] at this
      exact this
    unfold Cal
    rw [l_X12_image]
    simp only [am_en, am_ag, ct_i, ct_r, ct_l, List.length_cons, List.length_nil, List.replicate]
    simp [w_aload_n0 (M := mX12_image) dX12_image_0, w_iconst (M := mX12_image) (v := 1) dX12_image_1 rfl, c_12_169 (M := mX12_image) dX12_image_2 rfl, w_aload_n0 (M := mX12_image) dX12_image_5, w_getA (M := mX12_image) dX12_image_6 f_12_7 rfl (by decide) (by decide), w_bipush (M := mX12_image) (v := 91) dX12_image_9 rfl, w_iaload (M := mX12_image) dX12_image_11, w_iret (M := mX12_image) dX12_image_12 rfl, Kn_v_, Kn_n_, kl_i_, kl_a_, kl_l_, kl_n_, s1_0_, s2_0_, s1_1, s1_2, s1_3, s1_4, s1_5, s1_6, s1_7, s1_8, s1_9, s1_10, s1_11, s1_12, s1_13, s1_14, s2_1, s2_2, s2_3, s2_4, s2_5, s2_6, s2_7, s2_8, s2_9, s2_10, s2_11, s2_12, s2_13, s2_14, List.map_nil, List.map_cons, List.sum_nil, List.sum_cons, ct_i_, ct_r_, ct_l_, t_si_, t_sl_, t_sr_, n_si_, n_sl_, n_sr_, i_si_, i_sl_, i_sr_, l_si_, l_sl_, l_sr_, r_si_, r_sl_, r_sr_, vr_s_, vr_n_, nz_0_, nz_1_, hR1.e, cc, t_sw_, r_sw_, i_sw_, e127, am_in1]
  · have hg : ∀ j, j < 20150 → CP (a_i h 127) (a_i h 128) j = a_i h 127 j := fun j hj => if_pos hj
    have sw := ShI_w (p := 128) (f := CP (a_i h 127) (a_i h 128)) s1 (by omega)
    have vI : ∀ q j, ¬ q = 128 → q < 177 → ¬ (34 ≤ q ∧ q ≤ 66) → a_i (s_w h1 128 (CP (a_i h 127) (a_i h 128))) q j = a_i h q j := by
      intro q j z1 z2 z3
      rw [iwn z1]
      exact (f1 q j z2 (by omega)).1
    refine ⟨sw, ?_, ?_, ?_, ?_, ?_⟩
    · rw [iwn (by omega), e127]
      refine rC_w s1 (Or.inl rfl) (by omega) ?_
      refine rC_g (fun k j z1 z2 => (f1 _ j (by omega) (by omega)).1) (fun k z1 z2 => (f1 _ 13 (by omega) (by omega)).2) (fun i q hi hq => ?_) (fun i q hi hn' hq => ?_) (fun _ _ => rfl) k.2.1
      · have z := l1 i q hi hq
        refine ⟨by rw [a1 _ _ (by omega) (by omega)]; exact hq, z.1, fun e he => ?_⟩
        have := z.2 (5 + e) (by omega)
        rw [← Nat.add_assoc] at this
        exact this
      · rw [a1 _ _ (by omega) (by omega), hn'] at hq
        exact absurd hq (by simp)
    · rw [iwe rfl]
      exact rC_w s1 (Or.inr rfl) (by omega) (c1 _ hg)
    · exact rTp_fr (fun j => vI _ _ (by omega) (by omega) (by omega)) (fun j => vI _ _ (by omega) (by omega) (by omega)) (fun j _ => vI _ _ (by omega) (by omega) (by omega)) (fun j => vI _ _ (by omega) (by omega) (by omega)) k.2.2.2.1
    · rw [iwe rfl, hg 1 (by omega), vI 127 1 (by omega) (by omega) (by omega)]
      exact Int.le_refl _
    · intro t ht
      rw [vI 127 1 (by omega) (by omega) (by omega)] at ht
      have b1 := bt_n (m := 4) k.2.1.1.2.2.2.2.2.1 (by omega) (by omega)
      exact rTx_fr (fun k j hk => vI _ _ (by omega) (by omega) (by omega)) (fun k j h1 h2 => vI _ _ (by omega) (by omega) (by omega)) (k.2.2.2.2.2 t ht)
set_option maxRecDepth 20000 in
set_option maxHeartbeats 1000000 in
theorem op_back (k : Inv X h) : opS X (d + 4) mX11_back mX12_back [.ref 0] [.ref 126] h := by
  have hC := k.1.1
  have kf := k.e
  obtain ⟨h1, r1, s1, c1, f1, l1, a1⟩ := cp_state (d := d) (o := 0) (o' := 33) k.1 (Or.inl ⟨rfl, rfl⟩) k.2.2.1 k.2.1.2.2.2.1.2.2
  have hC1 := s1.1
  have hR1 := s1.2.1
  have e127 : a_i h1 127 = a_i h 127 := funext fun j => (f1 127 j (by omega) (by omega)).1
  have e128 : a_i h1 128 = a_i h 128 := funext fun j => (f1 128 j (by omega) (by omega)).1
  have hg : ∀ j, j < 20150 → CP (a_i h 128) (a_i h 127) j = a_i h 128 j := fun j hj => if_pos hj
  have h70 : a_i h1 7 0 = a_i h 128 91 := (c1 _ (fun _ _ => rfl)).2.1.1
  refine ⟨a_i h 128 91, h1, s_w h1 127 (CP (a_i h 128) (a_i h 127)), fun Q => ?_, fun Q => ?_, ?_⟩
  · unfold Cal
    rw [l_X11_back]
    simp only [am_en, am_ag, ct_i, ct_r, ct_l, List.length_cons, List.length_nil, List.replicate]
    simp [w_aload_n0 (M := mX11_back) dX11_back_0, w_getO (M := mX11_back) dX11_back_1 f_11_10 rfl (by decide) (by decide), w_aload_n0 (M := mX11_back) dX11_back_4, w_getO (M := mX11_back) dX11_back_5 f_11_16 rfl (by decide) (by decide), c_11_244 (M := mX11_back) dX11_back_8 rfl, w_aload_n0 (M := mX11_back) dX11_back_11, w_getO (M := mX11_back) dX11_back_12 f_11_10 rfl (by decide) (by decide), w_getO (M := mX11_back) dX11_back_15 f_11_82 rfl (by decide) (by decide), w_getI (M := mX11_back) dX11_back_18 f_11_127 rfl (by decide) (by decide), w_iret (M := mX11_back) dX11_back_21 rfl, Kn_v_, Kn_n_, kl_i_, kl_a_, kl_l_, kl_n_, s1_0_, s2_0_, s1_1, s1_2, s1_3, s1_4, s1_5, s1_6, s1_7, s1_8, s1_9, s1_10, s1_11, s1_12, s1_13, s1_14, s2_1, s2_2, s2_3, s2_4, s2_5, s2_6, s2_7, s2_8, s2_9, s2_10, s2_11, s2_12, s2_13, s2_14, List.map_nil, List.map_cons, List.sum_nil, List.sum_cons, ct_i_, ct_r_, ct_l_, t_si_, t_sl_, t_sr_, n_si_, n_sl_, n_sr_, i_si_, i_sl_, i_sr_, l_si_, l_sl_, l_sr_, r_si_, r_sl_, r_sr_, vr_s_, vr_n_, nz_0_, nz_1_, hC.e, r1, hC1.e, h70]
  · have cc : ∀ Q, Cal (d + 3) mX12_copies [.ref 126, .int 0] h1 Q = Q none (s_w h1 127 (CP (a_i h 128) (a_i h 127))) := by
      intro Q
      have := q_X12_copies_f (d := d + 3) (Q := Q) (h := h1) (eq_true hR1)
      rw [e127, e128] at this
      exact this
    have g91 := hg 91 (by omega)
    unfold Cal
    rw [l_X12_back]
    simp only [am_en, am_ag, ct_i, ct_r, ct_l, List.length_cons, List.length_nil, List.replicate]
    simp [w_aload_n0 (M := mX12_back) dX12_back_0, w_iconst (M := mX12_back) (v := 0) dX12_back_1 rfl, c_12_169 (M := mX12_back) dX12_back_2 rfl, w_aload_n0 (M := mX12_back) dX12_back_5, w_getA (M := mX12_back) dX12_back_6 f_12_7 rfl (by decide) (by decide), w_bipush (M := mX12_back) (v := 91) dX12_back_9 rfl, w_iaload (M := mX12_back) dX12_back_11, w_iret (M := mX12_back) dX12_back_12 rfl, Kn_v_, Kn_n_, kl_i_, kl_a_, kl_l_, kl_n_, s1_0_, s2_0_, s1_1, s1_2, s1_3, s1_4, s1_5, s1_6, s1_7, s1_8, s1_9, s1_10, s1_11, s1_12, s1_13, s1_14, s2_1, s2_2, s2_3, s2_4, s2_5, s2_6, s2_7, s2_8, s2_9, s2_10, s2_11, s2_12, s2_13, s2_14, List.map_nil, List.map_cons, List.sum_nil, List.sum_cons, ct_i_, ct_r_, ct_l_, t_si_, t_sl_, t_sr_, n_si_, n_sl_, n_sr_, i_si_, i_sl_, i_sr_, l_si_, l_sl_, l_sr_, r_si_, r_sl_, r_sr_, vr_s_, vr_n_, nz_0_, nz_1_, hR1.e, cc, t_sw_, r_sw_, i_sw_, am_in1, g91]
  · have sw := ShI_w (p := 127) (f := CP (a_i h 128) (a_i h 127)) s1 (by omega)
    have vI : ∀ q j, ¬ q = 127 → q < 177 → ¬ (1 ≤ q ∧ q ≤ 33) → a_i (s_w h1 127 (CP (a_i h 128) (a_i h 127))) q j = a_i h q j := by
      intro q j z1 z2 z3
      rw [iwn z1]
      exact (f1 q j z2 (by omega)).1
    refine ⟨sw, ?_, ?_, ?_, ?_, ?_⟩
    · rw [iwe rfl]
      exact rC_w s1 (Or.inl rfl) (by omega) (c1 _ hg)
    · rw [iwn (by omega), e128]
      refine rC_w s1 (Or.inr rfl) (by omega) ?_
      refine rC_g (fun k j z1 z2 => (f1 _ j (by omega) (by omega)).1) (fun k z1 z2 => (f1 _ 13 (by omega) (by omega)).2) (fun i q hi hq => ?_) (fun i q hi hn' hq => ?_) (fun _ _ => rfl) k.2.2.1
      · have z := l1 i q hi hq
        refine ⟨by rw [a1 _ _ (by omega) (by omega)]; exact hq, z.1, fun e he => ?_⟩
        have := z.2 (5 + e) (by omega)
        rw [← Nat.add_assoc] at this
        exact this
      · rw [a1 _ _ (by omega) (by omega), hn'] at hq
        exact absurd hq (by simp)
    · exact rTp_fr (fun j => vI _ _ (by omega) (by omega) (by omega)) (fun j => vI _ _ (by omega) (by omega) (by omega)) (fun j _ => vI _ _ (by omega) (by omega) (by omega)) (fun j => vI _ _ (by omega) (by omega) (by omega)) k.2.2.2.1
    · rw [iwe rfl, hg 1 (by omega), vI 128 1 (by omega) (by omega) (by omega)]
      exact Int.le_refl _
    · intro t ht
      rw [iwe rfl, hg 1 (by omega)] at ht
      have b1 := bt_n (m := 4) k.2.1.1.2.2.2.2.2.1 (by omega) (by omega)
      have b2 := bt_i k.2.1.1.2.2.2.2.2.1 (by omega)
      have b3 := bt_i k.2.2.1.1.2.2.2.2.2.1 (by omega)
      have tn := k.2.2.2.2.1
      exact rTx_fr (fun k j hk => vI _ _ (by omega) (by omega) (by omega)) (fun k j h1 h2 => vI _ _ (by omega) (by omega) (by omega)) (k.2.2.2.2.2 t (by omega))
end IMAGE
