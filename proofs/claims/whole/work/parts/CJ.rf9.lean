/-! two fresh ends: comesOf of the other side -/
section RF9
variable {d : Nat} {h y y' : am_h} {m : FMo} {e o T f F b p w v n B i : Nat}
theorem rlf.K (k : rff h y) (K : RK m h) : RK m y := K.fr k
/-- one that doesn't end speaks on -/
theorem sp_on (h1 : 1 ≤ m.2.1 (1 - e)) (hB : spkn m e B = true) : ∀ k, (∀ t, B < t → t ≤ B + k → enA m e t = 0) → spkn m e (B + k) = true := by
  intro k
  induction k with
  | zero => intro _; exact hB
  | succ k ih =>
    intro c
    refine (fk_ev (T := B + k) h1).1.mpr (Or.inr ⟨ih (fun t t1 t2 => c t t1 (by omega)), c (B + k + 1) (by omega) (by omega)⟩)
def clrF (m : FMo) (e t : Nat) : Prop := t + m.2.1 e ≤ 999 ∧ spkn m e t = true ∧ spkn m (1 - e) (t + m.2.1 e) = false
theorem CT_sd (h1 : 1 ≤ m.2.1 (1 - e)) (hg : 1 ≤ m.2.1 e) (hL : 1 ≤ m.2.2.1) (hb : bgA m e B = true) : CTp m e B ↔ sdP m e B 999 ∧ ∀ t, B ≤ t → t < B + m.2.2.1 → clrF m e t := by
  constructor
  · rintro ⟨c1, c2, c3, c4, c5⟩
    refine ⟨⟨by omega, c2, c3⟩, fun t t1 t2 => ⟨by omega, ?_, c5 t t1 t2⟩⟩
    have := sp_on h1 (bg_sp h1 hb) (t - B) (fun t' a1 a2 => c3 t' a1 (by omega))
    rw [show B + (t - B) = t by omega] at this
    exact this
  · rintro ⟨⟨c1, c2, c3⟩, c4⟩
    have z := (c4 (B + m.2.2.1 - 1) (by omega) (by omega)).1
    exact ⟨hb, c2, c3, by omega, fun t t1 t2 => (c4 t t1 t2).2.2⟩
set_option maxRecDepth 20000 in
set_option maxHeartbeats 4000000 in
theorem f_cameThrough (k : RK m y) (C : CCf m 999 y) (h1 : 1 ≤ m.2.1 (1 - e)) (hg : 1 ≤ m.2.1 e) (hL : 1 ≤ m.2.2.1) (hL2 : m.2.2.1 ≤ 99) (hi : i < 2200) (he : e < 2) (hB : B ≤ 999) (i9 : a_i y 169 i = nI e) (i0 : a_i y 170 i = nI B) (hb : bgA m e B = true) (s1 : sdP m e B 999 → a_i y 171 i = 1) (s0 : ¬ sdP m e B 999 → a_i y 171 i = 0) : ∃ c : Bool, (∀ Q, Cal d mX12_cameThrough [.ref 126, .int (nI i)] y Q = Q (some (.int (bI c))) y) ∧ (c = true ↔ CTp m e B) := by
  have kl := k.2.2.2.1
  have kR := k.1
  have ix : am_in1 (nI i) 2200 = True := by rw [in1_n (by omega)]; exact eq_true hi
  have a1 : nI B + nI m.2.2.1 = nI (B + m.2.2.1) := nI_a
  rw [CT_sd h1 hg hL hb]
  by_cases sd : sdP m e B 999
  · have key : ∀ k t, t + k = B + m.2.2.1 → ∃ c : Bool, (∀ Q, WP d mX12_cameThrough 18 [some (.ref 126), some (.int (nI i)), some (.int (nI t))] [] y Q = Q (some (.int (bI c))) y) ∧ (c = true ↔ ∀ t', t ≤ t' → t' < B + m.2.2.1 → clrF m e t') := by
      intro k
      induction k with
      | zero =>
        intro t e1
        refine ⟨true, fun Q => ?_, fun _ t' t1 t2 => by omega, fun _ => rfl⟩
        have g : (nI t < nI (B + m.2.2.1)) = False := nI_ltF (by omega) (by omega)
        simp [w_aload_n0 (M := mX12_cameThrough) dX12_cameThrough_0, w_getA (M := mX12_cameThrough) dX12_cameThrough_1 f_12_151 rfl (by decide) (by decide), w_iload_n1 (M := mX12_cameThrough) dX12_cameThrough_4, w_iaload (M := mX12_cameThrough) dX12_cameThrough_5, w_if_ne (M := mX12_cameThrough) (tgt := 11) dX12_cameThrough_6 (by decide), w_iconst (M := mX12_cameThrough) (v := 0) dX12_cameThrough_9 rfl, w_ireturn (M := mX12_cameThrough) dX12_cameThrough_10 rfl, w_aload_n0 (M := mX12_cameThrough) dX12_cameThrough_11, w_getA (M := mX12_cameThrough) dX12_cameThrough_12 f_12_148 rfl (by decide) (by decide), w_iload_n1 (M := mX12_cameThrough) dX12_cameThrough_15, w_iaload (M := mX12_cameThrough) dX12_cameThrough_16, w_istore_n (M := mX12_cameThrough) (i := 2) dX12_cameThrough_17 rfl (by decide), w_iload_n2 (M := mX12_cameThrough) dX12_cameThrough_18, w_aload_n0 (M := mX12_cameThrough) dX12_cameThrough_19, w_getA (M := mX12_cameThrough) dX12_cameThrough_20 f_12_148 rfl (by decide) (by decide), w_iload_n1 (M := mX12_cameThrough) dX12_cameThrough_23, w_iaload (M := mX12_cameThrough) dX12_cameThrough_24, w_aload_n0 (M := mX12_cameThrough) dX12_cameThrough_25, w_getI (M := mX12_cameThrough) dX12_cameThrough_26 f_12_472 rfl (by decide) (by decide), w_iadd (M := mX12_cameThrough) dX12_cameThrough_29, w_ic_ge (M := mX12_cameThrough) (tgt := 61) dX12_cameThrough_30 (by decide), w_aload_n0 (M := mX12_cameThrough) dX12_cameThrough_33, w_getA (M := mX12_cameThrough) dX12_cameThrough_34 f_12_142 rfl (by decide) (by decide), w_sipush (M := mX12_cameThrough) (v := 1100) dX12_cameThrough_37 rfl, w_aload_n0 (M := mX12_cameThrough) dX12_cameThrough_40, w_getA (M := mX12_cameThrough) dX12_cameThrough_41 f_12_145 rfl (by decide) (by decide), w_iload_n1 (M := mX12_cameThrough) dX12_cameThrough_44, w_iaload (M := mX12_cameThrough) dX12_cameThrough_45, w_imul (M := mX12_cameThrough) dX12_cameThrough_46, w_iload_n2 (M := mX12_cameThrough) dX12_cameThrough_47, w_iadd (M := mX12_cameThrough) dX12_cameThrough_48, w_iaload (M := mX12_cameThrough) dX12_cameThrough_49, w_if_ne (M := mX12_cameThrough) (tgt := 55) dX12_cameThrough_50 (by decide), w_iconst (M := mX12_cameThrough) (v := 0) dX12_cameThrough_53 rfl, w_ireturn (M := mX12_cameThrough) dX12_cameThrough_54 rfl, w_iinc2 (M := mX12_cameThrough) (v := 1) dX12_cameThrough_55 rfl (by decide), w_goto (M := mX12_cameThrough) (tgt := 18) dX12_cameThrough_58 (by decide), w_iconst (M := mX12_cameThrough) (v := 1) dX12_cameThrough_61 rfl, w_ireturn (M := mX12_cameThrough) dX12_cameThrough_62 rfl, Kn_v_, Kn_n_, kl_i_, kl_a_, kl_l_, kl_n_, s1_0_, s2_0_, s1_1, s1_2, s1_3, s1_4, s1_5, s1_6, s1_7, s1_8, s1_9, s1_10, s1_11, s1_12, s1_13, s1_14, s2_1, s2_2, s2_3, s2_4, s2_5, s2_6, s2_7, s2_8, s2_9, s2_10, s2_11, s2_12, s2_13, s2_14, List.map_nil, List.map_cons, List.sum_nil, List.sum_cons, ct_i_, ct_r_, ct_l_, t_si_, t_sl_, t_sr_, n_si_, n_sl_, n_sr_, i_si_, i_sl_, i_sr_, l_si_, l_sl_, l_sr_, r_si_, r_sl_, r_sr_, vr_s_, vr_n_, nz_0_, nz_1_, kR.e, kl, ix, nI_c (a := i) (by omega), i0, a1, g, bI_t]
      | succ k ih =>
        intro t e1
        have g : (nI t < nI (B + m.2.2.1)) = True := nI_ltT (by omega) (by omega)
        have gx : 1100 * nI e + nI t = nI (1100 * e + t) := by
          rw [show (1100 : Int32) * nI e = nI (1100 * e) from nI_m (a := 1100), nI_a]
        have lt : 1100 * e + t < 2200 := by omega
        have cc := C e t he (by omega)
        obtain ⟨c, c1, c2⟩ := ih (t + 1) (by omega)
        by_cases q : clrF m e t
        · have w := cc.1 q
          refine ⟨c, fun Q => ?_, ?_⟩
          · have c1' := c1 Q
            rw [w_iload_n2 (M := mX12_cameThrough) dX12_cameThrough_18]
            simp [w_aload_n0 (M := mX12_cameThrough) dX12_cameThrough_19, w_getA (M := mX12_cameThrough) dX12_cameThrough_20 f_12_148 rfl (by decide) (by decide), w_iload_n1 (M := mX12_cameThrough) dX12_cameThrough_23, w_iaload (M := mX12_cameThrough) dX12_cameThrough_24, w_aload_n0 (M := mX12_cameThrough) dX12_cameThrough_25, w_getI (M := mX12_cameThrough) dX12_cameThrough_26 f_12_472 rfl (by decide) (by decide), w_iadd (M := mX12_cameThrough) dX12_cameThrough_29, w_ic_ge (M := mX12_cameThrough) (tgt := 61) dX12_cameThrough_30 (by decide), w_aload_n0 (M := mX12_cameThrough) dX12_cameThrough_33, w_getA (M := mX12_cameThrough) dX12_cameThrough_34 f_12_142 rfl (by decide) (by decide), w_sipush (M := mX12_cameThrough) (v := 1100) dX12_cameThrough_37 rfl, w_aload_n0 (M := mX12_cameThrough) dX12_cameThrough_40, w_getA (M := mX12_cameThrough) dX12_cameThrough_41 f_12_145 rfl (by decide) (by decide), w_iload_n1 (M := mX12_cameThrough) dX12_cameThrough_44, w_iaload (M := mX12_cameThrough) dX12_cameThrough_45, w_imul (M := mX12_cameThrough) dX12_cameThrough_46, w_iload_n2 (M := mX12_cameThrough) dX12_cameThrough_47, w_iadd (M := mX12_cameThrough) dX12_cameThrough_48, w_iaload (M := mX12_cameThrough) dX12_cameThrough_49, w_if_ne (M := mX12_cameThrough) (tgt := 55) dX12_cameThrough_50 (by decide), w_iconst (M := mX12_cameThrough) (v := 0) dX12_cameThrough_53 rfl, w_ireturn (M := mX12_cameThrough) dX12_cameThrough_54 rfl, w_iinc2 (M := mX12_cameThrough) (v := 1) dX12_cameThrough_55 rfl (by decide), w_goto (M := mX12_cameThrough) (tgt := 18) dX12_cameThrough_58 (by decide), w_iconst (M := mX12_cameThrough) (v := 1) dX12_cameThrough_61 rfl, w_ireturn (M := mX12_cameThrough) dX12_cameThrough_62 rfl, Kn_v_, Kn_n_, kl_i_, kl_a_, kl_l_, kl_n_, s1_0_, s2_0_, s1_1, s1_2, s1_3, s1_4, s1_5, s1_6, s1_7, s1_8, s1_9, s1_10, s1_11, s1_12, s1_13, s1_14, s2_1, s2_2, s2_3, s2_4, s2_5, s2_6, s2_7, s2_8, s2_9, s2_10, s2_11, s2_12, s2_13, s2_14, List.map_nil, List.map_cons, List.sum_nil, List.sum_cons, ct_i_, ct_r_, ct_l_, t_si_, t_sl_, t_sr_, n_si_, n_sl_, n_sr_, i_si_, i_sl_, i_sr_, l_si_, l_sl_, l_sr_, r_si_, r_sl_, r_sr_, vr_s_, vr_n_, nz_0_, nz_1_, kR.e, kl, ix, nI_c (a := i) (by omega), i0, i9, a1, g, gx, in1_n (k := 1100 * e + t) (n := 2200) (by omega), lt, nI_c (a := 1100 * e + t) (by omega), w, nI_s, c1']
          · rw [c2]
            refine ⟨fun z t' t1 t2 => ?_, fun z t' t1 t2 => z t' (by omega) t2⟩
            by_cases q2 : t' = t
            · rw [q2]; exact q
            · exact z t' (by omega) t2
        · have w := cc.2 q
          refine ⟨false, fun Q => ?_, fun z => (by cases z), fun z => absurd (z t (Nat.le_refl _) (by omega)) q⟩
          rw [w_iload_n2 (M := mX12_cameThrough) dX12_cameThrough_18]
          simp [w_aload_n0 (M := mX12_cameThrough) dX12_cameThrough_19, w_getA (M := mX12_cameThrough) dX12_cameThrough_20 f_12_148 rfl (by decide) (by decide), w_iload_n1 (M := mX12_cameThrough) dX12_cameThrough_23, w_iaload (M := mX12_cameThrough) dX12_cameThrough_24, w_aload_n0 (M := mX12_cameThrough) dX12_cameThrough_25, w_getI (M := mX12_cameThrough) dX12_cameThrough_26 f_12_472 rfl (by decide) (by decide), w_iadd (M := mX12_cameThrough) dX12_cameThrough_29, w_ic_ge (M := mX12_cameThrough) (tgt := 61) dX12_cameThrough_30 (by decide), w_aload_n0 (M := mX12_cameThrough) dX12_cameThrough_33, w_getA (M := mX12_cameThrough) dX12_cameThrough_34 f_12_142 rfl (by decide) (by decide), w_sipush (M := mX12_cameThrough) (v := 1100) dX12_cameThrough_37 rfl, w_aload_n0 (M := mX12_cameThrough) dX12_cameThrough_40, w_getA (M := mX12_cameThrough) dX12_cameThrough_41 f_12_145 rfl (by decide) (by decide), w_iload_n1 (M := mX12_cameThrough) dX12_cameThrough_44, w_iaload (M := mX12_cameThrough) dX12_cameThrough_45, w_imul (M := mX12_cameThrough) dX12_cameThrough_46, w_iload_n2 (M := mX12_cameThrough) dX12_cameThrough_47, w_iadd (M := mX12_cameThrough) dX12_cameThrough_48, w_iaload (M := mX12_cameThrough) dX12_cameThrough_49, w_if_ne (M := mX12_cameThrough) (tgt := 55) dX12_cameThrough_50 (by decide), w_iconst (M := mX12_cameThrough) (v := 0) dX12_cameThrough_53 rfl, w_ireturn (M := mX12_cameThrough) dX12_cameThrough_54 rfl, w_iinc2 (M := mX12_cameThrough) (v := 1) dX12_cameThrough_55 rfl (by decide), w_goto (M := mX12_cameThrough) (tgt := 18) dX12_cameThrough_58 (by decide), w_iconst (M := mX12_cameThrough) (v := 1) dX12_cameThrough_61 rfl, w_ireturn (M := mX12_cameThrough) dX12_cameThrough_62 rfl, Kn_v_, Kn_n_, kl_i_, kl_a_, kl_l_, kl_n_, s1_0_, s2_0_, s1_1, s1_2, s1_3, s1_4, s1_5, s1_6, s1_7, s1_8, s1_9, s1_10, s1_11, s1_12, s1_13, s1_14, s2_1, s2_2, s2_3, s2_4, s2_5, s2_6, s2_7, s2_8, s2_9, s2_10, s2_11, s2_12, s2_13, s2_14, List.map_nil, List.map_cons, List.sum_nil, List.sum_cons, ct_i_, ct_r_, ct_l_, t_si_, t_sl_, t_sr_, n_si_, n_sl_, n_sr_, i_si_, i_sl_, i_sr_, l_si_, l_sl_, l_sr_, r_si_, r_sl_, r_sr_, vr_s_, vr_n_, nz_0_, nz_1_, kR.e, kl, ix, nI_c (a := i) (by omega), i0, i9, a1, g, gx, in1_n (k := 1100 * e + t) (n := 2200) (by omega), lt, nI_c (a := 1100 * e + t) (by omega), w, bI_f]
    obtain ⟨c, c1, c2⟩ := key m.2.2.1 B rfl
    have w := s1 sd
    refine ⟨c, fun Q => ?_, ⟨fun z => ⟨sd, c2.mp z⟩, fun z => c2.mpr z.2⟩⟩
    have c1' := c1 Q
    unfold Cal
    rw [l_X12_cameThrough]
    simp only [am_en, am_ag, ct_i, ct_r, ct_l, List.length_cons, List.length_nil, List.replicate]
    simp [w_aload_n0 (M := mX12_cameThrough) dX12_cameThrough_0, w_getA (M := mX12_cameThrough) dX12_cameThrough_1 f_12_151 rfl (by decide) (by decide), w_iload_n1 (M := mX12_cameThrough) dX12_cameThrough_4, w_iaload (M := mX12_cameThrough) dX12_cameThrough_5, w_if_ne (M := mX12_cameThrough) (tgt := 11) dX12_cameThrough_6 (by decide), w_iconst (M := mX12_cameThrough) (v := 0) dX12_cameThrough_9 rfl, w_ireturn (M := mX12_cameThrough) dX12_cameThrough_10 rfl, w_aload_n0 (M := mX12_cameThrough) dX12_cameThrough_11, w_getA (M := mX12_cameThrough) dX12_cameThrough_12 f_12_148 rfl (by decide) (by decide), w_iload_n1 (M := mX12_cameThrough) dX12_cameThrough_15, w_iaload (M := mX12_cameThrough) dX12_cameThrough_16, w_istore_n (M := mX12_cameThrough) (i := 2) dX12_cameThrough_17 rfl (by decide), Kn_v_, Kn_n_, kl_i_, kl_a_, kl_l_, kl_n_, s1_0_, s2_0_, s1_1, s1_2, s1_3, s1_4, s1_5, s1_6, s1_7, s1_8, s1_9, s1_10, s1_11, s1_12, s1_13, s1_14, s2_1, s2_2, s2_3, s2_4, s2_5, s2_6, s2_7, s2_8, s2_9, s2_10, s2_11, s2_12, s2_13, s2_14, List.map_nil, List.map_cons, List.sum_nil, List.sum_cons, ct_i_, ct_r_, ct_l_, t_si_, t_sl_, t_sr_, n_si_, n_sl_, n_sr_, i_si_, i_sl_, i_sr_, l_si_, l_sl_, l_sr_, r_si_, r_sl_, r_sr_, vr_s_, vr_n_, nz_0_, nz_1_, kR.e, ix, nI_c (a := i) (by omega), i0, w, c1']
  · have w := s0 sd
    refine ⟨false, fun Q => ?_, fun z => (by cases z), fun z => absurd z.1 sd⟩
    unfold Cal
    rw [l_X12_cameThrough]
    simp only [am_en, am_ag, ct_i, ct_r, ct_l, List.length_cons, List.length_nil, List.replicate]
    simp [w_aload_n0 (M := mX12_cameThrough) dX12_cameThrough_0, w_getA (M := mX12_cameThrough) dX12_cameThrough_1 f_12_151 rfl (by decide) (by decide), w_iload_n1 (M := mX12_cameThrough) dX12_cameThrough_4, w_iaload (M := mX12_cameThrough) dX12_cameThrough_5, w_if_ne (M := mX12_cameThrough) (tgt := 11) dX12_cameThrough_6 (by decide), w_iconst (M := mX12_cameThrough) (v := 0) dX12_cameThrough_9 rfl, w_ireturn (M := mX12_cameThrough) dX12_cameThrough_10 rfl, w_aload_n0 (M := mX12_cameThrough) dX12_cameThrough_11, w_getA (M := mX12_cameThrough) dX12_cameThrough_12 f_12_148 rfl (by decide) (by decide), w_iload_n1 (M := mX12_cameThrough) dX12_cameThrough_15, w_iaload (M := mX12_cameThrough) dX12_cameThrough_16, w_istore_n (M := mX12_cameThrough) (i := 2) dX12_cameThrough_17 rfl (by decide), Kn_v_, Kn_n_, kl_i_, kl_a_, kl_l_, kl_n_, s1_0_, s2_0_, s1_1, s1_2, s1_3, s1_4, s1_5, s1_6, s1_7, s1_8, s1_9, s1_10, s1_11, s1_12, s1_13, s1_14, s2_1, s2_2, s2_3, s2_4, s2_5, s2_6, s2_7, s2_8, s2_9, s2_10, s2_11, s2_12, s2_13, s2_14, List.map_nil, List.map_cons, List.sum_nil, List.sum_cons, ct_i_, ct_r_, ct_l_, t_si_, t_sl_, t_sr_, n_si_, n_sl_, n_sr_, i_si_, i_sl_, i_sr_, l_si_, l_sl_, l_sr_, r_si_, r_sl_, r_sr_, vr_s_, vr_n_, nz_0_, nz_1_, kR.e, ix, nI_c (a := i) (by omega), w, bI_f]
/-- the best of the first i turns -/
def bst (m : FMo) (y : am_h) (i b : Nat) : Prop := (¬ b = 0 → b ≤ 1000 ∧ ∃ e, e < 2 ∧ CTp m e (b - 1)) ∧ ∀ j e B, j < i → e < 2 → B ≤ 999 → a_i y 169 j = nI e → a_i y 170 j = nI B → CTp m e B → ¬ b = 0 ∧ b - 1 ≤ B
set_option maxRecDepth 20000 in
set_option maxHeartbeats 4000000 in
theorem q_X12_comesOf (hR : sh_R (a_t y) (a_r y)) {wa wb a b L S : Nat} (hwa : wa ≤ 99) (hwb : wb ≤ 99) (ha : a ≤ 60) (hb : b ≤ 60) (hL1 : 1 ≤ L) (hL : L ≤ 99) (hS : S ≤ 99) : ∃ y' bs, (∀ Q, Cal (d + 5) mX12_comesOf [.ref 126, .int (nI wa), .int (nI wb), .int (nI a), .int (nI b), .int (nI L), .int (nI S)] y Q = Q (some (.int (bsB bs))) y') ∧ rlf y y' ∧ isAns (mkM wa wb a b L S) bs := by
  obtain ⟨m, em⟩ : ∃ m, m = mkM wa wb a b L S := ⟨_, rfl⟩
  have B : FB m := by
    rw [em]
    refine ⟨?_, ?_, ?_, ?_, hwa, hwb, hL1, hL, hS⟩
    · rw [mkM_l0]; omega
    · rw [mkM_l1]; omega
    · rw [mkM_l0]; omega
    · rw [mkM_l1]; omega
  obtain ⟨ya, ca, fa, Ra⟩ := f_laysFresh (d := d + 2) hR (wa := wa) (wb := wb) (a := a) (b := b) (L := L) (S := S)
  rw [← em] at Ra ⊢
  -- the tenths
  obtain ⟨yb, cb, fb, Rb⟩ := lp (n := 999) (W := fun T (s : am_h) Q => WP (d + 5) mX12_comesOf 13 [some (.ref 126), some (.int (nI wa)), some (.int (nI wb)), some (.int (nI a)), some (.int (nI b)), some (.int (nI L)), some (.int (nI S)), none, none] [] s Q) (P := fun T s => rff ya s ∧ RFs m T s) (fun T s hT hs => by
    obtain ⟨v, R⟩ := hs
    obtain ⟨s', c, f', R'⟩ := f_tenthGoes (d := d) B R (by omega)
    refine ⟨s', fun Q => ?_, v.tr f', R'⟩
    rw [w_aload_n0 (M := mX12_comesOf) dX12_comesOf_13]
    simp [w_getI (M := mX12_comesOf) dX12_comesOf_14 f_12_424 rfl (by decide) (by decide), w_sipush (M := mX12_comesOf) (v := 999) dX12_comesOf_17 rfl, w_ic_ge (M := mX12_comesOf) (tgt := 30) dX12_comesOf_20 (by decide), w_aload_n0 (M := mX12_comesOf) dX12_comesOf_23, c_12_517 (M := mX12_comesOf) dX12_comesOf_24 rfl, w_goto (M := mX12_comesOf) (tgt := 13) dX12_comesOf_27 (by decide), Kn_v_, Kn_n_, kl_i_, kl_a_, kl_l_, kl_n_, s1_0_, s2_0_, s1_1, s1_2, s1_3, s1_4, s1_5, s1_6, s1_7, s1_8, s1_9, s1_10, s1_11, s1_12, s1_13, s1_14, s2_1, s2_2, s2_3, s2_4, s2_5, s2_6, s2_7, s2_8, s2_9, s2_10, s2_11, s2_12, s2_13, s2_14, List.map_nil, List.map_cons, List.sum_nil, List.sum_cons, ct_i_, ct_r_, ct_l_, t_si_, t_sl_, t_sr_, n_si_, n_sl_, n_sr_, i_si_, i_sl_, i_sr_, l_si_, l_sl_, l_sr_, r_si_, r_sl_, r_sr_, vr_s_, vr_n_, nz_0_, nz_1_, R.1.1.e, R.2.1, show (nI T < 999) = True from nI_ltT (b := 999) hT (by omega), c]) 999 0 ya (by omega) ⟨rff.refl, Ra⟩
  obtain ⟨kb, tb, _, _, ⟨F, A⟩, _, C⟩ := Rb
  obtain ⟨A1, A2, A3, A4, A5, A6⟩ := A
  have F2 : F ≤ 2000 := by have : F ≤ 999 + 999 + 2 := A2; omega
  obtain ⟨B1, B2, _, _, _, _, B7, B8, _⟩ := B
  have lgo : ∀ e, e < 2 → 1 ≤ m.2.1 (1 - e) ∧ 1 ≤ m.2.1 e := fun e he => by
    rcases show e = 0 ∨ e = 1 by omega with rfl | rfl
    · exact ⟨B2, B1⟩
    · exact ⟨B1, B2⟩
  -- the first of those that came through
  obtain ⟨bs, cf, Pf1, Pf2⟩ := lp (n := F) (W := fun i (x : Nat) Q => WP (d + 5) mX12_comesOf 36 [some (.ref 126), some (.int (nI wa)), some (.int (nI wb)), some (.int (nI a)), some (.int (nI b)), some (.int (nI L)), some (.int (nI S)), some (.int (bsB x)), some (.int (nI i))] [] yb Q) (P := fun i x => bst m yb i x ∧ x ≤ 1000) (fun i x hi hx => by
    obtain ⟨⟨p1, p2⟩, p3⟩ := hx
    obtain ⟨e, B0, a1, a2, a3, a4, a5, a6, a7⟩ := A4 i hi
    have a2' : B0 ≤ 999 := a2
    obtain ⟨lo, lg⟩ := lgo e a1
    obtain ⟨c, c1, c2⟩ := f_cameThrough (d := d + 4) kb C lo lg B7 B8 (i := i) (by omega) a1 a2' a3 a4 a5 a6 a7
    have ix : am_in1 (nI i) 2200 = True := by rw [in1_n (by omega)]; exact eq_true (by omega)
    have lt : (nI i < nI F) = True := nI_ltT hi (by omega)
    have nx : ∀ x', (¬ x = 0 → ¬ x' = 0 ∧ x' ≤ x) → (CTp m e B0 → ¬ x' = 0 ∧ x' - 1 ≤ B0) → ∀ j e' B', j < i + 1 → e' < 2 → B' ≤ 999 → a_i yb 169 j = nI e' → a_i yb 170 j = nI B' → CTp m e' B' → ¬ x' = 0 ∧ x' - 1 ≤ B' := by
      intro x' l ct j e' B' hj he' hB' j9 j0 z
      by_cases q : j = i
      · subst q
        rw [a3, nI_inj (by omega) (by omega)] at j9
        rw [a4, nI_inj (by omega) (by omega)] at j0
        subst j9 j0
        exact ct z
      · have := p2 j e' B' (by omega) he' hB' j9 j0 z
        have := l this.1
        omega
    by_cases c0 : x = 0 ∨ B0 < x - 1
    · cases hc : c
      · rw [hc] at c1 c2
        refine ⟨x, fun Q => ?_, ⟨p1, nx x (fun z => ⟨z, Nat.le_refl _⟩) (fun z => by have := c2.mpr z; cases this)⟩, p3⟩
        rw [w_iload8 (M := mX12_comesOf) dX12_comesOf_36]
        by_cases x0 : x = 0
        · rw [x0, bsB_0]
          simp [w_aload_n0 (M := mX12_comesOf) dX12_comesOf_38, w_getI (M := mX12_comesOf) dX12_comesOf_39 f_12_481 rfl (by decide) (by decide), w_ic_ge (M := mX12_comesOf) (tgt := 87) dX12_comesOf_42 (by decide), w_iload7 (M := mX12_comesOf) dX12_comesOf_45, w_iconst (M := mX12_comesOf) (v := (-1)) dX12_comesOf_47 rfl, w_ic_eq (M := mX12_comesOf) (tgt := 63) dX12_comesOf_48 (by decide), w_aload_n0 (M := mX12_comesOf) dX12_comesOf_51, w_getA (M := mX12_comesOf) dX12_comesOf_52 f_12_148 rfl (by decide) (by decide), w_iload8 (M := mX12_comesOf) dX12_comesOf_55, w_iaload (M := mX12_comesOf) dX12_comesOf_57, w_iload7 (M := mX12_comesOf) dX12_comesOf_58, w_ic_ge (M := mX12_comesOf) (tgt := 81) dX12_comesOf_60 (by decide), w_aload_n0 (M := mX12_comesOf) dX12_comesOf_63, w_iload8 (M := mX12_comesOf) dX12_comesOf_64, c_12_592 (M := mX12_comesOf) dX12_comesOf_66 rfl, w_if_eq (M := mX12_comesOf) (tgt := 81) dX12_comesOf_69 (by decide), w_aload_n0 (M := mX12_comesOf) dX12_comesOf_72, w_getA (M := mX12_comesOf) dX12_comesOf_73 f_12_148 rfl (by decide) (by decide), w_iload8 (M := mX12_comesOf) dX12_comesOf_76, w_iaload (M := mX12_comesOf) dX12_comesOf_78, w_istore (M := mX12_comesOf) dX12_comesOf_79 (by decide), w_iinc8 (M := mX12_comesOf) (v := 1) dX12_comesOf_81 rfl (by decide), w_goto (M := mX12_comesOf) (tgt := 36) dX12_comesOf_84 (by decide), Kn_v_, Kn_n_, kl_i_, kl_a_, kl_l_, kl_n_, s1_0_, s2_0_, s1_1, s1_2, s1_3, s1_4, s1_5, s1_6, s1_7, s1_8, s1_9, s1_10, s1_11, s1_12, s1_13, s1_14, s2_1, s2_2, s2_3, s2_4, s2_5, s2_6, s2_7, s2_8, s2_9, s2_10, s2_11, s2_12, s2_13, s2_14, List.map_nil, List.map_cons, List.sum_nil, List.sum_cons, ct_i_, ct_r_, ct_l_, t_si_, t_sl_, t_sr_, n_si_, n_sl_, n_sr_, i_si_, i_sl_, i_sr_, l_si_, l_sl_, l_sr_, r_si_, r_sl_, r_sr_, vr_s_, vr_n_, nz_0_, nz_1_, kb.1.e, A1, lt, ix, nI_c (a := i) (by omega), c1, bI_f, nI_s]
        · have g1 : (nI (x - 1) = -1) = False := nI_n1 (by omega)
          have g2 : (nI B0 < nI (x - 1)) = True := nI_ltT (by omega) (by omega)
          rw [bsB_n x0]
          simp [w_aload_n0 (M := mX12_comesOf) dX12_comesOf_38, w_getI (M := mX12_comesOf) dX12_comesOf_39 f_12_481 rfl (by decide) (by decide), w_ic_ge (M := mX12_comesOf) (tgt := 87) dX12_comesOf_42 (by decide), w_iload7 (M := mX12_comesOf) dX12_comesOf_45, w_iconst (M := mX12_comesOf) (v := (-1)) dX12_comesOf_47 rfl, w_ic_eq (M := mX12_comesOf) (tgt := 63) dX12_comesOf_48 (by decide), w_aload_n0 (M := mX12_comesOf) dX12_comesOf_51, w_getA (M := mX12_comesOf) dX12_comesOf_52 f_12_148 rfl (by decide) (by decide), w_iload8 (M := mX12_comesOf) dX12_comesOf_55, w_iaload (M := mX12_comesOf) dX12_comesOf_57, w_iload7 (M := mX12_comesOf) dX12_comesOf_58, w_ic_ge (M := mX12_comesOf) (tgt := 81) dX12_comesOf_60 (by decide), w_aload_n0 (M := mX12_comesOf) dX12_comesOf_63, w_iload8 (M := mX12_comesOf) dX12_comesOf_64, c_12_592 (M := mX12_comesOf) dX12_comesOf_66 rfl, w_if_eq (M := mX12_comesOf) (tgt := 81) dX12_comesOf_69 (by decide), w_aload_n0 (M := mX12_comesOf) dX12_comesOf_72, w_getA (M := mX12_comesOf) dX12_comesOf_73 f_12_148 rfl (by decide) (by decide), w_iload8 (M := mX12_comesOf) dX12_comesOf_76, w_iaload (M := mX12_comesOf) dX12_comesOf_78, w_istore (M := mX12_comesOf) dX12_comesOf_79 (by decide), w_iinc8 (M := mX12_comesOf) (v := 1) dX12_comesOf_81 rfl (by decide), w_goto (M := mX12_comesOf) (tgt := 36) dX12_comesOf_84 (by decide), Kn_v_, Kn_n_, kl_i_, kl_a_, kl_l_, kl_n_, s1_0_, s2_0_, s1_1, s1_2, s1_3, s1_4, s1_5, s1_6, s1_7, s1_8, s1_9, s1_10, s1_11, s1_12, s1_13, s1_14, s2_1, s2_2, s2_3, s2_4, s2_5, s2_6, s2_7, s2_8, s2_9, s2_10, s2_11, s2_12, s2_13, s2_14, List.map_nil, List.map_cons, List.sum_nil, List.sum_cons, ct_i_, ct_r_, ct_l_, t_si_, t_sl_, t_sr_, n_si_, n_sl_, n_sr_, i_si_, i_sl_, i_sr_, l_si_, l_sl_, l_sr_, r_si_, r_sl_, r_sr_, vr_s_, vr_n_, nz_0_, nz_1_, kb.1.e, A1, lt, ix, nI_c (a := i) (by omega), c1, bI_f, nI_s, g1, g2, a4]
      · rw [hc] at c1 c2
        have ct := c2.mp rfl
        refine ⟨B0 + 1, fun Q => ?_, ⟨fun _ => ⟨by omega, e, a1, by rw [Nat.add_sub_cancel]; exact ct⟩, nx (B0 + 1) (fun z => ⟨by omega, by omega⟩) (fun _ => ⟨by omega, by omega⟩)⟩, by omega⟩
        rw [w_iload8 (M := mX12_comesOf) dX12_comesOf_36, bsB_s]
        by_cases x0 : x = 0
        · rw [x0, bsB_0]
          simp [w_aload_n0 (M := mX12_comesOf) dX12_comesOf_38, w_getI (M := mX12_comesOf) dX12_comesOf_39 f_12_481 rfl (by decide) (by decide), w_ic_ge (M := mX12_comesOf) (tgt := 87) dX12_comesOf_42 (by decide), w_iload7 (M := mX12_comesOf) dX12_comesOf_45, w_iconst (M := mX12_comesOf) (v := (-1)) dX12_comesOf_47 rfl, w_ic_eq (M := mX12_comesOf) (tgt := 63) dX12_comesOf_48 (by decide), w_aload_n0 (M := mX12_comesOf) dX12_comesOf_51, w_getA (M := mX12_comesOf) dX12_comesOf_52 f_12_148 rfl (by decide) (by decide), w_iload8 (M := mX12_comesOf) dX12_comesOf_55, w_iaload (M := mX12_comesOf) dX12_comesOf_57, w_iload7 (M := mX12_comesOf) dX12_comesOf_58, w_ic_ge (M := mX12_comesOf) (tgt := 81) dX12_comesOf_60 (by decide), w_aload_n0 (M := mX12_comesOf) dX12_comesOf_63, w_iload8 (M := mX12_comesOf) dX12_comesOf_64, c_12_592 (M := mX12_comesOf) dX12_comesOf_66 rfl, w_if_eq (M := mX12_comesOf) (tgt := 81) dX12_comesOf_69 (by decide), w_aload_n0 (M := mX12_comesOf) dX12_comesOf_72, w_getA (M := mX12_comesOf) dX12_comesOf_73 f_12_148 rfl (by decide) (by decide), w_iload8 (M := mX12_comesOf) dX12_comesOf_76, w_iaload (M := mX12_comesOf) dX12_comesOf_78, w_istore (M := mX12_comesOf) dX12_comesOf_79 (by decide), w_iinc8 (M := mX12_comesOf) (v := 1) dX12_comesOf_81 rfl (by decide), w_goto (M := mX12_comesOf) (tgt := 36) dX12_comesOf_84 (by decide), Kn_v_, Kn_n_, kl_i_, kl_a_, kl_l_, kl_n_, s1_0_, s2_0_, s1_1, s1_2, s1_3, s1_4, s1_5, s1_6, s1_7, s1_8, s1_9, s1_10, s1_11, s1_12, s1_13, s1_14, s2_1, s2_2, s2_3, s2_4, s2_5, s2_6, s2_7, s2_8, s2_9, s2_10, s2_11, s2_12, s2_13, s2_14, List.map_nil, List.map_cons, List.sum_nil, List.sum_cons, ct_i_, ct_r_, ct_l_, t_si_, t_sl_, t_sr_, n_si_, n_sl_, n_sr_, i_si_, i_sl_, i_sr_, l_si_, l_sl_, l_sr_, r_si_, r_sl_, r_sr_, vr_s_, vr_n_, nz_0_, nz_1_, kb.1.e, A1, lt, ix, nI_c (a := i) (by omega), c1, bI_t, nI_s, a4]
        · have g1 : (nI (x - 1) = -1) = False := nI_n1 (by omega)
          have g2 : (nI B0 < nI (x - 1)) = True := nI_ltT (by omega) (by omega)
          rw [bsB_n x0]
          simp [w_aload_n0 (M := mX12_comesOf) dX12_comesOf_38, w_getI (M := mX12_comesOf) dX12_comesOf_39 f_12_481 rfl (by decide) (by decide), w_ic_ge (M := mX12_comesOf) (tgt := 87) dX12_comesOf_42 (by decide), w_iload7 (M := mX12_comesOf) dX12_comesOf_45, w_iconst (M := mX12_comesOf) (v := (-1)) dX12_comesOf_47 rfl, w_ic_eq (M := mX12_comesOf) (tgt := 63) dX12_comesOf_48 (by decide), w_aload_n0 (M := mX12_comesOf) dX12_comesOf_51, w_getA (M := mX12_comesOf) dX12_comesOf_52 f_12_148 rfl (by decide) (by decide), w_iload8 (M := mX12_comesOf) dX12_comesOf_55, w_iaload (M := mX12_comesOf) dX12_comesOf_57, w_iload7 (M := mX12_comesOf) dX12_comesOf_58, w_ic_ge (M := mX12_comesOf) (tgt := 81) dX12_comesOf_60 (by decide), w_aload_n0 (M := mX12_comesOf) dX12_comesOf_63, w_iload8 (M := mX12_comesOf) dX12_comesOf_64, c_12_592 (M := mX12_comesOf) dX12_comesOf_66 rfl, w_if_eq (M := mX12_comesOf) (tgt := 81) dX12_comesOf_69 (by decide), w_aload_n0 (M := mX12_comesOf) dX12_comesOf_72, w_getA (M := mX12_comesOf) dX12_comesOf_73 f_12_148 rfl (by decide) (by decide), w_iload8 (M := mX12_comesOf) dX12_comesOf_76, w_iaload (M := mX12_comesOf) dX12_comesOf_78, w_istore (M := mX12_comesOf) dX12_comesOf_79 (by decide), w_iinc8 (M := mX12_comesOf) (v := 1) dX12_comesOf_81 rfl (by decide), w_goto (M := mX12_comesOf) (tgt := 36) dX12_comesOf_84 (by decide), Kn_v_, Kn_n_, kl_i_, kl_a_, kl_l_, kl_n_, s1_0_, s2_0_, s1_1, s1_2, s1_3, s1_4, s1_5, s1_6, s1_7, s1_8, s1_9, s1_10, s1_11, s1_12, s1_13, s1_14, s2_1, s2_2, s2_3, s2_4, s2_5, s2_6, s2_7, s2_8, s2_9, s2_10, s2_11, s2_12, s2_13, s2_14, List.map_nil, List.map_cons, List.sum_nil, List.sum_cons, ct_i_, ct_r_, ct_l_, t_si_, t_sl_, t_sr_, n_si_, n_sl_, n_sr_, i_si_, i_sl_, i_sr_, l_si_, l_sl_, l_sr_, r_si_, r_sl_, r_sr_, vr_s_, vr_n_, nz_0_, nz_1_, kb.1.e, A1, lt, ix, nI_c (a := i) (by omega), c1, bI_t, nI_s, g1, g2, a4]
    · have x0 : ¬ x = 0 := fun q => c0 (Or.inl q)
      have x1 : ¬ B0 < x - 1 := fun q => c0 (Or.inr q)
      refine ⟨x, fun Q => ?_, ⟨p1, nx x (fun z => ⟨z, Nat.le_refl _⟩) (fun _ => ⟨x0, by omega⟩)⟩, p3⟩
      have g1 : (nI (x - 1) = -1) = False := nI_n1 (by omega)
      have g2 : (nI B0 < nI (x - 1)) = False := nI_ltF (by omega) (by omega)
      rw [w_iload8 (M := mX12_comesOf) dX12_comesOf_36, bsB_n x0]
      simp [w_aload_n0 (M := mX12_comesOf) dX12_comesOf_38, w_getI (M := mX12_comesOf) dX12_comesOf_39 f_12_481 rfl (by decide) (by decide), w_ic_ge (M := mX12_comesOf) (tgt := 87) dX12_comesOf_42 (by decide), w_iload7 (M := mX12_comesOf) dX12_comesOf_45, w_iconst (M := mX12_comesOf) (v := (-1)) dX12_comesOf_47 rfl, w_ic_eq (M := mX12_comesOf) (tgt := 63) dX12_comesOf_48 (by decide), w_aload_n0 (M := mX12_comesOf) dX12_comesOf_51, w_getA (M := mX12_comesOf) dX12_comesOf_52 f_12_148 rfl (by decide) (by decide), w_iload8 (M := mX12_comesOf) dX12_comesOf_55, w_iaload (M := mX12_comesOf) dX12_comesOf_57, w_iload7 (M := mX12_comesOf) dX12_comesOf_58, w_ic_ge (M := mX12_comesOf) (tgt := 81) dX12_comesOf_60 (by decide), w_aload_n0 (M := mX12_comesOf) dX12_comesOf_63, w_iload8 (M := mX12_comesOf) dX12_comesOf_64, c_12_592 (M := mX12_comesOf) dX12_comesOf_66 rfl, w_if_eq (M := mX12_comesOf) (tgt := 81) dX12_comesOf_69 (by decide), w_aload_n0 (M := mX12_comesOf) dX12_comesOf_72, w_getA (M := mX12_comesOf) dX12_comesOf_73 f_12_148 rfl (by decide) (by decide), w_iload8 (M := mX12_comesOf) dX12_comesOf_76, w_iaload (M := mX12_comesOf) dX12_comesOf_78, w_istore (M := mX12_comesOf) dX12_comesOf_79 (by decide), w_iinc8 (M := mX12_comesOf) (v := 1) dX12_comesOf_81 rfl (by decide), w_goto (M := mX12_comesOf) (tgt := 36) dX12_comesOf_84 (by decide), Kn_v_, Kn_n_, kl_i_, kl_a_, kl_l_, kl_n_, s1_0_, s2_0_, s1_1, s1_2, s1_3, s1_4, s1_5, s1_6, s1_7, s1_8, s1_9, s1_10, s1_11, s1_12, s1_13, s1_14, s2_1, s2_2, s2_3, s2_4, s2_5, s2_6, s2_7, s2_8, s2_9, s2_10, s2_11, s2_12, s2_13, s2_14, List.map_nil, List.map_cons, List.sum_nil, List.sum_cons, ct_i_, ct_r_, ct_l_, t_si_, t_sl_, t_sr_, n_si_, n_sl_, n_sr_, i_si_, i_sl_, i_sr_, l_si_, l_sl_, l_sr_, r_si_, r_sl_, r_sr_, vr_s_, vr_n_, nz_0_, nz_1_, kb.1.e, A1, lt, ix, nI_c (a := i) (by omega), nI_s, g1, g2, a4]) F 0 0 (by omega) ⟨⟨fun c => absurd rfl c, fun j e B hj => by omega⟩, by omega⟩
  have cov : ∀ e B, e < 2 → CTp m e B → ¬ bs = 0 ∧ bs - 1 ≤ B := fun e B he z => by
    have hB : B ≤ 999 := by have := z.2.2.2.1; have := (lgo e he).2; omega
    obtain ⟨j, j1, j2, j3⟩ := A3 e B he hB z.1
    exact Pf1.2 j e B j1 he hB j2 j3 z
  refine ⟨yb, bs, fun Q => ?_, fa.tr fb.lf, fun c e B he z => (cov e B he z).1 c, fun c => ⟨(Pf1.1 c).2, fun e B he z => (cov e B he z).2⟩⟩
  have cb' := cb Q
  have cf' : WP (d + 5) mX12_comesOf 36 [some (.ref 126), some (.int (nI wa)), some (.int (nI wb)), some (.int (nI a)), some (.int (nI b)), some (.int (nI L)), some (.int (nI S)), some (.int (-1)), some (.int 0)] [] yb Q = _ := cf Q
  unfold Cal
  rw [l_X12_comesOf]
  simp only [am_en, am_ag, ct_i, ct_r, ct_l, List.length_cons, List.length_nil, List.replicate]
  simp [w_aload_n0 (M := mX12_comesOf) dX12_comesOf_0, w_iload_n1 (M := mX12_comesOf) dX12_comesOf_1, w_iload_n2 (M := mX12_comesOf) dX12_comesOf_2, w_iload_n3 (M := mX12_comesOf) dX12_comesOf_3, w_iload4 (M := mX12_comesOf) dX12_comesOf_4, w_iload5 (M := mX12_comesOf) dX12_comesOf_6, w_iload6 (M := mX12_comesOf) dX12_comesOf_8, c_12_588 (M := mX12_comesOf) dX12_comesOf_10 rfl, Kn_v_, Kn_n_, kl_i_, kl_a_, kl_l_, kl_n_, s1_0_, s2_0_, s1_1, s1_2, s1_3, s1_4, s1_5, s1_6, s1_7, s1_8, s1_9, s1_10, s1_11, s1_12, s1_13, s1_14, s2_1, s2_2, s2_3, s2_4, s2_5, s2_6, s2_7, s2_8, s2_9, s2_10, s2_11, s2_12, s2_13, s2_14, List.map_nil, List.map_cons, List.sum_nil, List.sum_cons, ct_i_, ct_r_, ct_l_, t_si_, t_sl_, t_sr_, n_si_, n_sl_, n_sr_, i_si_, i_sl_, i_sr_, l_si_, l_sl_, l_sr_, r_si_, r_sl_, r_sr_, vr_s_, vr_n_, nz_0_, nz_1_, hR.e, ca]
  rw [cb', w_aload_n0 (M := mX12_comesOf) dX12_comesOf_13]
  simp [w_getI (M := mX12_comesOf) dX12_comesOf_14 f_12_424 rfl (by decide) (by decide), w_sipush (M := mX12_comesOf) (v := 999) dX12_comesOf_17 rfl, w_ic_ge (M := mX12_comesOf) (tgt := 30) dX12_comesOf_20 (by decide), w_iconst (M := mX12_comesOf) (v := (-1)) dX12_comesOf_30 rfl, w_istore (M := mX12_comesOf) dX12_comesOf_31 (by decide), w_iconst (M := mX12_comesOf) (v := 0) dX12_comesOf_33 rfl, w_istore (M := mX12_comesOf) dX12_comesOf_34 (by decide), Kn_v_, Kn_n_, kl_i_, kl_a_, kl_l_, kl_n_, s1_0_, s2_0_, s1_1, s1_2, s1_3, s1_4, s1_5, s1_6, s1_7, s1_8, s1_9, s1_10, s1_11, s1_12, s1_13, s1_14, s2_1, s2_2, s2_3, s2_4, s2_5, s2_6, s2_7, s2_8, s2_9, s2_10, s2_11, s2_12, s2_13, s2_14, List.map_nil, List.map_cons, List.sum_nil, List.sum_cons, ct_i_, ct_r_, ct_l_, t_si_, t_sl_, t_sr_, n_si_, n_sl_, n_sr_, i_si_, i_sl_, i_sr_, l_si_, l_sl_, l_sr_, r_si_, r_sl_, r_sr_, vr_s_, vr_n_, nz_0_, nz_1_, kb.1.e, tb, show (nI 999 < 999) = False from nI_ltF (b := 999) (Nat.le_refl _) (by omega)]
  rw [cf', w_iload8 (M := mX12_comesOf) dX12_comesOf_36]
  simp [w_aload_n0 (M := mX12_comesOf) dX12_comesOf_38, w_getI (M := mX12_comesOf) dX12_comesOf_39 f_12_481 rfl (by decide) (by decide), w_ic_ge (M := mX12_comesOf) (tgt := 87) dX12_comesOf_42 (by decide), w_iload7 (M := mX12_comesOf) dX12_comesOf_87, w_iret (M := mX12_comesOf) dX12_comesOf_89 rfl, Kn_v_, Kn_n_, kl_i_, kl_a_, kl_l_, kl_n_, s1_0_, s2_0_, s1_1, s1_2, s1_3, s1_4, s1_5, s1_6, s1_7, s1_8, s1_9, s1_10, s1_11, s1_12, s1_13, s1_14, s2_1, s2_2, s2_3, s2_4, s2_5, s2_6, s2_7, s2_8, s2_9, s2_10, s2_11, s2_12, s2_13, s2_14, List.map_nil, List.map_cons, List.sum_nil, List.sum_cons, ct_i_, ct_r_, ct_l_, t_si_, t_sl_, t_sr_, n_si_, n_sl_, n_sr_, i_si_, i_sl_, i_sr_, l_si_, l_sl_, l_sr_, r_si_, r_sl_, r_sr_, vr_s_, vr_n_, nz_0_, nz_1_, kb.1.e, A1, show (nI F < nI F) = False from nI_ltF (Nat.le_refl _) (by omega)]
end RF9
