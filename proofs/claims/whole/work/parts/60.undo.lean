/-! a step taken back -/
section UNDO
variable {X : PX} {d : Nat} {h : am_h} {m : Nat} {g : Nat → Int32}
theorem UN_o {j : Nat} (c : ¬ j = 3) (c2 : ¬ (90 ≤ j ∧ j < 737)) : UN m g j = g j := by
  unfold UN
  rw [if_neg c, if_neg (by omega)]
theorem UN_3 : UN m g 3 = nI m := if_pos rfl
theorem UN_d : dec (UN m g) 90 = dec g (740 + 647 * m) := dec_congr (fun i hi => by
  unfold UN
  rw [if_neg (by omega), if_pos (by omega), show 90 + i - 90 = i by omega])
theorem UN_s {j : Nat} : dec (UN m g) (740 + 647 * j) = dec g (740 + 647 * j) := dec_congr (fun i hi => UN_o (by omega) (by omega))
/-- the turns that went on are open again -/
def reo (h h' : am_h) (e : Nat) : Prop := sm h h' ∧ a_l h' = a_l h ∧ (∀ r j, ¬ (r = 20 ∨ r = 21) → a_i h' r j = a_i h r j) ∧ (∀ j e', j < 90 → e' < e → a_i h (12 + e') 0 = 1 → a_i h (12 + e') 7 = nI j → a_i h' 20 j = -1 ∧ a_i h' 21 j = 0) ∧ ∀ j, (∀ e', e' < e → a_i h (12 + e') 0 = 1 → ¬ a_i h (12 + e') 7 = nI j) → a_i h' 20 j = a_i h 20 j ∧ a_i h' 21 j = a_i h 21 j
set_option maxRecDepth 20000 in
set_option maxHeartbeats 1000000 in
theorem tb_loop (hC : sh_C (a_t h) (a_r h)) (hz : ∀ e, e < 4 → a_i h (12 + e) 0 = 0 ∨ (a_i h (12 + e) 0 = 1 ∧ ∃ j, j < 90 ∧ a_i h (12 + e) 7 = nI j)) : ∃ h', (∀ Q, WP (d + 3) mX8_takeStepBack 43 [some (.ref 1), some (.int (nI 0))] [] h Q = Q none h') ∧ reo h h' 4 := by
  have key := lp (n := 4) (W := fun e (s : am_h) Q => WP (d + 3) mX8_takeStepBack 43 [some (.ref 1), some (.int (nI e))] [] s Q) (P := fun e (s : am_h) => reo h s e) (fun e s he hs => ?_) 4 0 h (by omega) ⟨⟨rfl, rfl, rfl⟩, rfl, fun _ _ _ => rfl, fun j e' _ h1 => absurd h1 (by omega), fun _ _ => ⟨rfl, rfl⟩⟩
  · obtain ⟨h', a, b⟩ := key
    refine ⟨h', fun Q => (a Q).trans ?_, b⟩
    rw [w_iload_n1 (M := mX8_takeStepBack) dX8_takeStepBack_43]
    simp [w_aload_n0 (M := mX8_takeStepBack) dX8_takeStepBack_0, w_aload_n0 (M := mX8_takeStepBack) dX8_takeStepBack_1, w_getI (M := mX8_takeStepBack) dX8_takeStepBack_2 f_8_77 rfl (by decide) (by decide), w_bipush (M := mX8_takeStepBack) (v := 30) dX8_takeStepBack_5 rfl, w_iadd (M := mX8_takeStepBack) dX8_takeStepBack_7, w_iconst (M := mX8_takeStepBack) (v := 1) dX8_takeStepBack_8 rfl, w_isub (M := mX8_takeStepBack) dX8_takeStepBack_9, w_bipush (M := mX8_takeStepBack) (v := 30) dX8_takeStepBack_10 rfl, w_irem (M := mX8_takeStepBack) dX8_takeStepBack_12, w_putI (M := mX8_takeStepBack) dX8_takeStepBack_13 f_8_77 rfl (Or.inl rfl), w_aload_n0 (M := mX8_takeStepBack) dX8_takeStepBack_16, w_dup_int (M := mX8_takeStepBack) dX8_takeStepBack_17, w_dup_ref (M := mX8_takeStepBack) dX8_takeStepBack_17, w_getI (M := mX8_takeStepBack) dX8_takeStepBack_18 f_8_74 rfl (by decide) (by decide), w_iconst (M := mX8_takeStepBack) (v := 1) dX8_takeStepBack_21 rfl, w_isub (M := mX8_takeStepBack) dX8_takeStepBack_22, w_putI (M := mX8_takeStepBack) dX8_takeStepBack_23 f_8_74 rfl (Or.inl rfl), w_aload_n0 (M := mX8_takeStepBack) dX8_takeStepBack_26, w_getO (M := mX8_takeStepBack) dX8_takeStepBack_27 f_8_21 rfl (by decide) (by decide), w_aload_n0 (M := mX8_takeStepBack) dX8_takeStepBack_30, w_aload_n0 (M := mX8_takeStepBack) dX8_takeStepBack_31, w_getI (M := mX8_takeStepBack) dX8_takeStepBack_32 f_8_77 rfl (by decide) (by decide), c_8_70 (M := mX8_takeStepBack) dX8_takeStepBack_35 rfl, c_8_64 (M := mX8_takeStepBack) dX8_takeStepBack_38 rfl, w_iconst (M := mX8_takeStepBack) (v := 0) dX8_takeStepBack_41 rfl, w_istore_n (M := mX8_takeStepBack) (i := 1) dX8_takeStepBack_42 rfl (by decide), w_iconst (M := mX8_takeStepBack) (v := 4) dX8_takeStepBack_44 rfl, w_ic_ge (M := mX8_takeStepBack) (tgt := 88) dX8_takeStepBack_45 (by decide), w_aload_n0 (M := mX8_takeStepBack) dX8_takeStepBack_48, w_getO (M := mX8_takeStepBack) dX8_takeStepBack_49 f_8_21 rfl (by decide) (by decide), w_getA (M := mX8_takeStepBack) dX8_takeStepBack_52 f_8_104 rfl (by decide) (by decide), w_iload_n1 (M := mX8_takeStepBack) dX8_takeStepBack_55, w_aaload (M := mX8_takeStepBack) dX8_takeStepBack_56, w_getZ (M := mX8_takeStepBack) dX8_takeStepBack_57 f_8_108 rfl (by decide) (by decide), w_if_eq (M := mX8_takeStepBack) (tgt := 82) dX8_takeStepBack_60 (by decide), w_aload_n0 (M := mX8_takeStepBack) dX8_takeStepBack_63, w_getO (M := mX8_takeStepBack) dX8_takeStepBack_64 f_8_30 rfl (by decide) (by decide), w_aload_n0 (M := mX8_takeStepBack) dX8_takeStepBack_67, w_getO (M := mX8_takeStepBack) dX8_takeStepBack_68 f_8_21 rfl (by decide) (by decide), w_getA (M := mX8_takeStepBack) dX8_takeStepBack_71 f_8_104 rfl (by decide) (by decide), w_iload_n1 (M := mX8_takeStepBack) dX8_takeStepBack_74, w_aaload (M := mX8_takeStepBack) dX8_takeStepBack_75, w_getI (M := mX8_takeStepBack) dX8_takeStepBack_76 f_8_114 rfl (by decide) (by decide), c_8_117 (M := mX8_takeStepBack) dX8_takeStepBack_79 rfl, w_iinc1 (M := mX8_takeStepBack) (v := 1) dX8_takeStepBack_82 rfl (by decide), w_goto (M := mX8_takeStepBack) (tgt := 43) dX8_takeStepBack_85 (by decide), w_vret (M := mX8_takeStepBack) dX8_takeStepBack_88 rfl, Kn_v_, Kn_n_, kl_i_, kl_a_, kl_l_, kl_n_, s1_0_, s2_0_, s1_1, s1_2, s1_3, s1_4, s1_5, s1_6, s1_7, s1_8, s1_9, s1_10, s1_11, s1_12, s1_13, s1_14, s2_1, s2_2, s2_3, s2_4, s2_5, s2_6, s2_7, s2_8, s2_9, s2_10, s2_11, s2_12, s2_13, s2_14, List.map_nil, List.map_cons, List.sum_nil, List.sum_cons, ct_i_, ct_r_, ct_l_, t_si_, t_sl_, t_sr_, n_si_, n_sl_, n_sr_, i_si_, i_sl_, i_sr_, l_si_, l_sl_, l_sr_, r_si_, r_sl_, r_sr_, vr_s_, vr_n_, nz_0_, nz_1_, show (nI 4 < 4) = False from nI_ltF (b := 4) (Nat.le_refl 4) (by omega)]
  · obtain ⟨s1, s2, s3, s4, s5⟩ := hs
    have hCs : sh_C (a_t s) (a_r s) := by rw [s1.1, s1.2.1]; exact hC
    have sE := shE hCs (e := e) (by omega)
    have z0 := s3 (12 + e) 0 (by omega)
    have z7 := s3 (12 + e) 7 (by omega)
    rcases hz e he with q | ⟨q, j, j1, j2⟩
    · refine ⟨s, fun Q => ?_, s1, s2, s3, fun j e' hj he' h0 h7 => ?_, fun j hj => s5 j (fun e' he' => hj e' (by omega))⟩
      · rw [w_iload_n1 (M := mX8_takeStepBack) dX8_takeStepBack_43]
        simp [w_aload_n0 (M := mX8_takeStepBack) dX8_takeStepBack_0, w_aload_n0 (M := mX8_takeStepBack) dX8_takeStepBack_1, w_getI (M := mX8_takeStepBack) dX8_takeStepBack_2 f_8_77 rfl (by decide) (by decide), w_bipush (M := mX8_takeStepBack) (v := 30) dX8_takeStepBack_5 rfl, w_iadd (M := mX8_takeStepBack) dX8_takeStepBack_7, w_iconst (M := mX8_takeStepBack) (v := 1) dX8_takeStepBack_8 rfl, w_isub (M := mX8_takeStepBack) dX8_takeStepBack_9, w_bipush (M := mX8_takeStepBack) (v := 30) dX8_takeStepBack_10 rfl, w_irem (M := mX8_takeStepBack) dX8_takeStepBack_12, w_putI (M := mX8_takeStepBack) dX8_takeStepBack_13 f_8_77 rfl (Or.inl rfl), w_aload_n0 (M := mX8_takeStepBack) dX8_takeStepBack_16, w_dup_int (M := mX8_takeStepBack) dX8_takeStepBack_17, w_dup_ref (M := mX8_takeStepBack) dX8_takeStepBack_17, w_getI (M := mX8_takeStepBack) dX8_takeStepBack_18 f_8_74 rfl (by decide) (by decide), w_iconst (M := mX8_takeStepBack) (v := 1) dX8_takeStepBack_21 rfl, w_isub (M := mX8_takeStepBack) dX8_takeStepBack_22, w_putI (M := mX8_takeStepBack) dX8_takeStepBack_23 f_8_74 rfl (Or.inl rfl), w_aload_n0 (M := mX8_takeStepBack) dX8_takeStepBack_26, w_getO (M := mX8_takeStepBack) dX8_takeStepBack_27 f_8_21 rfl (by decide) (by decide), w_aload_n0 (M := mX8_takeStepBack) dX8_takeStepBack_30, w_aload_n0 (M := mX8_takeStepBack) dX8_takeStepBack_31, w_getI (M := mX8_takeStepBack) dX8_takeStepBack_32 f_8_77 rfl (by decide) (by decide), c_8_70 (M := mX8_takeStepBack) dX8_takeStepBack_35 rfl, c_8_64 (M := mX8_takeStepBack) dX8_takeStepBack_38 rfl, w_iconst (M := mX8_takeStepBack) (v := 0) dX8_takeStepBack_41 rfl, w_istore_n (M := mX8_takeStepBack) (i := 1) dX8_takeStepBack_42 rfl (by decide), w_iconst (M := mX8_takeStepBack) (v := 4) dX8_takeStepBack_44 rfl, w_ic_ge (M := mX8_takeStepBack) (tgt := 88) dX8_takeStepBack_45 (by decide), w_aload_n0 (M := mX8_takeStepBack) dX8_takeStepBack_48, w_getO (M := mX8_takeStepBack) dX8_takeStepBack_49 f_8_21 rfl (by decide) (by decide), w_getA (M := mX8_takeStepBack) dX8_takeStepBack_52 f_8_104 rfl (by decide) (by decide), w_iload_n1 (M := mX8_takeStepBack) dX8_takeStepBack_55, w_aaload (M := mX8_takeStepBack) dX8_takeStepBack_56, w_getZ (M := mX8_takeStepBack) dX8_takeStepBack_57 f_8_108 rfl (by decide) (by decide), w_if_eq (M := mX8_takeStepBack) (tgt := 82) dX8_takeStepBack_60 (by decide), w_aload_n0 (M := mX8_takeStepBack) dX8_takeStepBack_63, w_getO (M := mX8_takeStepBack) dX8_takeStepBack_64 f_8_30 rfl (by decide) (by decide), w_aload_n0 (M := mX8_takeStepBack) dX8_takeStepBack_67, w_getO (M := mX8_takeStepBack) dX8_takeStepBack_68 f_8_21 rfl (by decide) (by decide), w_getA (M := mX8_takeStepBack) dX8_takeStepBack_71 f_8_104 rfl (by decide) (by decide), w_iload_n1 (M := mX8_takeStepBack) dX8_takeStepBack_74, w_aaload (M := mX8_takeStepBack) dX8_takeStepBack_75, w_getI (M := mX8_takeStepBack) dX8_takeStepBack_76 f_8_114 rfl (by decide) (by decide), c_8_117 (M := mX8_takeStepBack) dX8_takeStepBack_79 rfl, w_iinc1 (M := mX8_takeStepBack) (v := 1) dX8_takeStepBack_82 rfl (by decide), w_goto (M := mX8_takeStepBack) (tgt := 43) dX8_takeStepBack_85 (by decide), w_vret (M := mX8_takeStepBack) dX8_takeStepBack_88 rfl, Kn_v_, Kn_n_, kl_i_, kl_a_, kl_l_, kl_n_, s1_0_, s2_0_, s1_1, s1_2, s1_3, s1_4, s1_5, s1_6, s1_7, s1_8, s1_9, s1_10, s1_11, s1_12, s1_13, s1_14, s2_1, s2_2, s2_3, s2_4, s2_5, s2_6, s2_7, s2_8, s2_9, s2_10, s2_11, s2_12, s2_13, s2_14, List.map_nil, List.map_cons, List.sum_nil, List.sum_cons, ct_i_, ct_r_, ct_l_, t_si_, t_sl_, t_sr_, n_si_, n_sl_, n_sr_, i_si_, i_sl_, i_sr_, l_si_, l_sl_, l_sr_, r_si_, r_sl_, r_sr_, vr_s_, vr_n_, nz_0_, nz_1_, hCs.e, sE, show (nI e < 4) = True from nI_ltT (b := 4) he (by omega), in1_n (k := e) (n := 4) (by omega), he, nI_c (a := e) (by omega), z0, q, nI_s]
      · by_cases c : e' = e
        · subst c; rw [q] at h0; exact absurd h0 (by decide)
        · exact s4 j e' hj (by omega) h0 h7
    · refine ⟨s_i (s_i s 20 j (-1)) 21 j 0, fun Q => ?_, s1, s2, fun r j' c => ?_, fun j' e' hj he' h0 h7 => ?_, fun j' hj => ?_⟩
      · have rr : ∀ Q, Cal (d + 2) mX2_reopen [.ref 16, .int (nI j)] s Q = Q none (s_i (s_i s 20 j (-1)) 21 j 0) := by
          intro Q
          rw [q_X2_reopen (eq_true hCs)]
          simp [show (nI j < 90) = True from nI_ltT (b := 90) j1 (by omega), show ¬ nI j < 0 from Int32.not_lt.mpr (nI_pos' (by omega)), nI_c (a := j) (by omega), nI_p (a := j) (by omega), j1]
        rw [w_iload_n1 (M := mX8_takeStepBack) dX8_takeStepBack_43]
        simp [w_aload_n0 (M := mX8_takeStepBack) dX8_takeStepBack_0, w_aload_n0 (M := mX8_takeStepBack) dX8_takeStepBack_1, w_getI (M := mX8_takeStepBack) dX8_takeStepBack_2 f_8_77 rfl (by decide) (by decide), w_bipush (M := mX8_takeStepBack) (v := 30) dX8_takeStepBack_5 rfl, w_iadd (M := mX8_takeStepBack) dX8_takeStepBack_7, w_iconst (M := mX8_takeStepBack) (v := 1) dX8_takeStepBack_8 rfl, w_isub (M := mX8_takeStepBack) dX8_takeStepBack_9, w_bipush (M := mX8_takeStepBack) (v := 30) dX8_takeStepBack_10 rfl, w_irem (M := mX8_takeStepBack) dX8_takeStepBack_12, w_putI (M := mX8_takeStepBack) dX8_takeStepBack_13 f_8_77 rfl (Or.inl rfl), w_aload_n0 (M := mX8_takeStepBack) dX8_takeStepBack_16, w_dup_int (M := mX8_takeStepBack) dX8_takeStepBack_17, w_dup_ref (M := mX8_takeStepBack) dX8_takeStepBack_17, w_getI (M := mX8_takeStepBack) dX8_takeStepBack_18 f_8_74 rfl (by decide) (by decide), w_iconst (M := mX8_takeStepBack) (v := 1) dX8_takeStepBack_21 rfl, w_isub (M := mX8_takeStepBack) dX8_takeStepBack_22, w_putI (M := mX8_takeStepBack) dX8_takeStepBack_23 f_8_74 rfl (Or.inl rfl), w_aload_n0 (M := mX8_takeStepBack) dX8_takeStepBack_26, w_getO (M := mX8_takeStepBack) dX8_takeStepBack_27 f_8_21 rfl (by decide) (by decide), w_aload_n0 (M := mX8_takeStepBack) dX8_takeStepBack_30, w_aload_n0 (M := mX8_takeStepBack) dX8_takeStepBack_31, w_getI (M := mX8_takeStepBack) dX8_takeStepBack_32 f_8_77 rfl (by decide) (by decide), c_8_70 (M := mX8_takeStepBack) dX8_takeStepBack_35 rfl, c_8_64 (M := mX8_takeStepBack) dX8_takeStepBack_38 rfl, w_iconst (M := mX8_takeStepBack) (v := 0) dX8_takeStepBack_41 rfl, w_istore_n (M := mX8_takeStepBack) (i := 1) dX8_takeStepBack_42 rfl (by decide), w_iconst (M := mX8_takeStepBack) (v := 4) dX8_takeStepBack_44 rfl, w_ic_ge (M := mX8_takeStepBack) (tgt := 88) dX8_takeStepBack_45 (by decide), w_aload_n0 (M := mX8_takeStepBack) dX8_takeStepBack_48, w_getO (M := mX8_takeStepBack) dX8_takeStepBack_49 f_8_21 rfl (by decide) (by decide), w_getA (M := mX8_takeStepBack) dX8_takeStepBack_52 f_8_104 rfl (by decide) (by decide), w_iload_n1 (M := mX8_takeStepBack) dX8_takeStepBack_55, w_aaload (M := mX8_takeStepBack) dX8_takeStepBack_56, w_getZ (M := mX8_takeStepBack) dX8_takeStepBack_57 f_8_108 rfl (by decide) (by decide), w_if_eq (M := mX8_takeStepBack) (tgt := 82) dX8_takeStepBack_60 (by decide), w_aload_n0 (M := mX8_takeStepBack) dX8_takeStepBack_63, w_getO (M := mX8_takeStepBack) dX8_takeStepBack_64 f_8_30 rfl (by decide) (by decide), w_aload_n0 (M := mX8_takeStepBack) dX8_takeStepBack_67, w_getO (M := mX8_takeStepBack) dX8_takeStepBack_68 f_8_21 rfl (by decide) (by decide), w_getA (M := mX8_takeStepBack) dX8_takeStepBack_71 f_8_104 rfl (by decide) (by decide), w_iload_n1 (M := mX8_takeStepBack) dX8_takeStepBack_74, w_aaload (M := mX8_takeStepBack) dX8_takeStepBack_75, w_getI (M := mX8_takeStepBack) dX8_takeStepBack_76 f_8_114 rfl (by decide) (by decide), c_8_117 (M := mX8_takeStepBack) dX8_takeStepBack_79 rfl, w_iinc1 (M := mX8_takeStepBack) (v := 1) dX8_takeStepBack_82 rfl (by decide), w_goto (M := mX8_takeStepBack) (tgt := 43) dX8_takeStepBack_85 (by decide), w_vret (M := mX8_takeStepBack) dX8_takeStepBack_88 rfl, Kn_v_, Kn_n_, kl_i_, kl_a_, kl_l_, kl_n_, s1_0_, s2_0_, s1_1, s1_2, s1_3, s1_4, s1_5, s1_6, s1_7, s1_8, s1_9, s1_10, s1_11, s1_12, s1_13, s1_14, s2_1, s2_2, s2_3, s2_4, s2_5, s2_6, s2_7, s2_8, s2_9, s2_10, s2_11, s2_12, s2_13, s2_14, List.map_nil, List.map_cons, List.sum_nil, List.sum_cons, ct_i_, ct_r_, ct_l_, t_si_, t_sl_, t_sr_, n_si_, n_sl_, n_sr_, i_si_, i_sl_, i_sr_, l_si_, l_sl_, l_sr_, r_si_, r_sl_, r_sr_, vr_s_, vr_n_, nz_0_, nz_1_, hCs.e, sE, show (nI e < 4) = True from nI_ltT (b := 4) he (by omega), in1_n (k := e) (n := 4) (by omega), he, nI_c (a := e) (by omega), z0, z7, q, j2, rr, nI_s]
      · rw [ine (by omega), ine (by omega)]; exact s3 r j' c
      · by_cases c : j' = j
        · subst c
          rw [ine (by omega), ieq rfl rfl, ieq rfl rfl]
          exact ⟨rfl, rfl⟩
        · have ne : ¬ e' = e := by
            intro c'
            subst c'
            rw [j2, nI_inj (by omega) (by omega)] at h7
            exact c h7.symm
          rw [ine (by omega), ine (by omega), ine (by omega), ine (by omega)]
          exact s4 j' e' hj (by omega) h0 h7
      · have ne : ¬ j' = j := by
          intro c
          subst c
          exact hj e (by omega) q j2
        rw [ine (by omega), ine (by omega), ine (by omega), ine (by omega)]
        exact s5 j' (fun e' he' => hj e' (by omega))
set_option maxRecDepth 20000 in
set_option maxHeartbeats 1000000 in
theorem op_undo (kk : Inv X h) : opS X (d + 4) mX11_undo mX12_undo [.ref 0] [.ref 126] h := by
  have hC := kk.1.1
  have hR := kk.1.2.1
  have kf := kk.e
  obtain ⟨⟨s1, s2, s3, s4, s5⟩, ⟨⟨r1, r2, r3, r4, r5⟩, r6, r7, r8, r9⟩, c1, tp, tn, tx⟩ := id kk
  obtain ⟨n, n1, n2, n3⟩ := btn r5.2.2.2.1 (by omega) (by omega)
  have hn2 : n ≤ 30 := by have := r5.2.2.2.1; unfold bt at this; omega
  obtain ⟨N, e1, e2, e3⟩ := kk.N
  by_cases c0 : n = 0
  · have n0 : a_i h 127 3 = 0 := by rw [n1, c0]; rfl
    refine opS_ref (r := 2) kk (by omega) (ans := -1) (fun Q => ?_) (fun Q => ?_)
    · unfold Cal
      rw [l_X11_undo]
      simp only [am_en, am_ag, ct_i, ct_r, ct_l, List.length_cons, List.length_nil, List.replicate]
      simp [w_aload_n0 (M := mX11_undo) dX11_undo_0, w_getO (M := mX11_undo) dX11_undo_1 f_11_10 rfl (by decide) (by decide), w_getI (M := mX11_undo) dX11_undo_4 f_11_207 rfl (by decide) (by decide), w_if_ne (M := mX11_undo) (tgt := 17) dX11_undo_7 (by decide), w_aload_n0 (M := mX11_undo) dX11_undo_10, w_iconst (M := mX11_undo) (v := 2) dX11_undo_11 rfl, w_iconst (M := mX11_undo) (v := (-1)) dX11_undo_12 rfl, c_11_60 (M := mX11_undo) dX11_undo_13 rfl, w_iret (M := mX11_undo) dX11_undo_16 rfl, w_aload_n0 (M := mX11_undo) dX11_undo_17, w_getO (M := mX11_undo) dX11_undo_18 f_11_10 rfl (by decide) (by decide), c_11_210 (M := mX11_undo) dX11_undo_21 rfl, w_aload_n0 (M := mX11_undo) dX11_undo_24, w_getO (M := mX11_undo) dX11_undo_25 f_11_10 rfl (by decide) (by decide), w_getI (M := mX11_undo) dX11_undo_28 f_11_207 rfl (by decide) (by decide), w_iret (M := mX11_undo) dX11_undo_31 rfl, Kn_v_, Kn_n_, kl_i_, kl_a_, kl_l_, kl_n_, s1_0_, s2_0_, s1_1, s1_2, s1_3, s1_4, s1_5, s1_6, s1_7, s1_8, s1_9, s1_10, s1_11, s1_12, s1_13, s1_14, s2_1, s2_2, s2_3, s2_4, s2_5, s2_6, s2_7, s2_8, s2_9, s2_10, s2_11, s2_12, s2_13, s2_14, List.map_nil, List.map_cons, List.sum_nil, List.sum_cons, ct_i_, ct_r_, ct_l_, t_si_, t_sl_, t_sr_, n_si_, n_sl_, n_sr_, i_si_, i_sl_, i_sr_, l_si_, l_sl_, l_sr_, r_si_, r_sl_, r_sr_, vr_s_, vr_n_, nz_0_, nz_1_, q_X11_refuse, hC, hC.e, kf, n0]
    · rw [q_X12_undo_0 (h := s_i h 26 2 (a_i h 26 2 + 1)) (eq_true hR) (by rw [ine (by omega)]; exact n0)]
      rfl
  · obtain ⟨m, rfl⟩ : ∃ m, n = m + 1 := ⟨n - 1, by omega⟩
    obtain ⟨k81, ⟨k, k82, k83, k84⟩, k85⟩ := id r8
    rw [show 1 + 0 = 1 from rfl] at k81 k83
    obtain ⟨p, p1, p2⟩ := k84 m (by omega)
    rw [n3, show (k + 30 - (m + 1) + m) % 30 = (k + 29) % 30 by omega] at p1
    obtain ⟨q1, q2, q3⟩ := s3.2.1 0 _ p (Or.inl rfl) (Nat.mod_lt _ (by omega)) p1
    have e14 : a_i h 1 4 = nI (m + 1) := by rw [k81, n1]
    have wm := r9.2 m (by omega)
    rw [e3] at wm
    obtain ⟨H0, eH0⟩ : ∃ H0, H0 = s_i (s_i h 1 5 (nI ((k + 29) % 30))) 1 4 (nI m) := ⟨_, rfl⟩
    have hC0 : sh_C (a_t H0) (a_r H0) := by rw [eH0]; exact hC
    have H0i : ∀ r j, ¬ (r = 1 ∧ (j = 4 ∨ j = 5)) → a_i H0 r j = a_i h r j := by
      intro r j c
      rw [eH0, ine (by omega), ine (by omega)]
    have H0l : a_l H0 = a_l h := by rw [eH0]; rfl
    have H0t : a_t H0 = a_t h := by rw [eH0]; rfl
    have H0r : a_r H0 = a_r h := by rw [eH0]; rfl
    have H05 : a_i H0 1 5 = nI ((k + 29) % 30) := by rw [eH0, ine (by omega), ieq rfl rfl]
    have sr : ∀ Q, Cal (d + 2) mX8_stepRow [.ref 1, .int (nI ((k + 29) % 30))] H0 Q = Q (some (.ref p)) H0 := fun Q => q_X8_stepRow_has (T := 25) (by simp [hC0.e]) (by simp [hC0.e]) (by simp [hC0.e]) (Nat.mod_lt _ (by omega)) (by rw [H0r]; exact p1)
    obtain ⟨H1, w0, w⟩ := q_X5_copyFrom (d := d + 1) (h := H0) (p := 7) (q := p) (shL_7 hC0) (by rw [H0t, H0r]; exact q3) (Or.inl (by omega)) (fun e he => by rw [H0i _ _ (by omega)]; exact k85 _ p (Nat.mod_lt _ (by omega)) p1 e he)
    obtain ⟨wa, wb, wc, wd, we, wf⟩ := id w
    have hC1 : sh_C (a_t H1) (a_r H1) := by rw [wa.1, wa.2.1]; exact hC0
    have rp : rLn (a_i H0) (a_l H0) p (dec (a_i h 127) (740 + 647 * m)) := rLn_fr (fun i j _ => H0i _ j (by omega)) (fun e _ => by rw [H0l]) p2
    have r7' : rLn (a_i H1) (a_l H1) 7 (dec (a_i h 127) (740 + 647 * m)) := w.r rp
    obtain ⟨S, eS⟩ : ∃ S, S = dec (a_i h 127) (740 + 647 * m) := ⟨_, rfl⟩
    rw [← eS] at r7' wm
    have wz := wS_Z wm.1 rfl
    have opnT : ∀ e, e < 4 → S 1 e = 1 → ∀ i, i < Nn (S 0 3) → S 10 i = nI e → S 13 i = -1 → a_i H1 (12 + e) 7 = nI i := by
      intro e he h1 i hi h10 h13
      exact ((r7'.2.2.2.2.2.2 e he).2.2.2.2.2.2.2.2.2.1 h1 i hi h10 h13).1
    have sp : ∀ e, e < 4 → a_i H1 (12 + e) 0 = S 1 e := fun e he => (r7'.2.2.2.2.2.2 e he).1
    have T90 : Nn (S 0 3) ≤ 90 := bt_n wm.1.2.2.1 (by omega) (by omega)
    obtain ⟨hc, a3, b1, b2, b3, b4, b5⟩ := tb_loop (d := d) (h := H1) hC1 (fun e he => by
      rw [sp e he]
      rcases (wm.1.2.2.2.2.1 e he).1 with q | q
      · exact Or.inl q
      · obtain ⟨i, i1, i2, i3⟩ := wz.2.1 e he q
        exact Or.inr ⟨q, i, by omega, opnT e he q i i1 i2 i3⟩)
    have hci : ∀ q j, ¬ (q = 1 ∧ (j = 4 ∨ j = 5)) → ¬ (7 ≤ q ∧ q < 16) → ¬ (q = 20 ∨ q = 21) → a_i hc q j = a_i h q j := by
      intro q j z1 z2 z3
      rw [b3 q j z3, we q j (by omega), H0i q j z1]
    have c127 : a_i hc 127 = a_i h 127 := funext fun j => hci 127 j (by omega) (by omega) (by omega)
    have ht : a_t hc = a_t h := by rw [b1.1, wa.1, H0t]
    have hr : a_r hc = a_r h := by rw [b1.2.1, wa.2.1, H0r]
    have h1' : hc.1 = h.1 := by rw [b1.2.2, wa.2.2, eH0]; rfl
    have hl : ∀ q j, ¬ (7 ≤ q ∧ q < 16) → a_l hc q j = a_l h q j := by
      intro q j c
      rw [b2, wf q j (by omega), H0l]
    have hCc : sh_C (a_t hc) (a_r hc) := by rw [ht, hr]; exact hC
    have hRc : sh_R (a_t hc) (a_r hc) := by rw [ht, hr]; exact hR
    have x4 : a_i hc 1 4 = nI m := by rw [b3 1 4 (by omega), we 1 4 (by omega), eH0, ieq rfl rfl]
    have x5 : a_i hc 1 5 = nI ((k + 29) % 30) := by rw [b3 1 5 (by omega), we 1 5 (by omega)]; exact H05
    refine ⟨nI m, hc, s_w hc 127 (UN m (a_i h 127)), fun Q => ?_, fun Q => ?_, ?_⟩
    · have f0 : ¬ nI (m + 1) = 0 := by rw [nI_e0 (by omega)]; omega
      have f1 : nI k + 30 - 1 = nI (k + 29) := by
        rw [show (30 : Int32) = nI 30 from rfl, nI_a]
        exact nI_sb (b := 1) (by omega)
      have f2 : nI (m + 1) - 1 = nI m := nI_sb (b := 1) (by omega)
      have tb : ∀ Q, Cal (d + 3) mX8_takeStepBack [.ref 1] h Q = Q none hc := by
        intro Q
        unfold Cal
        rw [l_X8_takeStepBack]
        simp only [am_en, am_ag, ct_i, ct_r, ct_l, List.length_cons, List.length_nil, List.replicate]
        simp [w_aload_n0 (M := mX8_takeStepBack) dX8_takeStepBack_0, w_aload_n0 (M := mX8_takeStepBack) dX8_takeStepBack_1, w_getI (M := mX8_takeStepBack) dX8_takeStepBack_2 f_8_77 rfl (by decide) (by decide), w_bipush (M := mX8_takeStepBack) (v := 30) dX8_takeStepBack_5 rfl, w_iadd (M := mX8_takeStepBack) dX8_takeStepBack_7, w_iconst (M := mX8_takeStepBack) (v := 1) dX8_takeStepBack_8 rfl, w_isub (M := mX8_takeStepBack) dX8_takeStepBack_9, w_bipush (M := mX8_takeStepBack) (v := 30) dX8_takeStepBack_10 rfl, w_irem (M := mX8_takeStepBack) dX8_takeStepBack_12, w_putI (M := mX8_takeStepBack) dX8_takeStepBack_13 f_8_77 rfl (Or.inl rfl), w_aload_n0 (M := mX8_takeStepBack) dX8_takeStepBack_16, w_dup_int (M := mX8_takeStepBack) dX8_takeStepBack_17, w_dup_ref (M := mX8_takeStepBack) dX8_takeStepBack_17, w_getI (M := mX8_takeStepBack) dX8_takeStepBack_18 f_8_74 rfl (by decide) (by decide), w_iconst (M := mX8_takeStepBack) (v := 1) dX8_takeStepBack_21 rfl, w_isub (M := mX8_takeStepBack) dX8_takeStepBack_22, w_putI (M := mX8_takeStepBack) dX8_takeStepBack_23 f_8_74 rfl (Or.inl rfl), w_aload_n0 (M := mX8_takeStepBack) dX8_takeStepBack_26, w_getO (M := mX8_takeStepBack) dX8_takeStepBack_27 f_8_21 rfl (by decide) (by decide), w_aload_n0 (M := mX8_takeStepBack) dX8_takeStepBack_30, w_aload_n0 (M := mX8_takeStepBack) dX8_takeStepBack_31, w_getI (M := mX8_takeStepBack) dX8_takeStepBack_32 f_8_77 rfl (by decide) (by decide), c_8_70 (M := mX8_takeStepBack) dX8_takeStepBack_35 rfl, c_8_64 (M := mX8_takeStepBack) dX8_takeStepBack_38 rfl, w_iconst (M := mX8_takeStepBack) (v := 0) dX8_takeStepBack_41 rfl, w_istore_n (M := mX8_takeStepBack) (i := 1) dX8_takeStepBack_42 rfl (by decide), w_iconst (M := mX8_takeStepBack) (v := 4) dX8_takeStepBack_44 rfl, w_ic_ge (M := mX8_takeStepBack) (tgt := 88) dX8_takeStepBack_45 (by decide), w_aload_n0 (M := mX8_takeStepBack) dX8_takeStepBack_48, w_getO (M := mX8_takeStepBack) dX8_takeStepBack_49 f_8_21 rfl (by decide) (by decide), w_getA (M := mX8_takeStepBack) dX8_takeStepBack_52 f_8_104 rfl (by decide) (by decide), w_iload_n1 (M := mX8_takeStepBack) dX8_takeStepBack_55, w_aaload (M := mX8_takeStepBack) dX8_takeStepBack_56, w_getZ (M := mX8_takeStepBack) dX8_takeStepBack_57 f_8_108 rfl (by decide) (by decide), w_if_eq (M := mX8_takeStepBack) (tgt := 82) dX8_takeStepBack_60 (by decide), w_aload_n0 (M := mX8_takeStepBack) dX8_takeStepBack_63, w_getO (M := mX8_takeStepBack) dX8_takeStepBack_64 f_8_30 rfl (by decide) (by decide), w_aload_n0 (M := mX8_takeStepBack) dX8_takeStepBack_67, w_getO (M := mX8_takeStepBack) dX8_takeStepBack_68 f_8_21 rfl (by decide) (by decide), w_getA (M := mX8_takeStepBack) dX8_takeStepBack_71 f_8_104 rfl (by decide) (by decide), w_iload_n1 (M := mX8_takeStepBack) dX8_takeStepBack_74, w_aaload (M := mX8_takeStepBack) dX8_takeStepBack_75, w_getI (M := mX8_takeStepBack) dX8_takeStepBack_76 f_8_114 rfl (by decide) (by decide), c_8_117 (M := mX8_takeStepBack) dX8_takeStepBack_79 rfl, w_iinc1 (M := mX8_takeStepBack) (v := 1) dX8_takeStepBack_82 rfl (by decide), w_goto (M := mX8_takeStepBack) (tgt := 43) dX8_takeStepBack_85 (by decide), w_vret (M := mX8_takeStepBack) dX8_takeStepBack_88 rfl, Kn_v_, Kn_n_, kl_i_, kl_a_, kl_l_, kl_n_, s1_0_, s2_0_, s1_1, s1_2, s1_3, s1_4, s1_5, s1_6, s1_7, s1_8, s1_9, s1_10, s1_11, s1_12, s1_13, s1_14, s2_1, s2_2, s2_3, s2_4, s2_5, s2_6, s2_7, s2_8, s2_9, s2_10, s2_11, s2_12, s2_13, s2_14, List.map_nil, List.map_cons, List.sum_nil, List.sum_cons, ct_i_, ct_r_, ct_l_, t_si_, t_sl_, t_sr_, n_si_, n_sl_, n_sr_, i_si_, i_sl_, i_sr_, l_si_, l_sl_, l_sr_, r_si_, r_sl_, r_sr_, vr_s_, vr_n_, nz_0_, nz_1_, hC.e, k83, e14, f1, f2, nI_rm30 (k := k + 29) (by omega), ← eH0, hC0.e, H05, sr, w0]
        exact Eq.to_iff (a3 Q)
      unfold Cal
      rw [l_X11_undo]
      simp only [am_en, am_ag, ct_i, ct_r, ct_l, List.length_cons, List.length_nil, List.replicate]
      simp [w_aload_n0 (M := mX11_undo) dX11_undo_0, w_getO (M := mX11_undo) dX11_undo_1 f_11_10 rfl (by decide) (by decide), w_getI (M := mX11_undo) dX11_undo_4 f_11_207 rfl (by decide) (by decide), w_if_ne (M := mX11_undo) (tgt := 17) dX11_undo_7 (by decide), w_aload_n0 (M := mX11_undo) dX11_undo_10, w_iconst (M := mX11_undo) (v := 2) dX11_undo_11 rfl, w_iconst (M := mX11_undo) (v := (-1)) dX11_undo_12 rfl, c_11_60 (M := mX11_undo) dX11_undo_13 rfl, w_iret (M := mX11_undo) dX11_undo_16 rfl, w_aload_n0 (M := mX11_undo) dX11_undo_17, w_getO (M := mX11_undo) dX11_undo_18 f_11_10 rfl (by decide) (by decide), c_11_210 (M := mX11_undo) dX11_undo_21 rfl, w_aload_n0 (M := mX11_undo) dX11_undo_24, w_getO (M := mX11_undo) dX11_undo_25 f_11_10 rfl (by decide) (by decide), w_getI (M := mX11_undo) dX11_undo_28 f_11_207 rfl (by decide) (by decide), w_iret (M := mX11_undo) dX11_undo_31 rfl, Kn_v_, Kn_n_, kl_i_, kl_a_, kl_l_, kl_n_, s1_0_, s2_0_, s1_1, s1_2, s1_3, s1_4, s1_5, s1_6, s1_7, s1_8, s1_9, s1_10, s1_11, s1_12, s1_13, s1_14, s2_1, s2_2, s2_3, s2_4, s2_5, s2_6, s2_7, s2_8, s2_9, s2_10, s2_11, s2_12, s2_13, s2_14, List.map_nil, List.map_cons, List.sum_nil, List.sum_cons, ct_i_, ct_r_, ct_l_, t_si_, t_sl_, t_sr_, n_si_, n_sl_, n_sr_, i_si_, i_sl_, i_sr_, l_si_, l_sl_, l_sr_, r_si_, r_sl_, r_sr_, vr_s_, vr_n_, nz_0_, nz_1_, hC, hC.e, e14, f0, tb, hCc.e, x4]
    · have := q_X12_undo (d := d + 3) (Q := Q) (h := hc) (eq_true hRc) (n := m) (by rw [c127]; exact n1) (by omega)
      rw [c127] at this
      exact this
    · obtain ⟨hv, ev⟩ : ∃ hv, hv = s_w hc 127 (UN m (a_i h 127)) := ⟨_, rfl⟩
      rw [← ev]
      have vg : a_i hv 127 = UN m (a_i h 127) := by rw [ev]; exact iwe rfl
      have vc : ∀ q, ¬ q = 127 → a_i hv q = a_i hc q := by intro q c; rw [ev]; exact iwn c
      have vI : ∀ q j, ¬ q = 127 → ¬ (q = 1 ∧ (j = 4 ∨ j = 5)) → ¬ (7 ≤ q ∧ q < 16) → ¬ (q = 20 ∨ q = 21) → a_i hv q j = a_i h q j := by
        intro q j c1 c2 c3 c4
        rw [vc q c1]
        exact hci q j c2 c3 c4
      have vt : a_t hv = a_t h := by rw [ev]; exact ht
      have vr : a_r hv = a_r h := by rw [ev]; exact hr
      have v1 : hv.1 = h.1 := by rw [ev]; exact h1'
      have vn : a_n hv = a_n h := congrArg Prod.fst v1
      have vz : a_z hv = a_z h := congrArg Prod.snd v1
      have vl : a_l hv = a_l hc := by rw [ev]; rfl
      have vJ : ∀ q j, ¬ (7 ≤ q ∧ q < 16) → a_l hv q j = a_l h q j := by intro q j c; rw [vl]; exact hl q j c
      have b0 := bt_n (m := 4) r5.1 (by omega) (by omega)
      have b4' := bt_n (m := 8) r5.2.2.2.2.1 (by omega) (by omega)
      have b5' := bt_n (m := 8) r5.2.2.2.2.2.1 (by omega) (by omega)
      have b1' := bt_n (m := 4) r5.2.1 (by omega) (by omega)
      have lo : ∀ j, j < 90 → ¬ j = 3 → UN m (a_i h 127) j = a_i h 127 j := fun j z1 z2 => UN_o z2 (by omega)
      have g3 : Nn (UN m (a_i h 127) 3) = m := by rw [UN_3]; exact Nn_n (by omega)
      have hL : ∀ o, (o = 0 ∨ o = 33) → ∀ i q, i < 30 → a_r h (25 + o) i = some q → (∀ k j, k < 9 → a_i hv (q + k) j = a_i h (q + k) j) ∧ ∀ e, e < 4 → a_l hv (q + 5 + e) 13 = a_l h (q + 5 + e) 13 := by
        intro o ho i q hi hq
        have y := (s3.2.1 o i q ho hi hq).1
        exact ⟨fun k j _ => vI _ _ (by omega) (by omega) (by omega) (by omega), fun e _ => vJ _ _ (by omega)⟩
      refine ⟨⟨by rw [vt, vr]; exact s1, by rw [vt, vr]; exact s2, by rw [vn, vt, vr]; exact s3, ?_, by rw [vn, vz, vr]; exact s5⟩, ⟨⟨?_, ?_, ?_, ?_, ?_⟩, ?_, ?_, ?_, ?_⟩, ?_, ?_, ?_, ?_⟩
      · rw [vr, vt, vn]
        exact rPr_fr (fun q j hq => vI _ _ (by omega) (by omega) (by omega) (by omega)) s4
      · rw [vg]
        exact rTo_fr (fun k j hk => vI _ _ (by omega) (by omega) (by omega) (by omega)) (lo 0 (by omega) (by omega)) (fun k h1 h2 => lo k (by omega) (by omega)) r1
      · rw [vg]
        unfold rMs at r2 ⊢
        simp (disch := omega) only [vI, lo]
        exact r2
      · rw [vg]
        exact rAg_fr (fun k j hk => vI _ _ (by omega) (by omega) (by omega) (by omega)) (lo 4 (by omega) (by omega)) (fun k h1 h2 => lo k (by omega) (by omega)) r3
      · rw [vg]
        exact rHd_fr (fun k j hk => vI _ _ (by omega) (by omega) (by omega) (by omega)) (lo 5 (by omega) (by omega)) (fun k h1 h2 => lo k (by omega) (by omega)) r4
      · rw [vg]
        refine wG_3 (fun k h1 h2 => lo k (by omega) h2) ?_ r5
        rw [UN_3]
        unfold bt
        rw [nI_i (by omega)]
        omega
      · rw [vg, UN_d, ← eS]
        refine rLn_fr (I := a_i H1) (J := a_l H1) (fun k j hk => ?_) (fun e he => by rw [vl, b2]) r7'
        rw [vc _ (by omega), b3 _ _ (by omega)]
      · rw [vg, UN_d, ← eS]
        have wo := wm.2.1
        refine ⟨fun i hi => ?_, fun i hi => ?_⟩
        · obtain ⟨o1, o2, o3, o4⟩ := wo.2.2.1 i hi
          have rb := r7.1 i (by have := wo.1; omega)
          rw [vc _ (by omega), vc _ (by omega), vc _ (by omega), vc _ (by omega), vc _ (by omega), hci (17 + 0) i (by omega) (by omega) (by omega), hci (18 + 0) i (by omega) (by omega) (by omega), hci (19 + 0) i (by omega) (by omega) (by omega), o1, o2, o3]
          refine ⟨rb.1, rb.2.1, rb.2.2.1, ?_⟩
          show a_i hc 20 i = S 13 i ∧ a_i hc 21 i = S 14 i
          obtain ⟨f1, f2, f3, f4⟩ := wz.1 i hi
          obtain ⟨ee, ee1, ee2, ee3⟩ := btn f1 (by omega) (by omega)
          have ee4 : ee < 4 := by unfold bt at f1; omega
          by_cases c : S 13 i = -1
          · have s14 : S 14 i = 0 ∧ S 1 ee = 1 := by
              rcases f4 with q | ⟨q, _⟩
              · exact ⟨q.2.1, by rw [← ee3]; exact q.2.2⟩
              · rw [c] at q
                have u1 : (-1 : Int32).toInt = -1 := rfl
                unfold bt at q f2
                omega
            have z := b4 i ee (by omega) ee4 (by rw [sp ee ee4]; exact s14.2) (opnT ee ee4 s14.2 i hi ee1 c)
            rw [z.1, z.2, c, s14.1]
            exact ⟨rfl, rfl⟩
          · have z := b5 i (fun e' he' h0 h7 => by
              rw [sp e' he'] at h0
              obtain ⟨i', i1, i2, i3⟩ := wz.2.1 e' he' h0
              rw [opnT e' he' h0 i' i1 i2 i3, nI_inj (by omega) (by omega)] at h7
              subst h7
              exact c i3)
            rw [z.1, z.2, we 20 i (by omega), we 21 i (by omega), H0i 20 i (by omega), H0i 21 i (by omega)]
            rcases o4 with q | q
            · exact absurd q.1 c
            · rw [q.1, q.2]
              exact rb.2.2.2
        · have rb := r7.2 i (by have := wo.2.1; omega)
          obtain ⟨o1, o2, o3⟩ := wo.2.2.2 i hi
          rw [vI _ _ (by omega) (by omega) (by omega) (by omega), vI _ _ (by omega) (by omega) (by omega) (by omega), vI _ _ (by omega) (by omega) (by omega) (by omega), o1, o2, o3]
          exact rb
      · rw [vg, vr]
        refine ⟨by rw [UN_3]; show a_i hv 1 4 = _; rw [vc _ (by omega)]; exact x4, ⟨(k + 29) % 30, by omega, by show a_i hv 1 5 = _; rw [vc _ (by omega)]; exact x5, fun j hj => ?_⟩, fun i q hi hq e he => ?_⟩
        · rw [g3] at hj ⊢
          obtain ⟨q, y1, y2⟩ := k84 j (by omega)
          rw [n3] at y1
          refine ⟨q, ?_, ?_⟩
          · rw [show ((k + 29) % 30 + 30 - m + j) % 30 = (k + 30 - (m + 1) + j) % 30 by omega]
            exact y1
          · rw [UN_s]
            have z := hL 0 (Or.inl rfl) _ q (Nat.mod_lt _ (by omega)) y1
            exact rLn_fr z.1 z.2 y2
        · have z := (hL 0 (Or.inl rfl) i q hi hq).1 (5 + e) 0 (by omega)
          rw [← Nat.add_assoc] at z
          rw [z]
          exact k85 i q hi hq e he
      · rw [vg]
        unfold wH
        rw [UN_d, g3, lo 0 (by omega) (by omega), e3, ← eS]
        refine ⟨wm.1, fun j hj => ?_⟩
        rw [UN_s]
        have z := r9.2 j (by omega)
        rw [e3] at z
        refine ⟨z.1, wm.2.2 j hj, fun j' hj' => ?_⟩
        rw [UN_s]
        exact z.2.2 j' hj'
      · rw [vr, show a_i hv 128 = a_i h 128 from funext fun j => vI _ _ (by omega) (by omega) (by omega) (by omega)]
        exact rC_g (fun k j h1 h2 => vI _ _ (by omega) (by omega) (by omega) (by omega)) (fun k _ _ => vJ _ _ (by omega)) (fun i q hi hq => ⟨hq, hL 33 (Or.inr rfl) i q hi hq⟩) (fun i q hi hn' hq => by rw [hn'] at hq; exact absurd hq (by simp)) (fun _ _ => rfl) c1
      · exact rTp_fr (fun j => vI _ _ (by omega) (by omega) (by omega) (by omega)) (fun j => vI _ _ (by omega) (by omega) (by omega) (by omega)) (fun j _ => vI _ _ (by omega) (by omega) (by omega) (by omega)) (fun j => vI _ _ (by omega) (by omega) (by omega) (by omega)) tp
      · rw [vI 128 1 (by omega) (by omega) (by omega) (by omega), vg, lo 1 (by omega) (by omega)]; exact tn
      · intro t ht'
        rw [vg, lo 1 (by omega) (by omega)] at ht'
        exact rTx_fr (fun k j hk => vI _ _ (by omega) (by omega) (by omega) (by omega)) (fun k j h1 h2 => vI _ _ (by omega) (by omega) (by omega) (by omega)) (tx t ht')
end UNDO
