/-! may one more be opened; a sign or word that must come -/
section OPEN
variable {d n j : Nat} {h : am_h} {Q : Option Value → am_h → Prop} {a : Int32}
/-- after a fault -/
def flA (h : am_h) (a : Int32) : am_h := if a_i h 86 2 = 0 then s_i (s_i (s_i h 86 2 a) 86 3 (a_i h 86 12)) 86 10 1 else s_i h 86 10 1
theorem q_X7_fails (hC : sh_C (a_t h) (a_r h)) : Cal d mX7_fail [.ref 86, .int a] h Q = Q none (flA h a) := by
  unfold flA
  by_cases f0 : a_i h 86 2 = 0
  · rw [if_pos f0]; exact q_X7_fail hC f0
  · rw [if_neg f0]; exact q_X7_fail_f hC f0
theorem q_X7_mayOpen (hC : sh_C (a_t h) (a_r h)) {o : Nat} (lo : o < 400) : Cal (d + 1) mX7_mayOpen [.ref 86, .int (nI o)] h Q = if o < 8 then Q (some (.int 1)) h else Q (some (.int 0)) (flA h 3) := by
  have fa : ∀ Q, Cal d mX7_fail [.ref 86, .int 3] h Q = Q none (flA h 3) := fun Q => q_X7_fails hC
  unfold Cal
  simp only [am_en, am_ag, ct_i, ct_r, ct_l, List.length_cons, List.length_nil, List.replicate, show m_l mX7_mayOpen = 2 from rfl]
  by_cases c : o < 8
  · have c1 : (nI o < 8) = True := by rw [show (8 : Int32) = nI 8 from rfl]; exact nI_ltT c (by omega)
    have c2 : (8 ≤ nI o) = False := by rw [show (8 : Int32) = nI 8 from rfl, nI_cle (by omega) (by omega)]; exact eq_false (by omega)
    rw [if_pos c]
    simp [w_iload_n1 (M := mX7_mayOpen) dX7_mayOpen_0, w_bipush (M := mX7_mayOpen) (v := 8) dX7_mayOpen_1 rfl, w_ic_lt (M := mX7_mayOpen) (tgt := 13) dX7_mayOpen_3 (by decide), w_aload_n0 (M := mX7_mayOpen) dX7_mayOpen_6, w_iconst (M := mX7_mayOpen) (v := 3) dX7_mayOpen_7 rfl, c_7_117 (M := mX7_mayOpen) dX7_mayOpen_8 rfl, w_iconst (M := mX7_mayOpen) (v := 0) dX7_mayOpen_11 rfl, w_ireturn (M := mX7_mayOpen) dX7_mayOpen_12 rfl, w_iconst (M := mX7_mayOpen) (v := 1) dX7_mayOpen_13 rfl, w_ireturn (M := mX7_mayOpen) dX7_mayOpen_14 rfl, Kn_v_, Kn_n_, kl_i_, kl_a_, kl_l_, kl_n_, s1_0_, s2_0_, s1_1, s1_2, s1_3, s1_4, s1_5, s1_6, s1_7, s1_8, s1_9, s1_10, s1_11, s1_12, s1_13, s1_14, s2_1, s2_2, s2_3, s2_4, s2_5, s2_6, s2_7, s2_8, s2_9, s2_10, s2_11, s2_12, s2_13, s2_14, List.map_nil, List.map_cons, List.sum_nil, List.sum_cons, ct_i_, ct_r_, ct_l_, t_si_, t_sl_, t_sr_, n_si_, n_sl_, n_sr_, i_si_, i_sl_, i_sr_, l_si_, l_sl_, l_sr_, r_si_, r_sl_, r_sr_, vr_s_, vr_n_, nz_0_, nz_1_, hC.e, c1, c2, fa]
  · have c1 : (nI o < 8) = False := by rw [show (8 : Int32) = nI 8 from rfl]; exact nI_ltF (by omega) (by omega)
    have c2 : (8 ≤ nI o) = True := by rw [show (8 : Int32) = nI 8 from rfl, nI_cle (by omega) (by omega)]; exact eq_true (by omega)
    rw [if_neg c]
    simp [w_iload_n1 (M := mX7_mayOpen) dX7_mayOpen_0, w_bipush (M := mX7_mayOpen) (v := 8) dX7_mayOpen_1 rfl, w_ic_lt (M := mX7_mayOpen) (tgt := 13) dX7_mayOpen_3 (by decide), w_aload_n0 (M := mX7_mayOpen) dX7_mayOpen_6, w_iconst (M := mX7_mayOpen) (v := 3) dX7_mayOpen_7 rfl, c_7_117 (M := mX7_mayOpen) dX7_mayOpen_8 rfl, w_iconst (M := mX7_mayOpen) (v := 0) dX7_mayOpen_11 rfl, w_ireturn (M := mX7_mayOpen) dX7_mayOpen_12 rfl, w_iconst (M := mX7_mayOpen) (v := 1) dX7_mayOpen_13 rfl, w_ireturn (M := mX7_mayOpen) dX7_mayOpen_14 rfl, Kn_v_, Kn_n_, kl_i_, kl_a_, kl_l_, kl_n_, s1_0_, s2_0_, s1_1, s1_2, s1_3, s1_4, s1_5, s1_6, s1_7, s1_8, s1_9, s1_10, s1_11, s1_12, s1_13, s1_14, s2_1, s2_2, s2_3, s2_4, s2_5, s2_6, s2_7, s2_8, s2_9, s2_10, s2_11, s2_12, s2_13, s2_14, List.map_nil, List.map_cons, List.sum_nil, List.sum_cons, ct_i_, ct_r_, ct_l_, t_si_, t_sl_, t_sr_, n_si_, n_sl_, n_sr_, i_si_, i_sl_, i_sr_, l_si_, l_sl_, l_sr_, r_si_, r_sl_, r_sr_, vr_s_, vr_n_, nz_0_, nz_1_, hC.e, c1, c2, fa]
end OPEN
