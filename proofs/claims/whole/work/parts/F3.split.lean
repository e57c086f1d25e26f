/-! a number of the tape, a word of the tape -/
section SPLIT
variable {d c k n : Nat} {h : am_h} {Q : Option Value → am_h → Prop} {t : Nat → Nat}
/-- behind a number: where, what it is (10000 at most) -/
def scn (t : Nat → Nat) (n : Nat) : Nat → Nat → Nat → Nat × Nat
  | 0, i, a => (i, a)
  | k + 1, i, a => if i < n ∧ dg (t i) = true then scn t n k (i + 1) (min 10000 (a * 10 + (t i - 48))) else (i, a)
/-- behind a word -/
def scw (t : Nat → Nat) (n : Nat) : Nat → Nat → Nat
  | 0, i => i
  | k + 1, i => if i < n ∧ lt (t i) = true then scw t n k (i + 1) else i
/-- the tape of the one side -/
def tpC (h : am_h) (t : Nat → Nat) (n : Nat) : Prop := sh_C (a_t h) (a_r h) ∧ a_i h 86 1 = nI n ∧ n ≤ 300 ∧ (∀ j, j < n → a_i h 87 j = nI (t j) ∧ t j < 256)
theorem snl (T : tpC h t n) (fr : Int32) : ∀ (k i a : Nat), i + k = n → a ≤ 10000 → WP (d + 1) mX7_splitNumber 4 [some (.ref 86), some (.int fr), some (.int (nI a)), some (.int (nI i))] [] h Q = WP (d + 1) mX7_splitNumber 51 [some (.ref 86), some (.int fr), some (.int (nI (scn t n k i a).2)), some (.int (nI (scn t n k i a).1))] [] h Q := by
  obtain ⟨hC, e1, hn, ht⟩ := T
  intro k
  induction k with
  | zero =>
    intro i a e ha
    have c1 : (nI i < nI n) = False := nI_ltF (by omega) (by omega)
    have c2 : (nI n ≤ nI i) = True := by rw [nI_cle (by omega) (by omega)]; exact eq_true (by omega)
    simp [w_iload_n3 (M := mX7_splitNumber) dX7_splitNumber_4, w_aload_n0 (M := mX7_splitNumber) dX7_splitNumber_5, w_getI (M := mX7_splitNumber) dX7_splitNumber_6 f_7_31 rfl (by decide) (by decide), w_ic_ge (M := mX7_splitNumber) (tgt := 51) dX7_splitNumber_9 (by decide), Kn_v_, Kn_n_, kl_i_, kl_a_, kl_l_, kl_n_, s1_0_, s2_0_, s1_1, s1_2, s1_3, s1_4, s1_5, s1_6, s1_7, s1_8, s1_9, s1_10, s1_11, s1_12, s1_13, s1_14, s2_1, s2_2, s2_3, s2_4, s2_5, s2_6, s2_7, s2_8, s2_9, s2_10, s2_11, s2_12, s2_13, s2_14, List.map_nil, List.map_cons, List.sum_nil, List.sum_cons, ct_i_, ct_r_, ct_l_, t_si_, t_sl_, t_sr_, n_si_, n_sl_, n_sr_, i_si_, i_sl_, i_sr_, l_si_, l_sl_, l_sr_, r_si_, r_sl_, r_sr_, vr_s_, vr_n_, nz_0_, nz_1_, hC.e, e1, c1, c2, scn]
  | succ k ih =>
    intro i a e ha
    obtain ⟨t1, t2⟩ := ht i (by omega)
    have c1 : (nI i < nI n) = True := nI_ltT (by omega) (by omega)
    have c2 : (nI n ≤ nI i) = False := by rw [nI_cle (by omega) (by omega)]; exact eq_false (by omega)
    have x1 : am_in1 (nI i) 300 = True := by rw [in1_n (by omega)]; exact eq_true (by omega)
    have x2 := nI_c (a := i) (by omega)
    have x3 : nI i + 1 = nI (i + 1) := nI_a (b := 1)
    have dq : ∀ Q, Cal d mX7_isDigit [.int (nI (t i))] h Q = Q (some (.int (if dg (t i) then 1 else 0))) h := fun Q => q_X7_isDigit t2
    by_cases g : dg (t i) = true
    · rw [if_pos g] at dq
      have g2 := g
      unfold dg at g2
      rw [decide_eq_true_eq] at g2
      have m1 : nI a * 10 + nI (t i) - 48 = nI (a * 10 + (t i - 48)) := by
        rw [show (10 : Int32) = nI 10 from rfl, show (48 : Int32) = nI 48 from rfl, nI_m, nI_a, nI_sb (by omega)]
        exact congrArg nI (by omega)
      have m2 : (if nI (a * 10 + (t i - 48)) < 10000 then nI (a * 10 + (t i - 48)) else 10000) = nI (min 10000 (a * 10 + (t i - 48))) := by
        rw [show (10000 : Int32) = nI 10000 from rfl]
        by_cases z : a * 10 + (t i - 48) < 10000
        · rw [if_pos (by rw [nI_ltT z (by omega)]; trivial), Nat.min_eq_right (by omega)]
        · rw [if_neg (by rw [nI_ltF (by omega) (by omega)]; exact id), Nat.min_eq_left (by omega)]
      have s1 : WP (d + 1) mX7_splitNumber 4 [some (.ref 86), some (.int fr), some (.int (nI a)), some (.int (nI i))] [] h Q = WP (d + 1) mX7_splitNumber 4 [some (.ref 86), some (.int fr), some (.int (nI (min 10000 (a * 10 + (t i - 48))))), some (.int (nI (i + 1)))] [] h Q := by
        have s2 : WP (d + 1) mX7_splitNumber 4 [some (.ref 86), some (.int fr), some (.int (nI a)), some (.int (nI i))] [] h Q = WP (d + 1) mX7_splitNumber 45 [some (.ref 86), some (.int fr), some (.int (nI (min 10000 (a * 10 + (t i - 48))))), some (.int (nI i))] [] h Q := by
          simp [w_iload_n3 (M := mX7_splitNumber) dX7_splitNumber_4, w_aload_n0 (M := mX7_splitNumber) dX7_splitNumber_5, w_getI (M := mX7_splitNumber) dX7_splitNumber_6 f_7_31 rfl (by decide) (by decide), w_ic_ge (M := mX7_splitNumber) (tgt := 51) dX7_splitNumber_9 (by decide), w_aload_n0 (M := mX7_splitNumber) dX7_splitNumber_12, w_getA (M := mX7_splitNumber) dX7_splitNumber_13 f_7_9 rfl (by decide) (by decide), w_iload_n3 (M := mX7_splitNumber) dX7_splitNumber_16, w_iaload (M := mX7_splitNumber) dX7_splitNumber_17, c_7_61 (M := mX7_splitNumber) dX7_splitNumber_18 rfl, w_if_eq (M := mX7_splitNumber) (tgt := 51) dX7_splitNumber_21 (by decide), w_sipush (M := mX7_splitNumber) (v := 10000) dX7_splitNumber_24 rfl, w_iload_n2 (M := mX7_splitNumber) dX7_splitNumber_27, w_bipush (M := mX7_splitNumber) (v := 10) dX7_splitNumber_28 rfl, w_imul (M := mX7_splitNumber) dX7_splitNumber_30, w_aload_n0 (M := mX7_splitNumber) dX7_splitNumber_31, w_getA (M := mX7_splitNumber) dX7_splitNumber_32 f_7_9 rfl (by decide) (by decide), w_iload_n3 (M := mX7_splitNumber) dX7_splitNumber_35, w_iaload (M := mX7_splitNumber) dX7_splitNumber_36, w_iadd (M := mX7_splitNumber) dX7_splitNumber_37, w_bipush (M := mX7_splitNumber) (v := 48) dX7_splitNumber_38 rfl, w_isub (M := mX7_splitNumber) dX7_splitNumber_40, w_mn (M := mX7_splitNumber) dX7_splitNumber_41 lk_7_82, w_istore_n (M := mX7_splitNumber) (i := 2) dX7_splitNumber_44 rfl (by decide), Kn_v_, Kn_n_, kl_i_, kl_a_, kl_l_, kl_n_, s1_0_, s2_0_, s1_1, s1_2, s1_3, s1_4, s1_5, s1_6, s1_7, s1_8, s1_9, s1_10, s1_11, s1_12, s1_13, s1_14, s2_1, s2_2, s2_3, s2_4, s2_5, s2_6, s2_7, s2_8, s2_9, s2_10, s2_11, s2_12, s2_13, s2_14, List.map_nil, List.map_cons, List.sum_nil, List.sum_cons, ct_i_, ct_r_, ct_l_, t_si_, t_sl_, t_sr_, n_si_, n_sl_, n_sr_, i_si_, i_sl_, i_sr_, l_si_, l_sl_, l_sr_, r_si_, r_sl_, r_sr_, vr_s_, vr_n_, nz_0_, nz_1_, hC.e, e1, c1, c2, x1, x2, t1, dq, m1, m2]
        rw [s2]
        simp [w_iinc3 (M := mX7_splitNumber) (v := 1) dX7_splitNumber_45 rfl (by decide), w_goto (M := mX7_splitNumber) (tgt := 4) dX7_splitNumber_48 (by decide), Kn_v_, Kn_n_, kl_i_, kl_a_, kl_l_, kl_n_, s1_0_, s2_0_, s1_1, s1_2, s1_3, s1_4, s1_5, s1_6, s1_7, s1_8, s1_9, s1_10, s1_11, s1_12, s1_13, s1_14, s2_1, s2_2, s2_3, s2_4, s2_5, s2_6, s2_7, s2_8, s2_9, s2_10, s2_11, s2_12, s2_13, s2_14, List.map_nil, List.map_cons, List.sum_nil, List.sum_cons, ct_i_, ct_r_, ct_l_, t_si_, t_sl_, t_sr_, n_si_, n_sl_, n_sr_, i_si_, i_sl_, i_sr_, l_si_, l_sl_, l_sr_, r_si_, r_sl_, r_sr_, vr_s_, vr_n_, nz_0_, nz_1_, x3]
      rw [s1, ih (i + 1) _ (by omega) (Nat.min_le_left _ _)]
      have es : scn t n (k + 1) i a = scn t n k (i + 1) (min 10000 (a * 10 + (t i - 48))) := by
        show (if _ then _ else _) = _
        rw [if_pos ⟨by omega, g⟩]
      rw [es]
    · rw [if_neg g] at dq
      have es : scn t n (k + 1) i a = (i, a) := by
        show (if _ then _ else _) = _
        rw [if_neg (fun z => g z.2)]
      rw [es]
      simp [w_iload_n3 (M := mX7_splitNumber) dX7_splitNumber_4, w_aload_n0 (M := mX7_splitNumber) dX7_splitNumber_5, w_getI (M := mX7_splitNumber) dX7_splitNumber_6 f_7_31 rfl (by decide) (by decide), w_ic_ge (M := mX7_splitNumber) (tgt := 51) dX7_splitNumber_9 (by decide), w_aload_n0 (M := mX7_splitNumber) dX7_splitNumber_12, w_getA (M := mX7_splitNumber) dX7_splitNumber_13 f_7_9 rfl (by decide) (by decide), w_iload_n3 (M := mX7_splitNumber) dX7_splitNumber_16, w_iaload (M := mX7_splitNumber) dX7_splitNumber_17, c_7_61 (M := mX7_splitNumber) dX7_splitNumber_18 rfl, w_if_eq (M := mX7_splitNumber) (tgt := 51) dX7_splitNumber_21 (by decide), Kn_v_, Kn_n_, kl_i_, kl_a_, kl_l_, kl_n_, s1_0_, s2_0_, s1_1, s1_2, s1_3, s1_4, s1_5, s1_6, s1_7, s1_8, s1_9, s1_10, s1_11, s1_12, s1_13, s1_14, s2_1, s2_2, s2_3, s2_4, s2_5, s2_6, s2_7, s2_8, s2_9, s2_10, s2_11, s2_12, s2_13, s2_14, List.map_nil, List.map_cons, List.sum_nil, List.sum_cons, ct_i_, ct_r_, ct_l_, t_si_, t_sl_, t_sr_, n_si_, n_sl_, n_sr_, i_si_, i_sl_, i_sr_, l_si_, l_sl_, l_sr_, r_si_, r_sl_, r_sr_, vr_s_, vr_n_, nz_0_, nz_1_, hC.e, e1, c1, c2, x1, x2, t1, dq]
theorem q_X7_splitNumber (T : tpC h t n) {i : Nat} (hi : i ≤ n) (hk : a_i h 86 9 = nI k) (lk : k < 301) : Cal (d + 1) mX7_splitNumber [.ref 86, .int (nI i)] h Q = Q (some (.int (nI (scn t n (n - i) i 0).1))) (tkA h k 2 (nI (scn t n (n - i) i 0).2) (nI i)) := by
  have lp := snl (d := d) (Q := Q) T (nI i) (n - i) i 0 (by omega) (by omega)
  rw [show nI 0 = 0 from rfl] at lp
  have hC := T.1
  have ad : ∀ a1 a2 a3 Q, Cal d mX7_addToken [.ref 86, .int a1, .int a2, .int a3] h Q = Q none (tkA h k a1 a2 a3) := fun a1 a2 a3 Q => q_X7_addToken hC hk lk
  have s1 : Cal (d + 1) mX7_splitNumber [.ref 86, .int (nI i)] h Q = WP (d + 1) mX7_splitNumber 4 [some (.ref 86), some (.int (nI i)), some (.int 0), some (.int (nI i))] [] h Q := by
    unfold Cal
    simp only [am_en, am_ag, ct_i, ct_r, ct_l, List.length_cons, List.length_nil, List.replicate, show m_l mX7_splitNumber = 4 from rfl]
    simp [w_iconst (M := mX7_splitNumber) (v := 0) dX7_splitNumber_0 rfl, w_istore_n (M := mX7_splitNumber) (i := 2) dX7_splitNumber_1 rfl (by decide), w_iload_n1 (M := mX7_splitNumber) dX7_splitNumber_2, w_istore_n (M := mX7_splitNumber) (i := 3) dX7_splitNumber_3 rfl (by decide), Kn_v_, Kn_n_, kl_i_, kl_a_, kl_l_, kl_n_, s1_0_, s2_0_, s1_1, s1_2, s1_3, s1_4, s1_5, s1_6, s1_7, s1_8, s1_9, s1_10, s1_11, s1_12, s1_13, s1_14, s2_1, s2_2, s2_3, s2_4, s2_5, s2_6, s2_7, s2_8, s2_9, s2_10, s2_11, s2_12, s2_13, s2_14, List.map_nil, List.map_cons, List.sum_nil, List.sum_cons, ct_i_, ct_r_, ct_l_, t_si_, t_sl_, t_sr_, n_si_, n_sl_, n_sr_, i_si_, i_sl_, i_sr_, l_si_, l_sl_, l_sr_, r_si_, r_sl_, r_sr_, vr_s_, vr_n_, nz_0_, nz_1_]
  rw [s1, lp]
  simp [w_aload_n0 (M := mX7_splitNumber) dX7_splitNumber_51, w_iconst (M := mX7_splitNumber) (v := 2) dX7_splitNumber_52 rfl, w_iload_n2 (M := mX7_splitNumber) dX7_splitNumber_53, w_iload_n1 (M := mX7_splitNumber) dX7_splitNumber_54, c_7_78 (M := mX7_splitNumber) dX7_splitNumber_55 rfl, w_iload_n3 (M := mX7_splitNumber) dX7_splitNumber_58, w_iret (M := mX7_splitNumber) dX7_splitNumber_59 rfl, Kn_v_, Kn_n_, kl_i_, kl_a_, kl_l_, kl_n_, s1_0_, s2_0_, s1_1, s1_2, s1_3, s1_4, s1_5, s1_6, s1_7, s1_8, s1_9, s1_10, s1_11, s1_12, s1_13, s1_14, s2_1, s2_2, s2_3, s2_4, s2_5, s2_6, s2_7, s2_8, s2_9, s2_10, s2_11, s2_12, s2_13, s2_14, List.map_nil, List.map_cons, List.sum_nil, List.sum_cons, ct_i_, ct_r_, ct_l_, t_si_, t_sl_, t_sr_, n_si_, n_sl_, n_sr_, i_si_, i_sl_, i_sr_, l_si_, l_sl_, l_sr_, r_si_, r_sl_, r_sr_, vr_s_, vr_n_, nz_0_, nz_1_, hC.e, ad]
end SPLIT
