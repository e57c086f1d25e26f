/-! the number of a word; a word of the tape -/
section WORDD
variable {d c k n : Nat} {h : am_h} {Q : Option Value → am_h → Prop} {t : Nat → Nat}
def nwd (t : Nat → Nat) (fr to : Nat) : Nat → Nat → Nat → Nat
  | 0, _, _ => 32
  | k + 1, i, w => if wN i = 32 then (if spt t (i + 1) fr to = true then w else nwd t fr to k (i + 1) (w + 1)) else nwd t fr to k (i + 1) w
theorem nwl (T : tpC h t n) (x : txC h) (fr to : Nat) (hto : to ≤ n) (hf : fr ≤ to) : ∀ (k i w : Nat), i + k = 153 → WP (d + 6) mX7_numberOfWord 5 [some (.ref 86), some (.int (nI fr)), some (.int (nI to)), some (.int (nI w)), some (.int (nI i))] [] h Q = Q (some (.int (nI (nwd t fr to k i w)))) h := by
  have ln : ∀ Q, Cal (d + 5) mJ0_length_8abf5 [.ref 1000003] h Q = Q (some (.int 154)) h := fun Q => w_len (d := d + 4) x
  have hC := T.1
  intro k
  induction k with
  | zero =>
    intro i w e
    have x3 : nI i + 1 = nI (i + 1) := nI_a (b := 1)
    have y1 : (nI (i + 1) < 154) = False := by rw [show (154 : Int32) = nI 154 from rfl]; exact nI_ltF (by omega) (by omega)
    have y2 : (154 ≤ nI (i + 1)) = True := by rw [show (154 : Int32) = nI 154 from rfl, nI_cle (by omega) (by omega)]; exact eq_true (by omega)
    simp [w_iload4 (M := mX7_numberOfWord) dX7_numberOfWord_5, w_iconst (M := mX7_numberOfWord) (v := 1) dX7_numberOfWord_7 rfl, w_iadd (M := mX7_numberOfWord) dX7_numberOfWord_8, w_ldcs (M := mX7_numberOfWord) (q := 1000003) dX7_numberOfWord_9 rfl rfl, c_7_93 (M := mX7_numberOfWord) dX7_numberOfWord_11 rfl, w_ic_ge (M := mX7_numberOfWord) (tgt := 53) dX7_numberOfWord_14 (by decide), w_bipush (M := mX7_numberOfWord) (v := 32) dX7_numberOfWord_53 rfl, w_iret (M := mX7_numberOfWord) dX7_numberOfWord_55 rfl, Kn_v_, Kn_n_, kl_i_, kl_a_, kl_l_, kl_n_, s1_0_, s2_0_, s1_1, s1_2, s1_3, s1_4, s1_5, s1_6, s1_7, s1_8, s1_9, s1_10, s1_11, s1_12, s1_13, s1_14, s2_1, s2_2, s2_3, s2_4, s2_5, s2_6, s2_7, s2_8, s2_9, s2_10, s2_11, s2_12, s2_13, s2_14, List.map_nil, List.map_cons, List.sum_nil, List.sum_cons, ct_i_, ct_r_, ct_l_, t_si_, t_sl_, t_sr_, n_si_, n_sl_, n_sr_, i_si_, i_sl_, i_sr_, l_si_, l_sl_, l_sr_, r_si_, r_sl_, r_sr_, vr_s_, vr_n_, nz_0_, nz_1_, x3, ln, y1, y2, x.1.1, nwd, show nI 32 = 32 from rfl]
  | succ k ih =>
    intro i w e
    have x3 : nI i + 1 = nI (i + 1) := nI_a (b := 1)
    have x4 : nI w + 1 = nI (w + 1) := nI_a (b := 1)
    have y1 : (nI (i + 1) < 154) = True := by rw [show (154 : Int32) = nI 154 from rfl]; exact nI_ltT (by omega) (by omega)
    have y2 : (154 ≤ nI (i + 1)) = False := by rw [show (154 : Int32) = nI 154 from rfl, nI_cle (by omega) (by omega)]; exact eq_false (by omega)
    have ca : ∀ Q, Cal (d + 5) mJ0_charAt_5068e [.ref 1000003, .int (nI i)] h Q = Q (some (.int (nI (wN i)))) h := fun Q => w_at (d := d + 1) x (by omega)
    have lw := (wN_e i (by omega)).2
    have ke : (nI (wN i) = 32) = (wN i = 32) := nI_eqP (b := 32) (by omega) (by omega)
    have sp : ∀ Q, Cal (d + 5) mX7_isSpeltAt [.ref 86, .int (nI (i + 1)), .int (nI fr), .int (nI to)] h Q = Q (some (.int (if spt t (i + 1) fr to = true then 1 else 0))) h := fun Q => q_X7_isSpeltAt T x hto hf (by omega)
    have s3 : ∀ w, WP (d + 6) mX7_numberOfWord 47 [some (.ref 86), some (.int (nI fr)), some (.int (nI to)), some (.int (nI w)), some (.int (nI i))] [] h Q = WP (d + 6) mX7_numberOfWord 5 [some (.ref 86), some (.int (nI fr)), some (.int (nI to)), some (.int (nI w)), some (.int (nI (i + 1)))] [] h Q := fun w => by
      simp [w_iinc4 (M := mX7_numberOfWord) (v := 1) dX7_numberOfWord_47 rfl (by decide), w_goto (M := mX7_numberOfWord) (tgt := 5) dX7_numberOfWord_50 (by decide), Kn_v_, Kn_n_, kl_i_, kl_a_, kl_l_, kl_n_, s1_0_, s2_0_, s1_1, s1_2, s1_3, s1_4, s1_5, s1_6, s1_7, s1_8, s1_9, s1_10, s1_11, s1_12, s1_13, s1_14, s2_1, s2_2, s2_3, s2_4, s2_5, s2_6, s2_7, s2_8, s2_9, s2_10, s2_11, s2_12, s2_13, s2_14, List.map_nil, List.map_cons, List.sum_nil, List.sum_cons, ct_i_, ct_r_, ct_l_, t_si_, t_sl_, t_sr_, n_si_, n_sl_, n_sr_, i_si_, i_sl_, i_sr_, l_si_, l_sl_, l_sr_, r_si_, r_sl_, r_sr_, vr_s_, vr_n_, nz_0_, nz_1_, x3]
    by_cases c1 : wN i = 32
    · have k1 : (nI (wN i) = 32) = True := by rw [ke]; exact eq_true c1
      by_cases c2 : spt t (i + 1) fr to = true
      · have es : nwd t fr to (k + 1) i w = w := by
          show (if _ then _ else _) = _
          rw [if_pos c1, if_pos c2]
        rw [if_pos c2] at sp
        rw [es]
        simp [w_iload4 (M := mX7_numberOfWord) dX7_numberOfWord_5, w_iconst (M := mX7_numberOfWord) (v := 1) dX7_numberOfWord_7 rfl, w_iadd (M := mX7_numberOfWord) dX7_numberOfWord_8, w_ldcs (M := mX7_numberOfWord) (q := 1000003) dX7_numberOfWord_9 rfl rfl, c_7_93 (M := mX7_numberOfWord) dX7_numberOfWord_11 rfl, w_ic_ge (M := mX7_numberOfWord) (tgt := 53) dX7_numberOfWord_14 (by decide), w_ldcs (M := mX7_numberOfWord) (q := 1000003) dX7_numberOfWord_17 rfl rfl, w_iload4 (M := mX7_numberOfWord) dX7_numberOfWord_19, c_7_98 (M := mX7_numberOfWord) dX7_numberOfWord_21 rfl, w_bipush (M := mX7_numberOfWord) (v := 32) dX7_numberOfWord_24 rfl, w_ic_ne (M := mX7_numberOfWord) (tgt := 47) dX7_numberOfWord_26 (by decide), w_aload_n0 (M := mX7_numberOfWord) dX7_numberOfWord_29, w_iload4 (M := mX7_numberOfWord) dX7_numberOfWord_30, w_iconst (M := mX7_numberOfWord) (v := 1) dX7_numberOfWord_32 rfl, w_iadd (M := mX7_numberOfWord) dX7_numberOfWord_33, w_iload_n1 (M := mX7_numberOfWord) dX7_numberOfWord_34, w_iload_n2 (M := mX7_numberOfWord) dX7_numberOfWord_35, c_7_102 (M := mX7_numberOfWord) dX7_numberOfWord_36 rfl, w_if_eq (M := mX7_numberOfWord) (tgt := 44) dX7_numberOfWord_39 (by decide), w_iload_n3 (M := mX7_numberOfWord) dX7_numberOfWord_42, w_iret (M := mX7_numberOfWord) dX7_numberOfWord_43 rfl, Kn_v_, Kn_n_, kl_i_, kl_a_, kl_l_, kl_n_, s1_0_, s2_0_, s1_1, s1_2, s1_3, s1_4, s1_5, s1_6, s1_7, s1_8, s1_9, s1_10, s1_11, s1_12, s1_13, s1_14, s2_1, s2_2, s2_3, s2_4, s2_5, s2_6, s2_7, s2_8, s2_9, s2_10, s2_11, s2_12, s2_13, s2_14, List.map_nil, List.map_cons, List.sum_nil, List.sum_cons, ct_i_, ct_r_, ct_l_, t_si_, t_sl_, t_sr_, n_si_, n_sl_, n_sr_, i_si_, i_sl_, i_sr_, l_si_, l_sl_, l_sr_, r_si_, r_sl_, r_sr_, vr_s_, vr_n_, nz_0_, nz_1_, hC.e, x3, ln, y1, y2, x.1.1, ca, k1, sp]
      · have es : nwd t fr to (k + 1) i w = nwd t fr to k (i + 1) (w + 1) := by
          show (if _ then _ else _) = _
          rw [if_pos c1, if_neg c2]
        rw [if_neg c2] at sp
        have s1 : WP (d + 6) mX7_numberOfWord 5 [some (.ref 86), some (.int (nI fr)), some (.int (nI to)), some (.int (nI w)), some (.int (nI i))] [] h Q = WP (d + 6) mX7_numberOfWord 47 [some (.ref 86), some (.int (nI fr)), some (.int (nI to)), some (.int (nI (w + 1))), some (.int (nI i))] [] h Q := by
          simp [w_iload4 (M := mX7_numberOfWord) dX7_numberOfWord_5, w_iconst (M := mX7_numberOfWord) (v := 1) dX7_numberOfWord_7 rfl, w_iadd (M := mX7_numberOfWord) dX7_numberOfWord_8, w_ldcs (M := mX7_numberOfWord) (q := 1000003) dX7_numberOfWord_9 rfl rfl, c_7_93 (M := mX7_numberOfWord) dX7_numberOfWord_11 rfl, w_ic_ge (M := mX7_numberOfWord) (tgt := 53) dX7_numberOfWord_14 (by decide), w_ldcs (M := mX7_numberOfWord) (q := 1000003) dX7_numberOfWord_17 rfl rfl, w_iload4 (M := mX7_numberOfWord) dX7_numberOfWord_19, c_7_98 (M := mX7_numberOfWord) dX7_numberOfWord_21 rfl, w_bipush (M := mX7_numberOfWord) (v := 32) dX7_numberOfWord_24 rfl, w_ic_ne (M := mX7_numberOfWord) (tgt := 47) dX7_numberOfWord_26 (by decide), w_aload_n0 (M := mX7_numberOfWord) dX7_numberOfWord_29, w_iload4 (M := mX7_numberOfWord) dX7_numberOfWord_30, w_iconst (M := mX7_numberOfWord) (v := 1) dX7_numberOfWord_32 rfl, w_iadd (M := mX7_numberOfWord) dX7_numberOfWord_33, w_iload_n1 (M := mX7_numberOfWord) dX7_numberOfWord_34, w_iload_n2 (M := mX7_numberOfWord) dX7_numberOfWord_35, c_7_102 (M := mX7_numberOfWord) dX7_numberOfWord_36 rfl, w_if_eq (M := mX7_numberOfWord) (tgt := 44) dX7_numberOfWord_39 (by decide), w_iload_n3 (M := mX7_numberOfWord) dX7_numberOfWord_42, w_iret (M := mX7_numberOfWord) dX7_numberOfWord_43 rfl, w_iinc3 (M := mX7_numberOfWord) (v := 1) dX7_numberOfWord_44 rfl (by decide), Kn_v_, Kn_n_, kl_i_, kl_a_, kl_l_, kl_n_, s1_0_, s2_0_, s1_1, s1_2, s1_3, s1_4, s1_5, s1_6, s1_7, s1_8, s1_9, s1_10, s1_11, s1_12, s1_13, s1_14, s2_1, s2_2, s2_3, s2_4, s2_5, s2_6, s2_7, s2_8, s2_9, s2_10, s2_11, s2_12, s2_13, s2_14, List.map_nil, List.map_cons, List.sum_nil, List.sum_cons, ct_i_, ct_r_, ct_l_, t_si_, t_sl_, t_sr_, n_si_, n_sl_, n_sr_, i_si_, i_sl_, i_sr_, l_si_, l_sl_, l_sr_, r_si_, r_sl_, r_sr_, vr_s_, vr_n_, nz_0_, nz_1_, hC.e, x3, x4, ln, y1, y2, x.1.1, ca, k1, sp]
        rw [es, s1, s3, ih (i + 1) (w + 1) (by omega)]
    · have k1 : (nI (wN i) = 32) = False := by rw [ke]; exact eq_false c1
      have es : nwd t fr to (k + 1) i w = nwd t fr to k (i + 1) w := by
        show (if _ then _ else _) = _
        rw [if_neg c1]
      have s1 : WP (d + 6) mX7_numberOfWord 5 [some (.ref 86), some (.int (nI fr)), some (.int (nI to)), some (.int (nI w)), some (.int (nI i))] [] h Q = WP (d + 6) mX7_numberOfWord 47 [some (.ref 86), some (.int (nI fr)), some (.int (nI to)), some (.int (nI w)), some (.int (nI i))] [] h Q := by
        simp [w_iload4 (M := mX7_numberOfWord) dX7_numberOfWord_5, w_iconst (M := mX7_numberOfWord) (v := 1) dX7_numberOfWord_7 rfl, w_iadd (M := mX7_numberOfWord) dX7_numberOfWord_8, w_ldcs (M := mX7_numberOfWord) (q := 1000003) dX7_numberOfWord_9 rfl rfl, c_7_93 (M := mX7_numberOfWord) dX7_numberOfWord_11 rfl, w_ic_ge (M := mX7_numberOfWord) (tgt := 53) dX7_numberOfWord_14 (by decide), w_ldcs (M := mX7_numberOfWord) (q := 1000003) dX7_numberOfWord_17 rfl rfl, w_iload4 (M := mX7_numberOfWord) dX7_numberOfWord_19, c_7_98 (M := mX7_numberOfWord) dX7_numberOfWord_21 rfl, w_bipush (M := mX7_numberOfWord) (v := 32) dX7_numberOfWord_24 rfl, w_ic_ne (M := mX7_numberOfWord) (tgt := 47) dX7_numberOfWord_26 (by decide), Kn_v_, Kn_n_, kl_i_, kl_a_, kl_l_, kl_n_, s1_0_, s2_0_, s1_1, s1_2, s1_3, s1_4, s1_5, s1_6, s1_7, s1_8, s1_9, s1_10, s1_11, s1_12, s1_13, s1_14, s2_1, s2_2, s2_3, s2_4, s2_5, s2_6, s2_7, s2_8, s2_9, s2_10, s2_11, s2_12, s2_13, s2_14, List.map_nil, List.map_cons, List.sum_nil, List.sum_cons, ct_i_, ct_r_, ct_l_, t_si_, t_sl_, t_sr_, n_si_, n_sl_, n_sr_, i_si_, i_sl_, i_sr_, l_si_, l_sl_, l_sr_, r_si_, r_sl_, r_sr_, vr_s_, vr_n_, nz_0_, nz_1_, hC.e, x3, ln, y1, y2, x.1.1, ca, k1]
      rw [es, s1, s3, ih (i + 1) w (by omega)]
theorem q_X7_numberOfWord (T : tpC h t n) (x : txC h) {fr to : Nat} (hto : to ≤ n) (hf : fr ≤ to) : Cal (d + 6) mX7_numberOfWord [.ref 86, .int (nI fr), .int (nI to)] h Q = Q (some (.int (nI (nwd t fr to 153 0 0)))) h := by
  have lp := nwl (d := d) (Q := Q) T x fr to hto hf 153 0 0 (by omega)
  rw [show nI 0 = 0 from rfl] at lp
  rw [← lp]
  unfold Cal
  simp only [am_en, am_ag, ct_i, ct_r, ct_l, List.length_cons, List.length_nil, List.replicate, show m_l mX7_numberOfWord = 5 from rfl]
  simp [w_iconst (M := mX7_numberOfWord) (v := 0) dX7_numberOfWord_0 rfl, w_istore_n (M := mX7_numberOfWord) (i := 3) dX7_numberOfWord_1 rfl (by decide), w_iconst (M := mX7_numberOfWord) (v := 0) dX7_numberOfWord_2 rfl, w_istore (M := mX7_numberOfWord) dX7_numberOfWord_3 (by decide), Kn_v_, Kn_n_, kl_i_, kl_a_, kl_l_, kl_n_, s1_0_, s2_0_, s1_1, s1_2, s1_3, s1_4, s1_5, s1_6, s1_7, s1_8, s1_9, s1_10, s1_11, s1_12, s1_13, s1_14, s2_1, s2_2, s2_3, s2_4, s2_5, s2_6, s2_7, s2_8, s2_9, s2_10, s2_11, s2_12, s2_13, s2_14, List.map_nil, List.map_cons, List.sum_nil, List.sum_cons, ct_i_, ct_r_, ct_l_, t_si_, t_sl_, t_sr_, n_si_, n_sl_, n_sr_, i_si_, i_sl_, i_sr_, l_si_, l_sl_, l_sr_, r_si_, r_sl_, r_sr_, vr_s_, vr_n_, nz_0_, nz_1_]
theorem swl (T : tpC h t n) (fr : Int32) : ∀ (k i : Nat), i + k = n → WP (d + 7) mX7_splitWord 2 [some (.ref 86), some (.int fr), some (.int (nI i))] [] h Q = WP (d + 7) mX7_splitWord 28 [some (.ref 86), some (.int fr), some (.int (nI (scw t n k i)))] [] h Q := by
  obtain ⟨hC, e1, hn, ht⟩ := T
  intro k
  induction k with
  | zero =>
    intro i e
    have c1 : (nI i < nI n) = False := nI_ltF (by omega) (by omega)
    have c2 : (nI n ≤ nI i) = True := by rw [nI_cle (by omega) (by omega)]; exact eq_true (by omega)
    simp [w_iload_n2 (M := mX7_splitWord) dX7_splitWord_2, w_aload_n0 (M := mX7_splitWord) dX7_splitWord_3, w_getI (M := mX7_splitWord) dX7_splitWord_4 f_7_31 rfl (by decide) (by decide), w_ic_ge (M := mX7_splitWord) (tgt := 28) dX7_splitWord_7 (by decide), Kn_v_, Kn_n_, kl_i_, kl_a_, kl_l_, kl_n_, s1_0_, s2_0_, s1_1, s1_2, s1_3, s1_4, s1_5, s1_6, s1_7, s1_8, s1_9, s1_10, s1_11, s1_12, s1_13, s1_14, s2_1, s2_2, s2_3, s2_4, s2_5, s2_6, s2_7, s2_8, s2_9, s2_10, s2_11, s2_12, s2_13, s2_14, List.map_nil, List.map_cons, List.sum_nil, List.sum_cons, ct_i_, ct_r_, ct_l_, t_si_, t_sl_, t_sr_, n_si_, n_sl_, n_sr_, i_si_, i_sl_, i_sr_, l_si_, l_sl_, l_sr_, r_si_, r_sl_, r_sr_, vr_s_, vr_n_, nz_0_, nz_1_, hC.e, e1, c1, c2, scw]
  | succ k ih =>
    intro i e
    obtain ⟨t1, t2⟩ := ht i (by omega)
    have c1 : (nI i < nI n) = True := nI_ltT (by omega) (by omega)
    have c2 : (nI n ≤ nI i) = False := by rw [nI_cle (by omega) (by omega)]; exact eq_false (by omega)
    have x1 : am_in1 (nI i) 300 = True := by rw [in1_n (by omega)]; exact eq_true (by omega)
    have x2 := nI_c (a := i) (by omega)
    have x3 : nI i + 1 = nI (i + 1) := nI_a (b := 1)
    have dq : ∀ Q, Cal (d + 6) mX7_isLetter [.int (nI (t i))] h Q = Q (some (.int (if lt (t i) then 1 else 0))) h := fun Q => q_X7_isLetter t2
    by_cases g : lt (t i) = true
    · rw [if_pos g] at dq
      have es : scw t n (k + 1) i = scw t n k (i + 1) := by
        show (if _ then _ else _) = _
        rw [if_pos ⟨by omega, g⟩]
      have s1 : WP (d + 7) mX7_splitWord 2 [some (.ref 86), some (.int fr), some (.int (nI i))] [] h Q = WP (d + 7) mX7_splitWord 22 [some (.ref 86), some (.int fr), some (.int (nI i))] [] h Q := by
        simp [w_iload_n2 (M := mX7_splitWord) dX7_splitWord_2, w_aload_n0 (M := mX7_splitWord) dX7_splitWord_3, w_getI (M := mX7_splitWord) dX7_splitWord_4 f_7_31 rfl (by decide) (by decide), w_ic_ge (M := mX7_splitWord) (tgt := 28) dX7_splitWord_7 (by decide), w_aload_n0 (M := mX7_splitWord) dX7_splitWord_10, w_getA (M := mX7_splitWord) dX7_splitWord_11 f_7_9 rfl (by decide) (by decide), w_iload_n2 (M := mX7_splitWord) dX7_splitWord_14, w_iaload (M := mX7_splitWord) dX7_splitWord_15, c_7_69 (M := mX7_splitWord) dX7_splitWord_16 rfl, w_if_eq (M := mX7_splitWord) (tgt := 28) dX7_splitWord_19 (by decide), Kn_v_, Kn_n_, kl_i_, kl_a_, kl_l_, kl_n_, s1_0_, s2_0_, s1_1, s1_2, s1_3, s1_4, s1_5, s1_6, s1_7, s1_8, s1_9, s1_10, s1_11, s1_12, s1_13, s1_14, s2_1, s2_2, s2_3, s2_4, s2_5, s2_6, s2_7, s2_8, s2_9, s2_10, s2_11, s2_12, s2_13, s2_14, List.map_nil, List.map_cons, List.sum_nil, List.sum_cons, ct_i_, ct_r_, ct_l_, t_si_, t_sl_, t_sr_, n_si_, n_sl_, n_sr_, i_si_, i_sl_, i_sr_, l_si_, l_sl_, l_sr_, r_si_, r_sl_, r_sr_, vr_s_, vr_n_, nz_0_, nz_1_, hC.e, e1, c1, c2, x1, x2, t1, dq]
      have s2 : WP (d + 7) mX7_splitWord 22 [some (.ref 86), some (.int fr), some (.int (nI i))] [] h Q = WP (d + 7) mX7_splitWord 2 [some (.ref 86), some (.int fr), some (.int (nI (i + 1)))] [] h Q := by
        simp [w_iinc2 (M := mX7_splitWord) (v := 1) dX7_splitWord_22 rfl (by decide), w_goto (M := mX7_splitWord) (tgt := 2) dX7_splitWord_25 (by decide), Kn_v_, Kn_n_, kl_i_, kl_a_, kl_l_, kl_n_, s1_0_, s2_0_, s1_1, s1_2, s1_3, s1_4, s1_5, s1_6, s1_7, s1_8, s1_9, s1_10, s1_11, s1_12, s1_13, s1_14, s2_1, s2_2, s2_3, s2_4, s2_5, s2_6, s2_7, s2_8, s2_9, s2_10, s2_11, s2_12, s2_13, s2_14, List.map_nil, List.map_cons, List.sum_nil, List.sum_cons, ct_i_, ct_r_, ct_l_, t_si_, t_sl_, t_sr_, n_si_, n_sl_, n_sr_, i_si_, i_sl_, i_sr_, l_si_, l_sl_, l_sr_, r_si_, r_sl_, r_sr_, vr_s_, vr_n_, nz_0_, nz_1_, x3]
      rw [es, s1, s2, ih (i + 1) (by omega)]
    · rw [if_neg g] at dq
      have es : scw t n (k + 1) i = i := by
        show (if _ then _ else _) = _
        rw [if_neg (fun z => g z.2)]
      rw [es]
      simp [w_iload_n2 (M := mX7_splitWord) dX7_splitWord_2, w_aload_n0 (M := mX7_splitWord) dX7_splitWord_3, w_getI (M := mX7_splitWord) dX7_splitWord_4 f_7_31 rfl (by decide) (by decide), w_ic_ge (M := mX7_splitWord) (tgt := 28) dX7_splitWord_7 (by decide), w_aload_n0 (M := mX7_splitWord) dX7_splitWord_10, w_getA (M := mX7_splitWord) dX7_splitWord_11 f_7_9 rfl (by decide) (by decide), w_iload_n2 (M := mX7_splitWord) dX7_splitWord_14, w_iaload (M := mX7_splitWord) dX7_splitWord_15, c_7_69 (M := mX7_splitWord) dX7_splitWord_16 rfl, w_if_eq (M := mX7_splitWord) (tgt := 28) dX7_splitWord_19 (by decide), Kn_v_, Kn_n_, kl_i_, kl_a_, kl_l_, kl_n_, s1_0_, s2_0_, s1_1, s1_2, s1_3, s1_4, s1_5, s1_6, s1_7, s1_8, s1_9, s1_10, s1_11, s1_12, s1_13, s1_14, s2_1, s2_2, s2_3, s2_4, s2_5, s2_6, s2_7, s2_8, s2_9, s2_10, s2_11, s2_12, s2_13, s2_14, List.map_nil, List.map_cons, List.sum_nil, List.sum_cons, ct_i_, ct_r_, ct_l_, t_si_, t_sl_, t_sr_, n_si_, n_sl_, n_sr_, i_si_, i_sl_, i_sr_, l_si_, l_sl_, l_sr_, r_si_, r_sl_, r_sr_, vr_s_, vr_n_, nz_0_, nz_1_, hC.e, e1, c1, c2, x1, x2, t1, dq]
theorem scw_b : ∀ (k i : Nat), i + k = n → i ≤ scw t n k i ∧ scw t n k i ≤ n := by
  intro k
  induction k with
  | zero => intro i e; exact ⟨Nat.le_refl _, by show i ≤ n; omega⟩
  | succ k ih =>
    intro i e
    show i ≤ (if _ then _ else _) ∧ (if _ then _ else _) ≤ n
    split
    · have := ih (i + 1) (by omega)
      omega
    · omega
theorem q_X7_splitWord (T : tpC h t n) (x : txC h) {i : Nat} (hi : i ≤ n) (hk : a_i h 86 9 = nI k) (lk : k < 301) : Cal (d + 7) mX7_splitWord [.ref 86, .int (nI i)] h Q = Q (some (.int (nI (scw t n (n - i) i)))) (tkA h k 3 (nI (nwd t i (scw t n (n - i) i) 153 0 0)) (nI i)) := by
  have lp := swl (d := d) (Q := Q) T (nI i) (n - i) i (by omega)
  have bd := scw_b (t := t) (n := n) (n - i) i (by omega)
  have hC := T.1
  have ad : ∀ a1 a2 a3 Q, Cal (d + 6) mX7_addToken [.ref 86, .int a1, .int a2, .int a3] h Q = Q none (tkA h k a1 a2 a3) := fun a1 a2 a3 Q => q_X7_addToken hC hk lk
  have nw : ∀ Q, Cal (d + 6) mX7_numberOfWord [.ref 86, .int (nI i), .int (nI (scw t n (n - i) i))] h Q = Q (some (.int (nI (nwd t i (scw t n (n - i) i) 153 0 0)))) h := fun Q => q_X7_numberOfWord T x bd.2 bd.1
  have s1 : Cal (d + 7) mX7_splitWord [.ref 86, .int (nI i)] h Q = WP (d + 7) mX7_splitWord 2 [some (.ref 86), some (.int (nI i)), some (.int (nI i))] [] h Q := by
    unfold Cal
    simp only [am_en, am_ag, ct_i, ct_r, ct_l, List.length_cons, List.length_nil, List.replicate, show m_l mX7_splitWord = 3 from rfl]
    simp [w_iload_n1 (M := mX7_splitWord) dX7_splitWord_0, w_istore_n (M := mX7_splitWord) (i := 2) dX7_splitWord_1 rfl (by decide), Kn_v_, Kn_n_, kl_i_, kl_a_, kl_l_, kl_n_, s1_0_, s2_0_, s1_1, s1_2, s1_3, s1_4, s1_5, s1_6, s1_7, s1_8, s1_9, s1_10, s1_11, s1_12, s1_13, s1_14, s2_1, s2_2, s2_3, s2_4, s2_5, s2_6, s2_7, s2_8, s2_9, s2_10, s2_11, s2_12, s2_13, s2_14, List.map_nil, List.map_cons, List.sum_nil, List.sum_cons, ct_i_, ct_r_, ct_l_, t_si_, t_sl_, t_sr_, n_si_, n_sl_, n_sr_, i_si_, i_sl_, i_sr_, l_si_, l_sl_, l_sr_, r_si_, r_sl_, r_sr_, vr_s_, vr_n_, nz_0_, nz_1_]
  rw [s1, lp]
  simp [w_aload_n0 (M := mX7_splitWord) dX7_splitWord_28, w_iconst (M := mX7_splitWord) (v := 3) dX7_splitWord_29 rfl, w_aload_n0 (M := mX7_splitWord) dX7_splitWord_30, w_iload_n1 (M := mX7_splitWord) dX7_splitWord_31, w_iload_n2 (M := mX7_splitWord) dX7_splitWord_32, c_7_88 (M := mX7_splitWord) dX7_splitWord_33 rfl, w_iload_n1 (M := mX7_splitWord) dX7_splitWord_36, c_7_78 (M := mX7_splitWord) dX7_splitWord_37 rfl, w_iload_n2 (M := mX7_splitWord) dX7_splitWord_40, w_iret (M := mX7_splitWord) dX7_splitWord_41 rfl, Kn_v_, Kn_n_, kl_i_, kl_a_, kl_l_, kl_n_, s1_0_, s2_0_, s1_1, s1_2, s1_3, s1_4, s1_5, s1_6, s1_7, s1_8, s1_9, s1_10, s1_11, s1_12, s1_13, s1_14, s2_1, s2_2, s2_3, s2_4, s2_5, s2_6, s2_7, s2_8, s2_9, s2_10, s2_11, s2_12, s2_13, s2_14, List.map_nil, List.map_cons, List.sum_nil, List.sum_cons, ct_i_, ct_r_, ct_l_, t_si_, t_sl_, t_sr_, n_si_, n_sl_, n_sr_, i_si_, i_sl_, i_sr_, l_si_, l_sl_, l_sr_, r_si_, r_sl_, r_sr_, vr_s_, vr_n_, nz_0_, nz_1_, hC.e, ad, nw]
end WORDD
