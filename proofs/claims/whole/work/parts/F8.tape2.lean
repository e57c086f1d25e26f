/-! the tape's loop -/
section TAPE2
variable {d n : Nat} {h0 h : am_h} {t : Nat → Nat}
theorem scn_b : ∀ (k i a : Nat), i + k = n → i ≤ (scn t n k i a).1 ∧ (scn t n k i a).1 ≤ n := by
  intro k
  induction k with
  | zero => intro i a e; exact ⟨Nat.le_refl _, by show i ≤ n; omega⟩
  | succ k ih =>
    intro i a e
    show i ≤ (if _ then _ else _ : Nat × Nat).1 ∧ (if _ then _ else _ : Nat × Nat).1 ≤ n
    split
    · have := ih (i + 1) (min 10000 (a * 10 + (t i - 48))) (by omega)
      omega
    · show i ≤ i ∧ i ≤ n
      omega
theorem scn_s {i : Nat} (hi : i < n) (g : dg (t i) = true) : i < (scn t n (n - i) i 0).1 ∧ (scn t n (n - i) i 0).1 ≤ n := by
  obtain ⟨k, e⟩ : ∃ k, n - i = k + 1 := ⟨n - i - 1, by omega⟩
  rw [e]
  have es : scn t n (k + 1) i 0 = scn t n k (i + 1) (min 10000 (0 * 10 + (t i - 48))) := by
    show (if _ then _ else _) = _
    rw [if_pos ⟨hi, g⟩]
  rw [es]
  have := scn_b (t := t) (n := n) k (i + 1) (min 10000 (0 * 10 + (t i - 48))) (by omega)
  omega
theorem scw_s {i : Nat} (hi : i < n) (g : lt (t i) = true) : i < scw t n (n - i) i ∧ scw t n (n - i) i ≤ n := by
  obtain ⟨k, e⟩ : ∃ k, n - i = k + 1 := ⟨n - i - 1, by omega⟩
  rw [e]
  have es : scw t n (k + 1) i = scw t n k (i + 1) := by
    show (if _ then _ else _) = _
    rw [if_pos ⟨hi, g⟩]
  rw [es]
  have := scw_b (t := t) (n := n) k (i + 1) (by omega)
  omega
def tpL (i s : Nat) (x : Option Value) : am_L := [some (.ref 86), some (.int (nI i)), some (.int (nI s)), x]
theorem tpl_ (z : tpC h0 t n) (x : txC h0) : ∀ (f i s : Nat) (h : am_h) (T : List (Nat × Nat × Nat)) (v : Option Value), s + f = 300 → s ≤ i → i ≤ n → T.length ≤ s → tkH h0 h T → ∃ (h' : am_h) (i' s' : Nat) (v' : Option Value), (∀ Q, WP (d + 8) mX7_splitTape 9 (tpL i s v) [] h Q = WP (d + 8) mX7_splitTape 93 (tpL i' s' v') [] h' Q) ∧ tkH h0 h' (T ++ tks t n f i) ∧ (T ++ tks t n f i).length ≤ 300 := by
  have hn := z.2.2.1
  intro f
  induction f with
  | zero =>
    intro i s h T v e si hi tl K
    refine ⟨h, i, s, v, fun Q => ?_, by rw [show tks t n 0 i = [] from rfl, List.append_nil]; exact K, by rw [show tks t n 0 i = [] from rfl, List.append_nil]; omega⟩
    have c1 : (nI s < 300) = False := by rw [show (300 : Int32) = nI 300 from rfl]; exact nI_ltF (by omega) (by omega)
    have c2 : (300 ≤ nI s) = True := by rw [show (300 : Int32) = nI 300 from rfl, nI_cle (by omega) (by omega)]; exact eq_true (by omega)
    unfold tpL
    simp [w_iload_n2 (M := mX7_splitTape) dX7_splitTape_9, w_sipush (M := mX7_splitTape) (v := 300) dX7_splitTape_10 rfl, w_ic_ge (M := mX7_splitTape) (tgt := 93) dX7_splitTape_13 (by decide), Kn_v_, Kn_n_, kl_i_, kl_a_, kl_l_, kl_n_, s1_0_, s2_0_, s1_1, s1_2, s1_3, s1_4, s1_5, s1_6, s1_7, s1_8, s1_9, s1_10, s1_11, s1_12, s1_13, s1_14, s2_1, s2_2, s2_3, s2_4, s2_5, s2_6, s2_7, s2_8, s2_9, s2_10, s2_11, s2_12, s2_13, s2_14, List.map_nil, List.map_cons, List.sum_nil, List.sum_cons, ct_i_, ct_r_, ct_l_, t_si_, t_sl_, t_sr_, n_si_, n_sl_, n_sr_, i_si_, i_sl_, i_sr_, l_si_, l_sl_, l_sr_, r_si_, r_sl_, r_sr_, vr_s_, vr_n_, nz_0_, nz_1_, c1, c2]
  | succ f ih =>
    intro i s h T v e si hi tl K
    have Z := K.tp z
    have X := K.tx x
    obtain ⟨hC, e1, -, ht⟩ := id Z
    have k9 := K.2.2.2.2.1
    have c1 : (nI s < 300) = True := by rw [show (300 : Int32) = nI 300 from rfl]; exact nI_ltT (by omega) (by omega)
    have c2 : (300 ≤ nI s) = False := by rw [show (300 : Int32) = nI 300 from rfl, nI_cle (by omega) (by omega)]; exact eq_false (by omega)
    have x3 : nI s + 1 = nI (s + 1) := nI_a (b := 1)
    have tail : ∀ (i : Nat) (v : Option Value) (h : am_h) Q, WP (d + 8) mX7_splitTape 87 (tpL i s v) [] h Q = WP (d + 8) mX7_splitTape 9 (tpL i (s + 1) v) [] h Q := fun i v h Q => by
      unfold tpL
      simp [w_iinc2 (M := mX7_splitTape) (v := 1) dX7_splitTape_87 rfl (by decide), w_goto (M := mX7_splitTape) (tgt := 9) dX7_splitTape_90 (by decide), Kn_v_, Kn_n_, kl_i_, kl_a_, kl_l_, kl_n_, s1_0_, s2_0_, s1_1, s1_2, s1_3, s1_4, s1_5, s1_6, s1_7, s1_8, s1_9, s1_10, s1_11, s1_12, s1_13, s1_14, s2_1, s2_2, s2_3, s2_4, s2_5, s2_6, s2_7, s2_8, s2_9, s2_10, s2_11, s2_12, s2_13, s2_14, List.map_nil, List.map_cons, List.sum_nil, List.sum_cons, ct_i_, ct_r_, ct_l_, t_si_, t_sl_, t_sr_, n_si_, n_sl_, n_sr_, i_si_, i_sl_, i_sr_, l_si_, l_sl_, l_sr_, r_si_, r_sl_, r_sr_, vr_s_, vr_n_, nz_0_, nz_1_, x3]
    by_cases ci : ¬ i < n
    · have es : tks t n (f + 1) i = [] := by
        show (if _ then _ else _) = _
        rw [if_neg ci]
      rw [es, List.append_nil]
      refine ⟨h, i, s, v, fun Q => ?_, K, by omega⟩
      have y1 : (nI i < nI n) = False := nI_ltF (by omega) (by omega)
      have y2 : (nI n ≤ nI i) = True := by rw [nI_cle (by omega) (by omega)]; exact eq_true (by omega)
      unfold tpL
      simp [w_iload_n2 (M := mX7_splitTape) dX7_splitTape_9, w_sipush (M := mX7_splitTape) (v := 300) dX7_splitTape_10 rfl, w_ic_ge (M := mX7_splitTape) (tgt := 93) dX7_splitTape_13 (by decide), w_iload_n1 (M := mX7_splitTape) dX7_splitTape_16, w_aload_n0 (M := mX7_splitTape) dX7_splitTape_17, w_getI (M := mX7_splitTape) dX7_splitTape_18 f_7_31 rfl (by decide) (by decide), w_ic_ge (M := mX7_splitTape) (tgt := 93) dX7_splitTape_21 (by decide), Kn_v_, Kn_n_, kl_i_, kl_a_, kl_l_, kl_n_, s1_0_, s2_0_, s1_1, s1_2, s1_3, s1_4, s1_5, s1_6, s1_7, s1_8, s1_9, s1_10, s1_11, s1_12, s1_13, s1_14, s2_1, s2_2, s2_3, s2_4, s2_5, s2_6, s2_7, s2_8, s2_9, s2_10, s2_11, s2_12, s2_13, s2_14, List.map_nil, List.map_cons, List.sum_nil, List.sum_cons, ct_i_, ct_r_, ct_l_, t_si_, t_sl_, t_sr_, n_si_, n_sl_, n_sr_, i_si_, i_sl_, i_sr_, l_si_, l_sl_, l_sr_, r_si_, r_sl_, r_sr_, vr_s_, vr_n_, nz_0_, nz_1_, hC.e, e1, c1, c2, y1, y2]
    have ci := Classical.not_not.mp ci
    obtain ⟨t1, t2⟩ := ht i ci
    have y1 : (nI i < nI n) = True := nI_ltT ci (by omega)
    have y2 : (nI n ≤ nI i) = False := by rw [nI_cle (by omega) (by omega)]; exact eq_false (by omega)
    have x1 : am_in1 (nI i) 300 = True := by rw [in1_n (by omega)]; exact eq_true (by omega)
    have x2 := nI_c (a := i) (by omega)
    have dq : ∀ Q, Cal (d + 7) mX7_isDigit [.int (nI (t i))] h Q = Q (some (.int (if dg (t i) then 1 else 0))) h := fun Q => q_X7_isDigit t2
    have lq : ∀ Q, Cal (d + 7) mX7_isLetter [.int (nI (t i))] h Q = Q (some (.int (if lt (t i) then 1 else 0))) h := fun Q => q_X7_isLetter t2
    -- one round that lays a token
    have step : ∀ (i' : Nat) (y : Nat × Nat × Nat), i < i' → i' ≤ n → (∀ Q, WP (d + 8) mX7_splitTape 9 (tpL i s v) [] h Q = WP (d + 8) mX7_splitTape 87 (tpL i' s (some (.int (nI (t i))))) [] (tkA h T.length (nI y.1) (nI y.2.1) (nI y.2.2)) Q) → ∃ (h' : am_h) (i2 s' : Nat) (v' : Option Value), (∀ Q, WP (d + 8) mX7_splitTape 9 (tpL i s v) [] h Q = WP (d + 8) mX7_splitTape 93 (tpL i2 s' v') [] h' Q) ∧ tkH h0 h' (T ++ y :: tks t n f i') ∧ (T ++ y :: tks t n f i').length ≤ 300 := fun i' y l1 l2 k => by
      obtain ⟨h', i2, s', v', r1, r2, r3⟩ := ih i' (s + 1) _ (T ++ [y]) (some (.int (nI (t i)))) (by omega) (by omega) l2 (by rw [List.length_append]; show T.length + 1 ≤ _; omega) (K.add y)
      rw [List.append_assoc] at r2 r3
      exact ⟨h', i2, s', v', fun Q => by rw [k, tail, r1], r2, r3⟩
    by_cases g1 : dg (t i) = true
    · have es : tks t n (f + 1) i = (2, (scn t n (n - i) i 0).2, i) :: tks t n f (scn t n (n - i) i 0).1 := by
        show (if _ then _ else _) = _
        rw [if_pos ci, if_pos g1]
      rw [es]
      have bd := scn_s ci g1
      rw [if_pos g1] at dq
      have sq : ∀ Q, Cal (d + 7) mX7_splitNumber [.ref 86, .int (nI i)] h Q = Q (some (.int (nI (scn t n (n - i) i 0).1))) (tkA h T.length 2 (nI (scn t n (n - i) i 0).2) (nI i)) := fun Q => q_X7_splitNumber (d := d + 6) Z (by omega) k9 (by omega)
      refine step _ _ bd.1 bd.2 (fun Q => ?_)
      unfold tpL
      simp [w_iload_n2 (M := mX7_splitTape) dX7_splitTape_9, w_sipush (M := mX7_splitTape) (v := 300) dX7_splitTape_10 rfl, w_ic_ge (M := mX7_splitTape) (tgt := 93) dX7_splitTape_13 (by decide), w_iload_n1 (M := mX7_splitTape) dX7_splitTape_16, w_aload_n0 (M := mX7_splitTape) dX7_splitTape_17, w_getI (M := mX7_splitTape) dX7_splitTape_18 f_7_31 rfl (by decide) (by decide), w_ic_ge (M := mX7_splitTape) (tgt := 93) dX7_splitTape_21 (by decide), w_aload_n0 (M := mX7_splitTape) dX7_splitTape_24, w_getA (M := mX7_splitTape) dX7_splitTape_25 f_7_9 rfl (by decide) (by decide), w_iload_n1 (M := mX7_splitTape) dX7_splitTape_28, w_iaload (M := mX7_splitTape) dX7_splitTape_29, w_istore_n (M := mX7_splitTape) (i := 3) dX7_splitTape_30 rfl (by decide), w_iload_n3 (M := mX7_splitTape) dX7_splitTape_31, c_7_61 (M := mX7_splitTape) dX7_splitTape_32 rfl, w_if_eq (M := mX7_splitTape) (tgt := 47) dX7_splitTape_35 (by decide), w_aload_n0 (M := mX7_splitTape) dX7_splitTape_38, w_iload_n1 (M := mX7_splitTape) dX7_splitTape_39, c_7_65 (M := mX7_splitTape) dX7_splitTape_40 rfl, w_istore_n (M := mX7_splitTape) (i := 1) dX7_splitTape_43 rfl (by decide), w_goto (M := mX7_splitTape) (tgt := 87) dX7_splitTape_44 (by decide), Kn_v_, Kn_n_, kl_i_, kl_a_, kl_l_, kl_n_, s1_0_, s2_0_, s1_1, s1_2, s1_3, s1_4, s1_5, s1_6, s1_7, s1_8, s1_9, s1_10, s1_11, s1_12, s1_13, s1_14, s2_1, s2_2, s2_3, s2_4, s2_5, s2_6, s2_7, s2_8, s2_9, s2_10, s2_11, s2_12, s2_13, s2_14, List.map_nil, List.map_cons, List.sum_nil, List.sum_cons, ct_i_, ct_r_, ct_l_, t_si_, t_sl_, t_sr_, n_si_, n_sl_, n_sr_, i_si_, i_sl_, i_sr_, l_si_, l_sl_, l_sr_, r_si_, r_sl_, r_sr_, vr_s_, vr_n_, nz_0_, nz_1_, hC.e, e1, c1, c2, y1, y2, x1, x2, t1, dq, sq, show nI 2 = 2 from rfl]
    rw [if_neg g1] at dq
    by_cases g2 : lt (t i) = true
    · have es : tks t n (f + 1) i = (3, nwd t i (scw t n (n - i) i) 153 0 0, i) :: tks t n f (scw t n (n - i) i) := by
        show (if _ then _ else _) = _
        rw [if_pos ci, if_neg g1, if_pos g2]
      rw [es]
      have bd := scw_s ci g2
      rw [if_pos g2] at lq
      have sq : ∀ Q, Cal (d + 7) mX7_splitWord [.ref 86, .int (nI i)] h Q = Q (some (.int (nI (scw t n (n - i) i)))) (tkA h T.length 3 (nI (nwd t i (scw t n (n - i) i) 153 0 0)) (nI i)) := fun Q => q_X7_splitWord (d := d) Z X (by omega) k9 (by omega)
      refine step _ _ bd.1 bd.2 (fun Q => ?_)
      unfold tpL
      simp [w_iload_n2 (M := mX7_splitTape) dX7_splitTape_9, w_sipush (M := mX7_splitTape) (v := 300) dX7_splitTape_10 rfl, w_ic_ge (M := mX7_splitTape) (tgt := 93) dX7_splitTape_13 (by decide), w_iload_n1 (M := mX7_splitTape) dX7_splitTape_16, w_aload_n0 (M := mX7_splitTape) dX7_splitTape_17, w_getI (M := mX7_splitTape) dX7_splitTape_18 f_7_31 rfl (by decide) (by decide), w_ic_ge (M := mX7_splitTape) (tgt := 93) dX7_splitTape_21 (by decide), w_aload_n0 (M := mX7_splitTape) dX7_splitTape_24, w_getA (M := mX7_splitTape) dX7_splitTape_25 f_7_9 rfl (by decide) (by decide), w_iload_n1 (M := mX7_splitTape) dX7_splitTape_28, w_iaload (M := mX7_splitTape) dX7_splitTape_29, w_istore_n (M := mX7_splitTape) (i := 3) dX7_splitTape_30 rfl (by decide), w_iload_n3 (M := mX7_splitTape) dX7_splitTape_31, c_7_61 (M := mX7_splitTape) dX7_splitTape_32 rfl, w_if_eq (M := mX7_splitTape) (tgt := 47) dX7_splitTape_35 (by decide), w_aload_n0 (M := mX7_splitTape) dX7_splitTape_38, w_iload_n1 (M := mX7_splitTape) dX7_splitTape_39, c_7_65 (M := mX7_splitTape) dX7_splitTape_40 rfl, w_istore_n (M := mX7_splitTape) (i := 1) dX7_splitTape_43 rfl (by decide), w_goto (M := mX7_splitTape) (tgt := 87) dX7_splitTape_44 (by decide), w_iload_n3 (M := mX7_splitTape) dX7_splitTape_47, c_7_69 (M := mX7_splitTape) dX7_splitTape_48 rfl, w_if_eq (M := mX7_splitTape) (tgt := 63) dX7_splitTape_51 (by decide), w_aload_n0 (M := mX7_splitTape) dX7_splitTape_54, w_iload_n1 (M := mX7_splitTape) dX7_splitTape_55, c_7_72 (M := mX7_splitTape) dX7_splitTape_56 rfl, w_istore_n (M := mX7_splitTape) (i := 1) dX7_splitTape_59 rfl (by decide), w_goto (M := mX7_splitTape) (tgt := 87) dX7_splitTape_60 (by decide), Kn_v_, Kn_n_, kl_i_, kl_a_, kl_l_, kl_n_, s1_0_, s2_0_, s1_1, s1_2, s1_3, s1_4, s1_5, s1_6, s1_7, s1_8, s1_9, s1_10, s1_11, s1_12, s1_13, s1_14, s2_1, s2_2, s2_3, s2_4, s2_5, s2_6, s2_7, s2_8, s2_9, s2_10, s2_11, s2_12, s2_13, s2_14, List.map_nil, List.map_cons, List.sum_nil, List.sum_cons, ct_i_, ct_r_, ct_l_, t_si_, t_sl_, t_sr_, n_si_, n_sl_, n_sr_, i_si_, i_sl_, i_sr_, l_si_, l_sl_, l_sr_, r_si_, r_sl_, r_sr_, vr_s_, vr_n_, nz_0_, nz_1_, hC.e, e1, c1, c2, y1, y2, x1, x2, t1, dq, lq, sq, show nI 3 = 3 from rfl]
    rw [if_neg g2] at lq
    have k32 : (nI (t i) = 32) = (t i = 32) := nI_eqP (b := 32) (by omega) (by omega)
    have k10 : (nI (t i) = 10) = (t i = 10) := nI_eqP (b := 10) (by omega) (by omega)
    have x4 : nI i + 1 = nI (i + 1) := nI_a (b := 1)
    by_cases g3 : t i = 32 ∨ t i = 10
    · have es : tks t n (f + 1) i = tks t n f (i + 1) := by
        show (if _ then _ else _) = _
        rw [if_pos ci, if_neg g1, if_neg g2, if_pos g3]
      rw [es]
      obtain ⟨h', i2, s', v', r1, r2, r3⟩ := ih (i + 1) (s + 1) h T (some (.int (nI (t i)))) (by omega) (by omega) (by omega) (by omega) K
      refine ⟨h', i2, s', v', fun Q => ?_, r2, r3⟩
      rw [← r1, ← tail]
      unfold tpL
      rcases g3 with g3 | g3
      · have q1 : (nI (t i) = 32) = True := k32.trans (eq_true g3)
        simp [w_iload_n2 (M := mX7_splitTape) dX7_splitTape_9, w_sipush (M := mX7_splitTape) (v := 300) dX7_splitTape_10 rfl, w_ic_ge (M := mX7_splitTape) (tgt := 93) dX7_splitTape_13 (by decide), w_iload_n1 (M := mX7_splitTape) dX7_splitTape_16, w_aload_n0 (M := mX7_splitTape) dX7_splitTape_17, w_getI (M := mX7_splitTape) dX7_splitTape_18 f_7_31 rfl (by decide) (by decide), w_ic_ge (M := mX7_splitTape) (tgt := 93) dX7_splitTape_21 (by decide), w_aload_n0 (M := mX7_splitTape) dX7_splitTape_24, w_getA (M := mX7_splitTape) dX7_splitTape_25 f_7_9 rfl (by decide) (by decide), w_iload_n1 (M := mX7_splitTape) dX7_splitTape_28, w_iaload (M := mX7_splitTape) dX7_splitTape_29, w_istore_n (M := mX7_splitTape) (i := 3) dX7_splitTape_30 rfl (by decide), w_iload_n3 (M := mX7_splitTape) dX7_splitTape_31, c_7_61 (M := mX7_splitTape) dX7_splitTape_32 rfl, w_if_eq (M := mX7_splitTape) (tgt := 47) dX7_splitTape_35 (by decide), w_aload_n0 (M := mX7_splitTape) dX7_splitTape_38, w_iload_n1 (M := mX7_splitTape) dX7_splitTape_39, c_7_65 (M := mX7_splitTape) dX7_splitTape_40 rfl, w_istore_n (M := mX7_splitTape) (i := 1) dX7_splitTape_43 rfl (by decide), w_goto (M := mX7_splitTape) (tgt := 87) dX7_splitTape_44 (by decide), w_iload_n3 (M := mX7_splitTape) dX7_splitTape_47, c_7_69 (M := mX7_splitTape) dX7_splitTape_48 rfl, w_if_eq (M := mX7_splitTape) (tgt := 63) dX7_splitTape_51 (by decide), w_aload_n0 (M := mX7_splitTape) dX7_splitTape_54, w_iload_n1 (M := mX7_splitTape) dX7_splitTape_55, c_7_72 (M := mX7_splitTape) dX7_splitTape_56 rfl, w_istore_n (M := mX7_splitTape) (i := 1) dX7_splitTape_59 rfl (by decide), w_goto (M := mX7_splitTape) (tgt := 87) dX7_splitTape_60 (by decide), w_iload_n3 (M := mX7_splitTape) dX7_splitTape_63, w_bipush (M := mX7_splitTape) (v := 32) dX7_splitTape_64 rfl, w_ic_eq (M := mX7_splitTape) (tgt := 75) dX7_splitTape_66 (by decide), w_iload_n3 (M := mX7_splitTape) dX7_splitTape_69, w_bipush (M := mX7_splitTape) (v := 10) dX7_splitTape_70 rfl, w_ic_ne (M := mX7_splitTape) (tgt := 81) dX7_splitTape_72 (by decide), w_iinc1 (M := mX7_splitTape) (v := 1) dX7_splitTape_75 rfl (by decide), w_goto (M := mX7_splitTape) (tgt := 87) dX7_splitTape_78 (by decide), Kn_v_, Kn_n_, kl_i_, kl_a_, kl_l_, kl_n_, s1_0_, s2_0_, s1_1, s1_2, s1_3, s1_4, s1_5, s1_6, s1_7, s1_8, s1_9, s1_10, s1_11, s1_12, s1_13, s1_14, s2_1, s2_2, s2_3, s2_4, s2_5, s2_6, s2_7, s2_8, s2_9, s2_10, s2_11, s2_12, s2_13, s2_14, List.map_nil, List.map_cons, List.sum_nil, List.sum_cons, ct_i_, ct_r_, ct_l_, t_si_, t_sl_, t_sr_, n_si_, n_sl_, n_sr_, i_si_, i_sl_, i_sr_, l_si_, l_sl_, l_sr_, r_si_, r_sl_, r_sr_, vr_s_, vr_n_, nz_0_, nz_1_, hC.e, e1, c1, c2, y1, y2, x1, x2, t1, dq, lq, q1, x4]
      · have q1 : (nI (t i) = 32) = False := k32.trans (eq_false (by omega))
        have q2 : (nI (t i) = 10) = True := k10.trans (eq_true g3)
        simp [w_iload_n2 (M := mX7_splitTape) dX7_splitTape_9, w_sipush (M := mX7_splitTape) (v := 300) dX7_splitTape_10 rfl, w_ic_ge (M := mX7_splitTape) (tgt := 93) dX7_splitTape_13 (by decide), w_iload_n1 (M := mX7_splitTape) dX7_splitTape_16, w_aload_n0 (M := mX7_splitTape) dX7_splitTape_17, w_getI (M := mX7_splitTape) dX7_splitTape_18 f_7_31 rfl (by decide) (by decide), w_ic_ge (M := mX7_splitTape) (tgt := 93) dX7_splitTape_21 (by decide), w_aload_n0 (M := mX7_splitTape) dX7_splitTape_24, w_getA (M := mX7_splitTape) dX7_splitTape_25 f_7_9 rfl (by decide) (by decide), w_iload_n1 (M := mX7_splitTape) dX7_splitTape_28, w_iaload (M := mX7_splitTape) dX7_splitTape_29, w_istore_n (M := mX7_splitTape) (i := 3) dX7_splitTape_30 rfl (by decide), w_iload_n3 (M := mX7_splitTape) dX7_splitTape_31, c_7_61 (M := mX7_splitTape) dX7_splitTape_32 rfl, w_if_eq (M := mX7_splitTape) (tgt := 47) dX7_splitTape_35 (by decide), w_aload_n0 (M := mX7_splitTape) dX7_splitTape_38, w_iload_n1 (M := mX7_splitTape) dX7_splitTape_39, c_7_65 (M := mX7_splitTape) dX7_splitTape_40 rfl, w_istore_n (M := mX7_splitTape) (i := 1) dX7_splitTape_43 rfl (by decide), w_goto (M := mX7_splitTape) (tgt := 87) dX7_splitTape_44 (by decide), w_iload_n3 (M := mX7_splitTape) dX7_splitTape_47, c_7_69 (M := mX7_splitTape) dX7_splitTape_48 rfl, w_if_eq (M := mX7_splitTape) (tgt := 63) dX7_splitTape_51 (by decide), w_aload_n0 (M := mX7_splitTape) dX7_splitTape_54, w_iload_n1 (M := mX7_splitTape) dX7_splitTape_55, c_7_72 (M := mX7_splitTape) dX7_splitTape_56 rfl, w_istore_n (M := mX7_splitTape) (i := 1) dX7_splitTape_59 rfl (by decide), w_goto (M := mX7_splitTape) (tgt := 87) dX7_splitTape_60 (by decide), w_iload_n3 (M := mX7_splitTape) dX7_splitTape_63, w_bipush (M := mX7_splitTape) (v := 32) dX7_splitTape_64 rfl, w_ic_eq (M := mX7_splitTape) (tgt := 75) dX7_splitTape_66 (by decide), w_iload_n3 (M := mX7_splitTape) dX7_splitTape_69, w_bipush (M := mX7_splitTape) (v := 10) dX7_splitTape_70 rfl, w_ic_ne (M := mX7_splitTape) (tgt := 81) dX7_splitTape_72 (by decide), w_iinc1 (M := mX7_splitTape) (v := 1) dX7_splitTape_75 rfl (by decide), w_goto (M := mX7_splitTape) (tgt := 87) dX7_splitTape_78 (by decide), Kn_v_, Kn_n_, kl_i_, kl_a_, kl_l_, kl_n_, s1_0_, s2_0_, s1_1, s1_2, s1_3, s1_4, s1_5, s1_6, s1_7, s1_8, s1_9, s1_10, s1_11, s1_12, s1_13, s1_14, s2_1, s2_2, s2_3, s2_4, s2_5, s2_6, s2_7, s2_8, s2_9, s2_10, s2_11, s2_12, s2_13, s2_14, List.map_nil, List.map_cons, List.sum_nil, List.sum_cons, ct_i_, ct_r_, ct_l_, t_si_, t_sl_, t_sr_, n_si_, n_sl_, n_sr_, i_si_, i_sl_, i_sr_, l_si_, l_sl_, l_sr_, r_si_, r_sl_, r_sr_, vr_s_, vr_n_, nz_0_, nz_1_, hC.e, e1, c1, c2, y1, y2, x1, x2, t1, dq, lq, q1, q2, x4]
    have u1 : ¬ t i = 32 := fun z => g3 (Or.inl z)
    have u2 : ¬ t i = 10 := fun z => g3 (Or.inr z)
    by_cases g4 : (t i = 60 ∨ t i = 62) ∧ i + 1 < n ∧ t (i + 1) = 61
    · have es : tks t n (f + 1) i = (4, t i + 256, i) :: tks t n f (i + 2) := by
        show (if _ then _ else _) = _
        rw [if_pos ci, if_neg g1, if_neg g2, if_neg g3, if_pos g4]
      rw [es]
      have sq : ∀ Q, Cal (d + 7) mX7_splitSign [.ref 86, .int (nI i)] h Q = Q (some (.int (nI (i + 2)))) (tkA h T.length 4 (nI (t i + 256)) (nI i)) := fun Q => q_X7_splitSign1 (d := d + 1) Z ci k9 (by omega) g4
      refine step _ _ (by omega) (by omega) (fun Q => ?_)
      unfold tpL
      simp [w_iload_n2 (M := mX7_splitTape) dX7_splitTape_9, w_sipush (M := mX7_splitTape) (v := 300) dX7_splitTape_10 rfl, w_ic_ge (M := mX7_splitTape) (tgt := 93) dX7_splitTape_13 (by decide), w_iload_n1 (M := mX7_splitTape) dX7_splitTape_16, w_aload_n0 (M := mX7_splitTape) dX7_splitTape_17, w_getI (M := mX7_splitTape) dX7_splitTape_18 f_7_31 rfl (by decide) (by decide), w_ic_ge (M := mX7_splitTape) (tgt := 93) dX7_splitTape_21 (by decide), w_aload_n0 (M := mX7_splitTape) dX7_splitTape_24, w_getA (M := mX7_splitTape) dX7_splitTape_25 f_7_9 rfl (by decide) (by decide), w_iload_n1 (M := mX7_splitTape) dX7_splitTape_28, w_iaload (M := mX7_splitTape) dX7_splitTape_29, w_istore_n (M := mX7_splitTape) (i := 3) dX7_splitTape_30 rfl (by decide), w_iload_n3 (M := mX7_splitTape) dX7_splitTape_31, c_7_61 (M := mX7_splitTape) dX7_splitTape_32 rfl, w_if_eq (M := mX7_splitTape) (tgt := 47) dX7_splitTape_35 (by decide), w_aload_n0 (M := mX7_splitTape) dX7_splitTape_38, w_iload_n1 (M := mX7_splitTape) dX7_splitTape_39, c_7_65 (M := mX7_splitTape) dX7_splitTape_40 rfl, w_istore_n (M := mX7_splitTape) (i := 1) dX7_splitTape_43 rfl (by decide), w_goto (M := mX7_splitTape) (tgt := 87) dX7_splitTape_44 (by decide), w_iload_n3 (M := mX7_splitTape) dX7_splitTape_47, c_7_69 (M := mX7_splitTape) dX7_splitTape_48 rfl, w_if_eq (M := mX7_splitTape) (tgt := 63) dX7_splitTape_51 (by decide), w_aload_n0 (M := mX7_splitTape) dX7_splitTape_54, w_iload_n1 (M := mX7_splitTape) dX7_splitTape_55, c_7_72 (M := mX7_splitTape) dX7_splitTape_56 rfl, w_istore_n (M := mX7_splitTape) (i := 1) dX7_splitTape_59 rfl (by decide), w_goto (M := mX7_splitTape) (tgt := 87) dX7_splitTape_60 (by decide), w_iload_n3 (M := mX7_splitTape) dX7_splitTape_63, w_bipush (M := mX7_splitTape) (v := 32) dX7_splitTape_64 rfl, w_ic_eq (M := mX7_splitTape) (tgt := 75) dX7_splitTape_66 (by decide), w_iload_n3 (M := mX7_splitTape) dX7_splitTape_69, w_bipush (M := mX7_splitTape) (v := 10) dX7_splitTape_70 rfl, w_ic_ne (M := mX7_splitTape) (tgt := 81) dX7_splitTape_72 (by decide), w_iinc1 (M := mX7_splitTape) (v := 1) dX7_splitTape_75 rfl (by decide), w_goto (M := mX7_splitTape) (tgt := 87) dX7_splitTape_78 (by decide), w_aload_n0 (M := mX7_splitTape) dX7_splitTape_81, w_iload_n1 (M := mX7_splitTape) dX7_splitTape_82, c_7_75 (M := mX7_splitTape) dX7_splitTape_83 rfl, w_istore_n (M := mX7_splitTape) (i := 1) dX7_splitTape_86 rfl (by decide), Kn_v_, Kn_n_, kl_i_, kl_a_, kl_l_, kl_n_, s1_0_, s2_0_, s1_1, s1_2, s1_3, s1_4, s1_5, s1_6, s1_7, s1_8, s1_9, s1_10, s1_11, s1_12, s1_13, s1_14, s2_1, s2_2, s2_3, s2_4, s2_5, s2_6, s2_7, s2_8, s2_9, s2_10, s2_11, s2_12, s2_13, s2_14, List.map_nil, List.map_cons, List.sum_nil, List.sum_cons, ct_i_, ct_r_, ct_l_, t_si_, t_sl_, t_sr_, n_si_, n_sl_, n_sr_, i_si_, i_sl_, i_sr_, l_si_, l_sl_, l_sr_, r_si_, r_sl_, r_sr_, vr_s_, vr_n_, nz_0_, nz_1_, hC.e, e1, c1, c2, y1, y2, x1, x2, t1, dq, lq, k32, k10, u1, u2, sq, show nI 4 = 4 from rfl]
    · have es : tks t n (f + 1) i = (if sgn (t i) = true then 4 else 1, t i, i) :: tks t n f (i + 1) := by
        show (if _ then _ else _) = _
        rw [if_pos ci, if_neg g1, if_neg g2, if_neg g3, if_neg g4]
      rw [es]
      have sq : ∀ Q, Cal (d + 7) mX7_splitSign [.ref 86, .int (nI i)] h Q = Q (some (.int (nI (i + 1)))) (tkA h T.length (if sgn (t i) = true then 4 else 1) (nI (t i)) (nI i)) := fun Q => q_X7_splitSign2 (d := d + 1) Z X ci k9 (by omega) g4
      have ek : nI (if sgn (t i) = true then 4 else 1) = if sgn (t i) = true then 4 else 1 := by
        split <;> rfl
      refine step _ _ (by omega) (by omega) (fun Q => ?_)
      show _ = WP (d + 8) mX7_splitTape 87 _ [] (tkA h T.length (nI (if sgn (t i) = true then 4 else 1)) (nI (t i)) (nI i)) Q
      rw [ek]
      unfold tpL
      simp [w_iload_n2 (M := mX7_splitTape) dX7_splitTape_9, w_sipush (M := mX7_splitTape) (v := 300) dX7_splitTape_10 rfl, w_ic_ge (M := mX7_splitTape) (tgt := 93) dX7_splitTape_13 (by decide), w_iload_n1 (M := mX7_splitTape) dX7_splitTape_16, w_aload_n0 (M := mX7_splitTape) dX7_splitTape_17, w_getI (M := mX7_splitTape) dX7_splitTape_18 f_7_31 rfl (by decide) (by decide), w_ic_ge (M := mX7_splitTape) (tgt := 93) dX7_splitTape_21 (by decide), w_aload_n0 (M := mX7_splitTape) dX7_splitTape_24, w_getA (M := mX7_splitTape) dX7_splitTape_25 f_7_9 rfl (by decide) (by decide), w_iload_n1 (M := mX7_splitTape) dX7_splitTape_28, w_iaload (M := mX7_splitTape) dX7_splitTape_29, w_istore_n (M := mX7_splitTape) (i := 3) dX7_splitTape_30 rfl (by decide), w_iload_n3 (M := mX7_splitTape) dX7_splitTape_31, c_7_61 (M := mX7_splitTape) dX7_splitTape_32 rfl, w_if_eq (M := mX7_splitTape) (tgt := 47) dX7_splitTape_35 (by decide), w_aload_n0 (M := mX7_splitTape) dX7_splitTape_38, w_iload_n1 (M := mX7_splitTape) dX7_splitTape_39, c_7_65 (M := mX7_splitTape) dX7_splitTape_40 rfl, w_istore_n (M := mX7_splitTape) (i := 1) dX7_splitTape_43 rfl (by decide), w_goto (M := mX7_splitTape) (tgt := 87) dX7_splitTape_44 (by decide), w_iload_n3 (M := mX7_splitTape) dX7_splitTape_47, c_7_69 (M := mX7_splitTape) dX7_splitTape_48 rfl, w_if_eq (M := mX7_splitTape) (tgt := 63) dX7_splitTape_51 (by decide), w_aload_n0 (M := mX7_splitTape) dX7_splitTape_54, w_iload_n1 (M := mX7_splitTape) dX7_splitTape_55, c_7_72 (M := mX7_splitTape) dX7_splitTape_56 rfl, w_istore_n (M := mX7_splitTape) (i := 1) dX7_splitTape_59 rfl (by decide), w_goto (M := mX7_splitTape) (tgt := 87) dX7_splitTape_60 (by decide), w_iload_n3 (M := mX7_splitTape) dX7_splitTape_63, w_bipush (M := mX7_splitTape) (v := 32) dX7_splitTape_64 rfl, w_ic_eq (M := mX7_splitTape) (tgt := 75) dX7_splitTape_66 (by decide), w_iload_n3 (M := mX7_splitTape) dX7_splitTape_69, w_bipush (M := mX7_splitTape) (v := 10) dX7_splitTape_70 rfl, w_ic_ne (M := mX7_splitTape) (tgt := 81) dX7_splitTape_72 (by decide), w_iinc1 (M := mX7_splitTape) (v := 1) dX7_splitTape_75 rfl (by decide), w_goto (M := mX7_splitTape) (tgt := 87) dX7_splitTape_78 (by decide), w_aload_n0 (M := mX7_splitTape) dX7_splitTape_81, w_iload_n1 (M := mX7_splitTape) dX7_splitTape_82, c_7_75 (M := mX7_splitTape) dX7_splitTape_83 rfl, w_istore_n (M := mX7_splitTape) (i := 1) dX7_splitTape_86 rfl (by decide), Kn_v_, Kn_n_, kl_i_, kl_a_, kl_l_, kl_n_, s1_0_, s2_0_, s1_1, s1_2, s1_3, s1_4, s1_5, s1_6, s1_7, s1_8, s1_9, s1_10, s1_11, s1_12, s1_13, s1_14, s2_1, s2_2, s2_3, s2_4, s2_5, s2_6, s2_7, s2_8, s2_9, s2_10, s2_11, s2_12, s2_13, s2_14, List.map_nil, List.map_cons, List.sum_nil, List.sum_cons, ct_i_, ct_r_, ct_l_, t_si_, t_sl_, t_sr_, n_si_, n_sl_, n_sr_, i_si_, i_sl_, i_sr_, l_si_, l_sl_, l_sr_, r_si_, r_sl_, r_sr_, vr_s_, vr_n_, nz_0_, nz_1_, hC.e, e1, c1, c2, y1, y2, x1, x2, t1, dq, lq, k32, k10, u1, u2, sq]
end TAPE2
