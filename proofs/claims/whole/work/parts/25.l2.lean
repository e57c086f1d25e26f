/-! lowest terms -/
section L2
variable {d : Nat} {h : am_h} {Q : Option Value → am_h → Prop}
theorem nI_i {a : Nat} (h : a < 2000000000) : (nI a).toInt = (a : Int) := nI_toInt (by omega)
theorem nI_dv {a b : Nat} (ha : a < 2000000000) (hb : b < 2000000000) : nI a / nI b = nI (a / b) := by
  apply Int32.toInt_inj.mp
  rw [Int32.toInt_div_of_ne_left, nI_i ha, nI_i hb, nI_i (Nat.lt_of_le_of_lt (Nat.div_le_self a b) ha)]
  · exact (Int.ofNat_tdiv a b).symm
  · intro e
    have := congrArg Int32.toInt e
    rw [nI_i ha] at this
    have h2 : (Int32.minValue).toInt = -2147483648 := by decide
    omega
theorem nI_sb {a b : Nat} (h : b ≤ a) : nI a - nI b = nI (a - b) := by
  have : nI a = nI (a - b) + nI b := by rw [nI_a]; congr 1; omega
  rw [this, Int32.add_sub_cancel]
theorem nI_rm {a b : Nat} (ha : a < 2000000000) (hb : b < 2000000000) : nI a - nI a / nI b * nI b = nI (a % b) := by
  rw [nI_dv ha hb, nI_m, nI_sb (Nat.div_mul_le_self a b)]
  congr 1
  have := Nat.div_add_mod a b
  rw [Nat.mul_comm] at this
  omega
theorem nI_e0 {a : Nat} (h : a < 2000000000) : (nI a = 0) = (a = 0) := nI_inj (b := 0) h (by omega)
set_option maxRecDepth 20000 in
theorem lt_exit {U Lo v : Int32} {a i : Nat} {o : Option Value} (ha : 0 < a) (hb : a < 1048576) : WP d mX11_lowestTerm 8 [some (.int U), some (.int Lo), some (.int v), some (.int (nI a)), some (.int (nI 0)), some (.int (nI i)), o] [] h Q = Q (some (.int ((if v = 0 then U else Lo) / nI a))) h := by
  have e0 : nI 0 = 0 := rfl
  have e1 : (nI a = 0) = False := by rw [nI_e0 (by omega)]; exact eq_false (by omega)
  rw [w_iload5 (M := mX11_lowestTerm) dX11_lowestTerm_8]
  simp [w_iload_n0 (M := mX11_lowestTerm) dX11_lowestTerm_0, w_istore_n (M := mX11_lowestTerm) (i := 3) dX11_lowestTerm_1 rfl (by decide), w_iload_n1 (M := mX11_lowestTerm) dX11_lowestTerm_2, w_istore (M := mX11_lowestTerm) dX11_lowestTerm_3 (by decide), w_iconst (M := mX11_lowestTerm) (v := 0) dX11_lowestTerm_5 rfl, w_istore (M := mX11_lowestTerm) dX11_lowestTerm_6 (by decide), w_bipush (M := mX11_lowestTerm) (v := 64) dX11_lowestTerm_10 rfl, w_ic_ge (M := mX11_lowestTerm) (tgt := 39) dX11_lowestTerm_12 (by decide), w_iload4 (M := mX11_lowestTerm) dX11_lowestTerm_15, w_if_eq (M := mX11_lowestTerm) (tgt := 39) dX11_lowestTerm_17 (by decide), w_iload_n3 (M := mX11_lowestTerm) dX11_lowestTerm_20, w_iload4 (M := mX11_lowestTerm) dX11_lowestTerm_21, w_irem (M := mX11_lowestTerm) dX11_lowestTerm_23, w_istore (M := mX11_lowestTerm) dX11_lowestTerm_24 (by decide), w_iload4 (M := mX11_lowestTerm) dX11_lowestTerm_26, w_istore_n (M := mX11_lowestTerm) (i := 3) dX11_lowestTerm_28 rfl (by decide), w_iload6 (M := mX11_lowestTerm) dX11_lowestTerm_29, w_istore (M := mX11_lowestTerm) dX11_lowestTerm_31 (by decide), w_iinc5 (M := mX11_lowestTerm) (v := 1) dX11_lowestTerm_33 rfl (by decide), w_goto (M := mX11_lowestTerm) (tgt := 8) dX11_lowestTerm_36 (by decide), w_iload_n3 (M := mX11_lowestTerm) dX11_lowestTerm_39, w_if_ne (M := mX11_lowestTerm) (tgt := 45) dX11_lowestTerm_40 (by decide), w_iconst (M := mX11_lowestTerm) (v := 0) dX11_lowestTerm_43 rfl, w_iret (M := mX11_lowestTerm) dX11_lowestTerm_44 rfl, w_iload_n2 (M := mX11_lowestTerm) dX11_lowestTerm_45, w_if_eq (M := mX11_lowestTerm) (tgt := 53) dX11_lowestTerm_46 (by decide), w_iload_n1 (M := mX11_lowestTerm) dX11_lowestTerm_49, w_goto (M := mX11_lowestTerm) (tgt := 54) dX11_lowestTerm_50 (by decide), w_iload_n0 (M := mX11_lowestTerm) dX11_lowestTerm_53, w_iload_n3 (M := mX11_lowestTerm) dX11_lowestTerm_54, w_idiv (M := mX11_lowestTerm) dX11_lowestTerm_55, w_iret (M := mX11_lowestTerm) dX11_lowestTerm_56 rfl, Kn_v_, Kn_n_, kl_i_, kl_a_, kl_l_, kl_n_, s1_0_, s2_0_, s1_1, s1_2, s1_3, s1_4, s1_5, s1_6, s1_7, s1_8, s1_9, s1_10, s1_11, s1_12, s1_13, s1_14, s2_1, s2_2, s2_3, s2_4, s2_5, s2_6, s2_7, s2_8, s2_9, s2_10, s2_11, s2_12, s2_13, s2_14, List.map_nil, List.map_cons, List.sum_nil, List.sum_cons, ct_i_, ct_r_, ct_l_, t_si_, t_sl_, t_sr_, n_si_, n_sl_, n_sr_, i_si_, i_sl_, i_sr_, l_si_, l_sl_, l_sr_, r_si_, r_sl_, r_sr_, vr_s_, vr_n_, nz_0_, nz_1_, e0, e1]
  by_cases hv : v = 0 <;> simp [hv]
set_option maxRecDepth 20000 in
theorem lt_step {U Lo v : Int32} {a b i : Nat} {o : Option Value} (ha : a < 1048576) (hb : 0 < b) (hb2 : b < 1048576) (hi : i < 64) : WP d mX11_lowestTerm 8 [some (.int U), some (.int Lo), some (.int v), some (.int (nI a)), some (.int (nI b)), some (.int (nI i)), o] [] h Q = WP d mX11_lowestTerm 8 [some (.int U), some (.int Lo), some (.int v), some (.int (nI b)), some (.int (nI (a % b))), some (.int (nI (i + 1))), some (.int (nI (a % b)))] [] h Q := by
  have e1 : (nI b = 0) = False := by rw [nI_e0 (by omega)]; exact eq_false (by omega)
  have e2 : (nI i < 64) = True := nI_ltT (b := 64) hi (by omega)
  rw [w_iload5 (M := mX11_lowestTerm) dX11_lowestTerm_8]
  simp [w_iload_n0 (M := mX11_lowestTerm) dX11_lowestTerm_0, w_istore_n (M := mX11_lowestTerm) (i := 3) dX11_lowestTerm_1 rfl (by decide), w_iload_n1 (M := mX11_lowestTerm) dX11_lowestTerm_2, w_istore (M := mX11_lowestTerm) dX11_lowestTerm_3 (by decide), w_iconst (M := mX11_lowestTerm) (v := 0) dX11_lowestTerm_5 rfl, w_istore (M := mX11_lowestTerm) dX11_lowestTerm_6 (by decide), w_bipush (M := mX11_lowestTerm) (v := 64) dX11_lowestTerm_10 rfl, w_ic_ge (M := mX11_lowestTerm) (tgt := 39) dX11_lowestTerm_12 (by decide), w_iload4 (M := mX11_lowestTerm) dX11_lowestTerm_15, w_if_eq (M := mX11_lowestTerm) (tgt := 39) dX11_lowestTerm_17 (by decide), w_iload_n3 (M := mX11_lowestTerm) dX11_lowestTerm_20, w_iload4 (M := mX11_lowestTerm) dX11_lowestTerm_21, w_irem (M := mX11_lowestTerm) dX11_lowestTerm_23, w_istore (M := mX11_lowestTerm) dX11_lowestTerm_24 (by decide), w_iload4 (M := mX11_lowestTerm) dX11_lowestTerm_26, w_istore_n (M := mX11_lowestTerm) (i := 3) dX11_lowestTerm_28 rfl (by decide), w_iload6 (M := mX11_lowestTerm) dX11_lowestTerm_29, w_istore (M := mX11_lowestTerm) dX11_lowestTerm_31 (by decide), w_iinc5 (M := mX11_lowestTerm) (v := 1) dX11_lowestTerm_33 rfl (by decide), w_goto (M := mX11_lowestTerm) (tgt := 8) dX11_lowestTerm_36 (by decide), w_iload_n3 (M := mX11_lowestTerm) dX11_lowestTerm_39, w_if_ne (M := mX11_lowestTerm) (tgt := 45) dX11_lowestTerm_40 (by decide), w_iconst (M := mX11_lowestTerm) (v := 0) dX11_lowestTerm_43 rfl, w_iret (M := mX11_lowestTerm) dX11_lowestTerm_44 rfl, w_iload_n2 (M := mX11_lowestTerm) dX11_lowestTerm_45, w_if_eq (M := mX11_lowestTerm) (tgt := 53) dX11_lowestTerm_46 (by decide), w_iload_n1 (M := mX11_lowestTerm) dX11_lowestTerm_49, w_goto (M := mX11_lowestTerm) (tgt := 54) dX11_lowestTerm_50 (by decide), w_iload_n0 (M := mX11_lowestTerm) dX11_lowestTerm_53, w_iload_n3 (M := mX11_lowestTerm) dX11_lowestTerm_54, w_idiv (M := mX11_lowestTerm) dX11_lowestTerm_55, w_iret (M := mX11_lowestTerm) dX11_lowestTerm_56 rfl, Kn_v_, Kn_n_, kl_i_, kl_a_, kl_l_, kl_n_, s1_0_, s2_0_, s1_1, s1_2, s1_3, s1_4, s1_5, s1_6, s1_7, s1_8, s1_9, s1_10, s1_11, s1_12, s1_13, s1_14, s2_1, s2_2, s2_3, s2_4, s2_5, s2_6, s2_7, s2_8, s2_9, s2_10, s2_11, s2_12, s2_13, s2_14, List.map_nil, List.map_cons, List.sum_nil, List.sum_cons, ct_i_, ct_r_, ct_l_, t_si_, t_sl_, t_sr_, n_si_, n_sl_, n_sr_, i_si_, i_sl_, i_sr_, l_si_, l_sl_, l_sr_, r_si_, r_sl_, r_sr_, vr_s_, vr_n_, nz_0_, nz_1_, e1, e2, nI_s, nI_rm (a := a) (b := b) (by omega) (by omega)]
theorem lt_loop {U Lo v : Int32} : ∀ (k a b i : Nat) (o : Option Value), b < 2 ^ k → a < 1048576 → b < 1048576 → i + 2 * k ≤ 64 → (0 < a ∨ 0 < b) → WP d mX11_lowestTerm 8 [some (.int U), some (.int Lo), some (.int v), some (.int (nI a)), some (.int (nI b)), some (.int (nI i)), o] [] h Q = Q (some (.int ((if v = 0 then U else Lo) / nI (Nat.gcd b a)))) h := by
  intro k
  induction k with
  | zero =>
    intro a b i o hb ha hb2 hi h0
    have e : b = 0 := by have : b < 1 := hb; omega
    subst e
    rw [Nat.gcd_zero_left]
    exact lt_exit (by omega) ha
  | succ k ih =>
    intro a b i o hb ha hb2 hi h0
    by_cases e : b = 0
    · subst e
      rw [Nat.gcd_zero_left]
      exact lt_exit (by omega) ha
    · have hb0 : 0 < b := by omega
      have hr : a % b < b := Nat.mod_lt a hb0
      rw [lt_step ha hb0 hb2 (by omega)]
      by_cases e2 : a % b = 0
      · rw [e2, lt_exit hb0 hb2, Nat.gcd_rec, e2, Nat.gcd_zero_left]
      · have hr0 : 0 < a % b := by omega
        rw [lt_step (by omega) hr0 (by omega) (by omega)]
        have hh : b % (a % b) < 2 ^ k := by
          have h1 : b % (a % b) < a % b := Nat.mod_lt b hr0
          have h2 := Nat.div_add_mod b (a % b)
          have h3 : 1 ≤ b / (a % b) := Nat.div_pos (Nat.le_of_lt hr) hr0
          have h4 : (a % b) * 1 ≤ (a % b) * (b / (a % b)) := Nat.mul_le_mul_left _ h3
          have h5 : (2 : Nat) ^ (k + 1) = 2 * 2 ^ k := by rw [Nat.pow_succ]; omega
          omega
        rw [ih (a % b) (b % (a % b)) (i + 1 + 1) _ hh (by omega) (Nat.lt_of_lt_of_le (Nat.mod_lt b hr0) (by omega)) (by omega) (Or.inl hr0)]
        rw [Nat.gcd_rec b a, Nat.gcd_rec (a % b) b]
set_option maxRecDepth 20000 in
theorem q_X11_lowestTerm {u l : Nat} {v : Int32} (hu : u < 1048576) (hl : 0 < l) (hl2 : l < 1048576) : Cal d mX11_lowestTerm [.int (nI u), .int (nI l), .int v] h Q = Q (some (.int (nI ((if v = 0 then u else l) / Nat.gcd u l)))) h := by
  unfold Cal
  rw [l_X11_lowestTerm]
  simp only [am_en, am_ag, ct_i, ct_r, ct_l, List.length_cons, List.length_nil, List.replicate]
  simp [w_iload_n0 (M := mX11_lowestTerm) dX11_lowestTerm_0, w_istore_n (M := mX11_lowestTerm) (i := 3) dX11_lowestTerm_1 rfl (by decide), w_iload_n1 (M := mX11_lowestTerm) dX11_lowestTerm_2, w_istore (M := mX11_lowestTerm) dX11_lowestTerm_3 (by decide), w_iconst (M := mX11_lowestTerm) (v := 0) dX11_lowestTerm_5 rfl, w_istore (M := mX11_lowestTerm) dX11_lowestTerm_6 (by decide), w_bipush (M := mX11_lowestTerm) (v := 64) dX11_lowestTerm_10 rfl, w_ic_ge (M := mX11_lowestTerm) (tgt := 39) dX11_lowestTerm_12 (by decide), w_iload4 (M := mX11_lowestTerm) dX11_lowestTerm_15, w_if_eq (M := mX11_lowestTerm) (tgt := 39) dX11_lowestTerm_17 (by decide), w_iload_n3 (M := mX11_lowestTerm) dX11_lowestTerm_20, w_iload4 (M := mX11_lowestTerm) dX11_lowestTerm_21, w_irem (M := mX11_lowestTerm) dX11_lowestTerm_23, w_istore (M := mX11_lowestTerm) dX11_lowestTerm_24 (by decide), w_iload4 (M := mX11_lowestTerm) dX11_lowestTerm_26, w_istore_n (M := mX11_lowestTerm) (i := 3) dX11_lowestTerm_28 rfl (by decide), w_iload6 (M := mX11_lowestTerm) dX11_lowestTerm_29, w_istore (M := mX11_lowestTerm) dX11_lowestTerm_31 (by decide), w_iinc5 (M := mX11_lowestTerm) (v := 1) dX11_lowestTerm_33 rfl (by decide), w_goto (M := mX11_lowestTerm) (tgt := 8) dX11_lowestTerm_36 (by decide), w_iload_n3 (M := mX11_lowestTerm) dX11_lowestTerm_39, w_if_ne (M := mX11_lowestTerm) (tgt := 45) dX11_lowestTerm_40 (by decide), w_iconst (M := mX11_lowestTerm) (v := 0) dX11_lowestTerm_43 rfl, w_iret (M := mX11_lowestTerm) dX11_lowestTerm_44 rfl, w_iload_n2 (M := mX11_lowestTerm) dX11_lowestTerm_45, w_if_eq (M := mX11_lowestTerm) (tgt := 53) dX11_lowestTerm_46 (by decide), w_iload_n1 (M := mX11_lowestTerm) dX11_lowestTerm_49, w_goto (M := mX11_lowestTerm) (tgt := 54) dX11_lowestTerm_50 (by decide), w_iload_n0 (M := mX11_lowestTerm) dX11_lowestTerm_53, w_iload_n3 (M := mX11_lowestTerm) dX11_lowestTerm_54, w_idiv (M := mX11_lowestTerm) dX11_lowestTerm_55, w_iret (M := mX11_lowestTerm) dX11_lowestTerm_56 rfl, Kn_v_, Kn_n_, kl_i_, kl_a_, kl_l_, kl_n_, s1_0_, s2_0_, s1_1, s1_2, s1_3, s1_4, s1_5, s1_6, s1_7, s1_8, s1_9, s1_10, s1_11, s1_12, s1_13, s1_14, s2_1, s2_2, s2_3, s2_4, s2_5, s2_6, s2_7, s2_8, s2_9, s2_10, s2_11, s2_12, s2_13, s2_14, List.map_nil, List.map_cons, List.sum_nil, List.sum_cons, ct_i_, ct_r_, ct_l_, t_si_, t_sl_, t_sr_, n_si_, n_sl_, n_sr_, i_si_, i_sl_, i_sr_, l_si_, l_sl_, l_sr_, r_si_, r_sl_, r_sr_, vr_s_, vr_n_, nz_0_, nz_1_]
  have k := lt_loop (d := d) (h := h) (Q := Q) (U := nI u) (Lo := nI l) (v := v) 20 u l 0 none (by simpa using hl2) hu hl2 (by omega) (Or.inr hl)
  rw [show nI 0 = 0 from rfl] at k
  have hg : Nat.gcd l u ≤ l := Nat.gcd_le_left u hl
  rw [k, Nat.gcd_comm u l]
  by_cases hv : v = 0
  · simp [hv, nI_dv (a := u) (b := Nat.gcd l u) (by omega) (by omega)]
  · simp [hv, nI_dv (a := l) (b := Nat.gcd l u) (by omega) (by omega)]
set_option maxRecDepth 20000 in
theorem q_X12_common : ∀ {k x y : Nat}, y ≤ k → x < 1048576 → y < 1048576 → Cal d mX12_common [.int (nI x), .int (nI y)] h Q = Q (some (.int (nI (Nat.gcd y x)))) h := by
  have key : ∀ (k x y : Nat) (a0 a1 : Option Value) (o : Option Value), y ≤ k → x < 1048576 → y < 1048576 → WP d mX12_common 4 [a0, a1, some (.int (nI x)), some (.int (nI y)), o] [] h Q = Q (some (.int (nI (Nat.gcd y x)))) h := by
    intro k
    induction k with
    | zero =>
      intro x y a0 a1 o hk hx hy
      have e : y = 0 := by omega
      subst e
      have e0 : nI 0 = 0 := rfl
      rw [w_iload_n3 (M := mX12_common) dX12_common_4]
      simp [w_iload_n0 (M := mX12_common) dX12_common_0, w_istore_n (M := mX12_common) (i := 2) dX12_common_1 rfl (by decide), w_iload_n1 (M := mX12_common) dX12_common_2, w_istore_n (M := mX12_common) (i := 3) dX12_common_3 rfl (by decide), w_if_eq (M := mX12_common) (tgt := 21) dX12_common_5 (by decide), w_iload_n2 (M := mX12_common) dX12_common_8, w_iload_n3 (M := mX12_common) dX12_common_9, w_irem (M := mX12_common) dX12_common_10, w_istore (M := mX12_common) dX12_common_11 (by decide), w_iload_n3 (M := mX12_common) dX12_common_13, w_istore_n (M := mX12_common) (i := 2) dX12_common_14 rfl (by decide), w_iload4 (M := mX12_common) dX12_common_15, w_istore_n (M := mX12_common) (i := 3) dX12_common_17 rfl (by decide), w_goto (M := mX12_common) (tgt := 4) dX12_common_18 (by decide), w_iload_n2 (M := mX12_common) dX12_common_21, w_iret (M := mX12_common) dX12_common_22 rfl, Kn_v_, Kn_n_, kl_i_, kl_a_, kl_l_, kl_n_, s1_0_, s2_0_, s1_1, s1_2, s1_3, s1_4, s1_5, s1_6, s1_7, s1_8, s1_9, s1_10, s1_11, s1_12, s1_13, s1_14, s2_1, s2_2, s2_3, s2_4, s2_5, s2_6, s2_7, s2_8, s2_9, s2_10, s2_11, s2_12, s2_13, s2_14, List.map_nil, List.map_cons, List.sum_nil, List.sum_cons, ct_i_, ct_r_, ct_l_, t_si_, t_sl_, t_sr_, n_si_, n_sl_, n_sr_, i_si_, i_sl_, i_sr_, l_si_, l_sl_, l_sr_, r_si_, r_sl_, r_sr_, vr_s_, vr_n_, nz_0_, nz_1_, e0]
    | succ k ih =>
      intro x y a0 a1 o hk hx hy
      by_cases e : y = 0
      · subst e
        have e0 : nI 0 = 0 := rfl
        rw [w_iload_n3 (M := mX12_common) dX12_common_4]
        simp [w_iload_n0 (M := mX12_common) dX12_common_0, w_istore_n (M := mX12_common) (i := 2) dX12_common_1 rfl (by decide), w_iload_n1 (M := mX12_common) dX12_common_2, w_istore_n (M := mX12_common) (i := 3) dX12_common_3 rfl (by decide), w_if_eq (M := mX12_common) (tgt := 21) dX12_common_5 (by decide), w_iload_n2 (M := mX12_common) dX12_common_8, w_iload_n3 (M := mX12_common) dX12_common_9, w_irem (M := mX12_common) dX12_common_10, w_istore (M := mX12_common) dX12_common_11 (by decide), w_iload_n3 (M := mX12_common) dX12_common_13, w_istore_n (M := mX12_common) (i := 2) dX12_common_14 rfl (by decide), w_iload4 (M := mX12_common) dX12_common_15, w_istore_n (M := mX12_common) (i := 3) dX12_common_17 rfl (by decide), w_goto (M := mX12_common) (tgt := 4) dX12_common_18 (by decide), w_iload_n2 (M := mX12_common) dX12_common_21, w_iret (M := mX12_common) dX12_common_22 rfl, Kn_v_, Kn_n_, kl_i_, kl_a_, kl_l_, kl_n_, s1_0_, s2_0_, s1_1, s1_2, s1_3, s1_4, s1_5, s1_6, s1_7, s1_8, s1_9, s1_10, s1_11, s1_12, s1_13, s1_14, s2_1, s2_2, s2_3, s2_4, s2_5, s2_6, s2_7, s2_8, s2_9, s2_10, s2_11, s2_12, s2_13, s2_14, List.map_nil, List.map_cons, List.sum_nil, List.sum_cons, ct_i_, ct_r_, ct_l_, t_si_, t_sl_, t_sr_, n_si_, n_sl_, n_sr_, i_si_, i_sl_, i_sr_, l_si_, l_sl_, l_sr_, r_si_, r_sl_, r_sr_, vr_s_, vr_n_, nz_0_, nz_1_, e0]
      · have e1 : (nI y = 0) = False := by rw [nI_e0 (by omega)]; exact eq_false e
        have hr : x % y < y := Nat.mod_lt x (by omega)
        rw [w_iload_n3 (M := mX12_common) dX12_common_4]
        simp [w_iload_n0 (M := mX12_common) dX12_common_0, w_istore_n (M := mX12_common) (i := 2) dX12_common_1 rfl (by decide), w_iload_n1 (M := mX12_common) dX12_common_2, w_istore_n (M := mX12_common) (i := 3) dX12_common_3 rfl (by decide), w_if_eq (M := mX12_common) (tgt := 21) dX12_common_5 (by decide), w_iload_n2 (M := mX12_common) dX12_common_8, w_iload_n3 (M := mX12_common) dX12_common_9, w_irem (M := mX12_common) dX12_common_10, w_istore (M := mX12_common) dX12_common_11 (by decide), w_iload_n3 (M := mX12_common) dX12_common_13, w_istore_n (M := mX12_common) (i := 2) dX12_common_14 rfl (by decide), w_iload4 (M := mX12_common) dX12_common_15, w_istore_n (M := mX12_common) (i := 3) dX12_common_17 rfl (by decide), w_goto (M := mX12_common) (tgt := 4) dX12_common_18 (by decide), w_iload_n2 (M := mX12_common) dX12_common_21, w_iret (M := mX12_common) dX12_common_22 rfl, Kn_v_, Kn_n_, kl_i_, kl_a_, kl_l_, kl_n_, s1_0_, s2_0_, s1_1, s1_2, s1_3, s1_4, s1_5, s1_6, s1_7, s1_8, s1_9, s1_10, s1_11, s1_12, s1_13, s1_14, s2_1, s2_2, s2_3, s2_4, s2_5, s2_6, s2_7, s2_8, s2_9, s2_10, s2_11, s2_12, s2_13, s2_14, List.map_nil, List.map_cons, List.sum_nil, List.sum_cons, ct_i_, ct_r_, ct_l_, t_si_, t_sl_, t_sr_, n_si_, n_sl_, n_sr_, i_si_, i_sl_, i_sr_, l_si_, l_sl_, l_sr_, r_si_, r_sl_, r_sr_, vr_s_, vr_n_, nz_0_, nz_1_, e1, nI_rm (a := x) (b := y) (by omega) (by omega)]
        rw [ih y (x % y) _ _ _ (by omega) hy (by omega), Nat.gcd_rec y x]
  intro k x y hk hx hy
  unfold Cal
  rw [l_X12_common]
  simp only [am_en, am_ag, ct_i, ct_r, ct_l, List.length_cons, List.length_nil, List.replicate]
  simp [w_iload_n0 (M := mX12_common) dX12_common_0, w_istore_n (M := mX12_common) (i := 2) dX12_common_1 rfl (by decide), w_iload_n1 (M := mX12_common) dX12_common_2, w_istore_n (M := mX12_common) (i := 3) dX12_common_3 rfl (by decide), w_if_eq (M := mX12_common) (tgt := 21) dX12_common_5 (by decide), w_iload_n2 (M := mX12_common) dX12_common_8, w_iload_n3 (M := mX12_common) dX12_common_9, w_irem (M := mX12_common) dX12_common_10, w_istore (M := mX12_common) dX12_common_11 (by decide), w_iload_n3 (M := mX12_common) dX12_common_13, w_istore_n (M := mX12_common) (i := 2) dX12_common_14 rfl (by decide), w_iload4 (M := mX12_common) dX12_common_15, w_istore_n (M := mX12_common) (i := 3) dX12_common_17 rfl (by decide), w_goto (M := mX12_common) (tgt := 4) dX12_common_18 (by decide), w_iload_n2 (M := mX12_common) dX12_common_21, w_iret (M := mX12_common) dX12_common_22 rfl, Kn_v_, Kn_n_, kl_i_, kl_a_, kl_l_, kl_n_, s1_0_, s2_0_, s1_1, s1_2, s1_3, s1_4, s1_5, s1_6, s1_7, s1_8, s1_9, s1_10, s1_11, s1_12, s1_13, s1_14, s2_1, s2_2, s2_3, s2_4, s2_5, s2_6, s2_7, s2_8, s2_9, s2_10, s2_11, s2_12, s2_13, s2_14, List.map_nil, List.map_cons, List.sum_nil, List.sum_cons, ct_i_, ct_r_, ct_l_, t_si_, t_sl_, t_sr_, n_si_, n_sl_, n_sr_, i_si_, i_sl_, i_sr_, l_si_, l_sl_, l_sr_, r_si_, r_sl_, r_sr_, vr_s_, vr_n_, nz_0_, nz_1_]
  rw [key k x y _ _ _ hk hx hy]
set_option maxRecDepth 20000 in
theorem q_X12_inLowest {u l : Nat} {v : Int32} (hu : u < 1048576) (hl : 0 < l) (hl2 : l < 1048576) : Cal (d + 1) mX12_inLowest [.int (nI u), .int (nI l), .int v] h Q = Q (some (.int (nI ((if v = 0 then u else l) / Nat.gcd u l)))) h := by
  have hg : Nat.gcd u l ≤ l := Nat.gcd_le_right u hl
  have hg0 : 0 < Nat.gcd u l := Nat.gcd_pos_of_pos_right u hl
  have e1 : (nI (Nat.gcd u l) = 0) = False := by rw [nI_e0 (by omega)]; exact eq_false (by omega)
  unfold Cal
  rw [l_X12_inLowest]
  simp only [am_en, am_ag, ct_i, ct_r, ct_l, List.length_cons, List.length_nil, List.replicate]
  simp [w_iload_n1 (M := mX12_inLowest) dX12_inLowest_0, w_iload_n0 (M := mX12_inLowest) dX12_inLowest_1, c_12_556 (M := mX12_inLowest) dX12_inLowest_2 rfl, w_istore_n (M := mX12_inLowest) (i := 3) dX12_inLowest_5 rfl (by decide), w_iload_n2 (M := mX12_inLowest) dX12_inLowest_6, w_if_eq (M := mX12_inLowest) (tgt := 16) dX12_inLowest_7 (by decide), w_iload_n1 (M := mX12_inLowest) dX12_inLowest_10, w_iload_n3 (M := mX12_inLowest) dX12_inLowest_11, w_idiv (M := mX12_inLowest) dX12_inLowest_12, w_goto (M := mX12_inLowest) (tgt := 19) dX12_inLowest_13 (by decide), w_iload_n0 (M := mX12_inLowest) dX12_inLowest_16, w_iload_n3 (M := mX12_inLowest) dX12_inLowest_17, w_idiv (M := mX12_inLowest) dX12_inLowest_18, w_iret (M := mX12_inLowest) dX12_inLowest_19 rfl, Kn_v_, Kn_n_, kl_i_, kl_a_, kl_l_, kl_n_, s1_0_, s2_0_, s1_1, s1_2, s1_3, s1_4, s1_5, s1_6, s1_7, s1_8, s1_9, s1_10, s1_11, s1_12, s1_13, s1_14, s2_1, s2_2, s2_3, s2_4, s2_5, s2_6, s2_7, s2_8, s2_9, s2_10, s2_11, s2_12, s2_13, s2_14, List.map_nil, List.map_cons, List.sum_nil, List.sum_cons, ct_i_, ct_r_, ct_l_, t_si_, t_sl_, t_sr_, n_si_, n_sl_, n_sr_, i_si_, i_sl_, i_sr_, l_si_, l_sl_, l_sr_, r_si_, r_sl_, r_sr_, vr_s_, vr_n_, nz_0_, nz_1_, q_X12_common (k := u) (x := l) (y := u) (Nat.le_refl u) hl2 hu, e1]
  by_cases hv : v = 0
  · simp [hv, nI_dv (a := u) (b := Nat.gcd u l) (by omega) (by omega)]
  · simp [hv, nI_dv (a := l) (b := Nat.gcd u l) (by omega) (by omega)]
end L2
