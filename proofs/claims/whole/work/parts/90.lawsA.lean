/-! laws: where the orders of one begin; a law that stands, or none -/
section LAWSA
variable {d t n : Nat} {h s : am_h} {Q : Option Value → am_h → Prop}
theorem ix24 {t k : Nat} : 24 * nI t + nI k = nI (24 * t + k) := by
  rw [show (24 : Int32) = nI 24 from rfl, nI_m, nI_a]
set_option maxRecDepth 20000 in
theorem q_ordersOf_0 (hR : sh_R (a_t h) (a_r h)) (h2 : a_i h 127 2 = -1) {w : Int32} : Cal d mX12_ordersOf [.ref 126, .int w] h Q = Q (some (.int (-1))) h := by
  unfold Cal
  rw [l_X12_ordersOf]
  simp only [am_en, am_ag, ct_i, ct_r, ct_l, List.length_cons, List.length_nil, List.replicate]
  simp [w_iconst (M := mX12_ordersOf) (v := (-1)) dX12_ordersOf_0 rfl, w_istore_n (M := mX12_ordersOf) (i := 2) dX12_ordersOf_1 rfl (by decide), w_iconst (M := mX12_ordersOf) (v := 0) dX12_ordersOf_2 rfl, w_istore_n (M := mX12_ordersOf) (i := 3) dX12_ordersOf_3 rfl (by decide), w_aload_n0 (M := mX12_ordersOf) dX12_ordersOf_4, w_getA (M := mX12_ordersOf) dX12_ordersOf_5 f_12_7 rfl (by decide) (by decide), w_iconst (M := mX12_ordersOf) (v := 2) dX12_ordersOf_8 rfl, w_iaload (M := mX12_ordersOf) dX12_ordersOf_9, w_iconst (M := mX12_ordersOf) (v := (-1)) dX12_ordersOf_10 rfl, w_ic_eq (M := mX12_ordersOf) (tgt := 71) dX12_ordersOf_11 (by decide), w_iload_n3 (M := mX12_ordersOf) dX12_ordersOf_14, w_aload_n0 (M := mX12_ordersOf) dX12_ordersOf_15, w_getA (M := mX12_ordersOf) dX12_ordersOf_16 f_12_27 rfl (by decide) (by decide), w_aload_n0 (M := mX12_ordersOf) dX12_ordersOf_19, w_getA (M := mX12_ordersOf) dX12_ordersOf_20 f_12_7 rfl (by decide) (by decide), w_iconst (M := mX12_ordersOf) (v := 2) dX12_ordersOf_23 rfl, w_iaload (M := mX12_ordersOf) dX12_ordersOf_24, w_iaload (M := mX12_ordersOf) dX12_ordersOf_25, w_ic_ge (M := mX12_ordersOf) (tgt := 71) dX12_ordersOf_26 (by decide), w_bipush (M := mX12_ordersOf) (v := 24) dX12_ordersOf_29 rfl, w_aload_n0 (M := mX12_ordersOf) dX12_ordersOf_31, w_getA (M := mX12_ordersOf) dX12_ordersOf_32 f_12_7 rfl (by decide) (by decide), w_iconst (M := mX12_ordersOf) (v := 2) dX12_ordersOf_35 rfl, w_iaload (M := mX12_ordersOf) dX12_ordersOf_36, w_imul (M := mX12_ordersOf) dX12_ordersOf_37, w_iload_n3 (M := mX12_ordersOf) dX12_ordersOf_38, w_iadd (M := mX12_ordersOf) dX12_ordersOf_39, w_istore (M := mX12_ordersOf) dX12_ordersOf_40 (by decide), w_aload_n0 (M := mX12_ordersOf) dX12_ordersOf_42, w_getA (M := mX12_ordersOf) dX12_ordersOf_43 f_12_30 rfl (by decide) (by decide), w_iload4 (M := mX12_ordersOf) dX12_ordersOf_46, w_iaload (M := mX12_ordersOf) dX12_ordersOf_48, w_iload_n1 (M := mX12_ordersOf) dX12_ordersOf_49, w_ic_ne (M := mX12_ordersOf) (tgt := 63) dX12_ordersOf_50 (by decide), w_aload_n0 (M := mX12_ordersOf) dX12_ordersOf_53, w_getA (M := mX12_ordersOf) dX12_ordersOf_54 f_12_33 rfl (by decide) (by decide), w_iload4 (M := mX12_ordersOf) dX12_ordersOf_57, w_iaload (M := mX12_ordersOf) dX12_ordersOf_59, w_goto (M := mX12_ordersOf) (tgt := 64) dX12_ordersOf_60 (by decide), w_iload_n2 (M := mX12_ordersOf) dX12_ordersOf_63, w_istore_n (M := mX12_ordersOf) (i := 2) dX12_ordersOf_64 rfl (by decide), w_iinc3 (M := mX12_ordersOf) (v := 1) dX12_ordersOf_65 rfl (by decide), w_goto (M := mX12_ordersOf) (tgt := 4) dX12_ordersOf_68 (by decide), w_iload_n2 (M := mX12_ordersOf) dX12_ordersOf_71, w_iret (M := mX12_ordersOf) dX12_ordersOf_72 rfl, Kn_v_, Kn_n_, kl_i_, kl_a_, kl_l_, kl_n_, s1_0_, s2_0_, s1_1, s1_2, s1_3, s1_4, s1_5, s1_6, s1_7, s1_8, s1_9, s1_10, s1_11, s1_12, s1_13, s1_14, s2_1, s2_2, s2_3, s2_4, s2_5, s2_6, s2_7, s2_8, s2_9, s2_10, s2_11, s2_12, s2_13, s2_14, List.map_nil, List.map_cons, List.sum_nil, List.sum_cons, ct_i_, ct_r_, ct_l_, t_si_, t_sl_, t_sr_, n_si_, n_sl_, n_sr_, i_si_, i_sl_, i_sr_, l_si_, l_sl_, l_sr_, r_si_, r_sl_, r_sr_, vr_s_, vr_n_, nz_0_, nz_1_, hR.e, h2, am_in1]
/-- the last one that fits -/
def oF (I : Nat → Nat → Int32) (t : Nat) (w : Int32) (k : Nat) (v : Int32) : Int32 := if I 131 (24 * t + k) = w then I 132 (24 * t + k) else v
set_option maxRecDepth 20000 in
set_option maxHeartbeats 1000000 in
theorem q_ordersOf (hR : sh_R (a_t h) (a_r h)) (ht : t < 4) (h2 : a_i h 127 2 = nI t) (hn : a_i h 130 t = nI n) (hn2 : n ≤ 24) {w : Int32} : Cal d mX12_ordersOf [.ref 126, .int w] h Q = Q (some (.int (itr (oF (a_i h) t w) 0 n (-1)))) h := by
  have st : ∀ (i : Nat) (s : Int32 × Option Value), i < n → s.1 = itr (oF (a_i h) t w) 0 i (-1) → ∃ s' : Int32 × Option Value, (∀ Q, WP d mX12_ordersOf 4 [some (.ref 126), some (.int w), some (.int s.1), some (.int (nI i)), s.2] [] h Q = WP d mX12_ordersOf 4 [some (.ref 126), some (.int w), some (.int s'.1), some (.int (nI (i + 1))), s'.2] [] h Q) ∧ s'.1 = itr (oF (a_i h) t w) 0 (i + 1) (-1) := by
    intro i s hi hs
    refine ⟨(oF (a_i h) t w i s.1, some (.int (nI (24 * t + i)))), fun Q => ?_, ?_⟩
    · rw [w_aload_n0 (M := mX12_ordersOf) dX12_ordersOf_4]
      simp [w_getA (M := mX12_ordersOf) dX12_ordersOf_5 f_12_7 rfl (by decide) (by decide), w_iconst (M := mX12_ordersOf) (v := 2) dX12_ordersOf_8 rfl, w_iaload (M := mX12_ordersOf) dX12_ordersOf_9, w_iconst (M := mX12_ordersOf) (v := (-1)) dX12_ordersOf_10 rfl, w_ic_eq (M := mX12_ordersOf) (tgt := 71) dX12_ordersOf_11 (by decide), w_iload_n3 (M := mX12_ordersOf) dX12_ordersOf_14, w_aload_n0 (M := mX12_ordersOf) dX12_ordersOf_15, w_getA (M := mX12_ordersOf) dX12_ordersOf_16 f_12_27 rfl (by decide) (by decide), w_aload_n0 (M := mX12_ordersOf) dX12_ordersOf_19, w_getA (M := mX12_ordersOf) dX12_ordersOf_20 f_12_7 rfl (by decide) (by decide), w_iconst (M := mX12_ordersOf) (v := 2) dX12_ordersOf_23 rfl, w_iaload (M := mX12_ordersOf) dX12_ordersOf_24, w_iaload (M := mX12_ordersOf) dX12_ordersOf_25, w_ic_ge (M := mX12_ordersOf) (tgt := 71) dX12_ordersOf_26 (by decide), w_bipush (M := mX12_ordersOf) (v := 24) dX12_ordersOf_29 rfl, w_aload_n0 (M := mX12_ordersOf) dX12_ordersOf_31, w_getA (M := mX12_ordersOf) dX12_ordersOf_32 f_12_7 rfl (by decide) (by decide), w_iconst (M := mX12_ordersOf) (v := 2) dX12_ordersOf_35 rfl, w_iaload (M := mX12_ordersOf) dX12_ordersOf_36, w_imul (M := mX12_ordersOf) dX12_ordersOf_37, w_iload_n3 (M := mX12_ordersOf) dX12_ordersOf_38, w_iadd (M := mX12_ordersOf) dX12_ordersOf_39, w_istore (M := mX12_ordersOf) dX12_ordersOf_40 (by decide), w_aload_n0 (M := mX12_ordersOf) dX12_ordersOf_42, w_getA (M := mX12_ordersOf) dX12_ordersOf_43 f_12_30 rfl (by decide) (by decide), w_iload4 (M := mX12_ordersOf) dX12_ordersOf_46, w_iaload (M := mX12_ordersOf) dX12_ordersOf_48, w_iload_n1 (M := mX12_ordersOf) dX12_ordersOf_49, w_ic_ne (M := mX12_ordersOf) (tgt := 63) dX12_ordersOf_50 (by decide), w_aload_n0 (M := mX12_ordersOf) dX12_ordersOf_53, w_getA (M := mX12_ordersOf) dX12_ordersOf_54 f_12_33 rfl (by decide) (by decide), w_iload4 (M := mX12_ordersOf) dX12_ordersOf_57, w_iaload (M := mX12_ordersOf) dX12_ordersOf_59, w_goto (M := mX12_ordersOf) (tgt := 64) dX12_ordersOf_60 (by decide), w_iload_n2 (M := mX12_ordersOf) dX12_ordersOf_63, w_istore_n (M := mX12_ordersOf) (i := 2) dX12_ordersOf_64 rfl (by decide), w_iinc3 (M := mX12_ordersOf) (v := 1) dX12_ordersOf_65 rfl (by decide), w_goto (M := mX12_ordersOf) (tgt := 4) dX12_ordersOf_68 (by decide), Kn_v_, Kn_n_, kl_i_, kl_a_, kl_l_, kl_n_, s1_0_, s2_0_, s1_1, s1_2, s1_3, s1_4, s1_5, s1_6, s1_7, s1_8, s1_9, s1_10, s1_11, s1_12, s1_13, s1_14, s2_1, s2_2, s2_3, s2_4, s2_5, s2_6, s2_7, s2_8, s2_9, s2_10, s2_11, s2_12, s2_13, s2_14, List.map_nil, List.map_cons, List.sum_nil, List.sum_cons, ct_i_, ct_r_, ct_l_, t_si_, t_sl_, t_sr_, n_si_, n_sl_, n_sr_, i_si_, i_sl_, i_sr_, l_si_, l_sl_, l_sr_, r_si_, r_sl_, r_sr_, vr_s_, vr_n_, nz_0_, nz_1_, hR.e, h2, hn, am_in1, nI_n1 (a := t) (by omega), in1_n (k := t) (n := 4) (by omega), ht, nI_c (a := t) (by omega), nI_p (a := t) (by omega), show (nI i < nI n) = True from nI_ltT hi (by omega), ix24, in1_n (k := 24 * t + i) (n := 96) (by omega), nI_p (a := 24 * t + i) (by omega), show 24 * t + i < 96 by omega, nI_c (a := 24 * t + i) (by omega), nI_s]
      unfold oF
      by_cases c : a_i h 131 (24 * t + i) = w <;> simp [c]
    · rw [itr_snoc, ← hs]
      simp
  obtain ⟨⟨v, o⟩, e1, e2⟩ := lp (W := fun i (s : Int32 × Option Value) Q => WP d mX12_ordersOf 4 [some (.ref 126), some (.int w), some (.int s.1), some (.int (nI i)), s.2] [] h Q) (P := fun i s => s.1 = itr (oF (a_i h) t w) 0 i (-1)) st n 0 (-1, none) (by omega) rfl
  have e3 := e1 Q
  unfold Cal
  rw [l_X12_ordersOf]
  simp only [am_en, am_ag, ct_i, ct_r, ct_l, List.length_cons, List.length_nil, List.replicate]
  simp only [] at e2
  subst e2
  simp [w_iconst (M := mX12_ordersOf) (v := (-1)) dX12_ordersOf_0 rfl, w_istore_n (M := mX12_ordersOf) (i := 2) dX12_ordersOf_1 rfl (by decide), w_iconst (M := mX12_ordersOf) (v := 0) dX12_ordersOf_2 rfl, w_istore_n (M := mX12_ordersOf) (i := 3) dX12_ordersOf_3 rfl (by decide), Kn_v_, Kn_n_, kl_i_, kl_a_, kl_l_, kl_n_, s1_0_, s2_0_, s1_1, s1_2, s1_3, s1_4, s1_5, s1_6, s1_7, s1_8, s1_9, s1_10, s1_11, s1_12, s1_13, s1_14, s2_1, s2_2, s2_3, s2_4, s2_5, s2_6, s2_7, s2_8, s2_9, s2_10, s2_11, s2_12, s2_13, s2_14, List.map_nil, List.map_cons, List.sum_nil, List.sum_cons, ct_i_, ct_r_, ct_l_, t_si_, t_sl_, t_sr_, n_si_, n_sl_, n_sr_, i_si_, i_sl_, i_sr_, l_si_, l_sl_, l_sr_, r_si_, r_sl_, r_sr_, vr_s_, vr_n_, nz_0_, nz_1_]
  refine Eq.to_iff (Eq.trans e3 ?_)
  show WP d mX12_ordersOf 4 _ _ _ _ = _
  rw [w_aload_n0 (M := mX12_ordersOf) dX12_ordersOf_4]
  simp [w_getA (M := mX12_ordersOf) dX12_ordersOf_5 f_12_7 rfl (by decide) (by decide), w_iconst (M := mX12_ordersOf) (v := 2) dX12_ordersOf_8 rfl, w_iaload (M := mX12_ordersOf) dX12_ordersOf_9, w_iconst (M := mX12_ordersOf) (v := (-1)) dX12_ordersOf_10 rfl, w_ic_eq (M := mX12_ordersOf) (tgt := 71) dX12_ordersOf_11 (by decide), w_iload_n3 (M := mX12_ordersOf) dX12_ordersOf_14, w_aload_n0 (M := mX12_ordersOf) dX12_ordersOf_15, w_getA (M := mX12_ordersOf) dX12_ordersOf_16 f_12_27 rfl (by decide) (by decide), w_aload_n0 (M := mX12_ordersOf) dX12_ordersOf_19, w_getA (M := mX12_ordersOf) dX12_ordersOf_20 f_12_7 rfl (by decide) (by decide), w_iconst (M := mX12_ordersOf) (v := 2) dX12_ordersOf_23 rfl, w_iaload (M := mX12_ordersOf) dX12_ordersOf_24, w_iaload (M := mX12_ordersOf) dX12_ordersOf_25, w_ic_ge (M := mX12_ordersOf) (tgt := 71) dX12_ordersOf_26 (by decide), w_bipush (M := mX12_ordersOf) (v := 24) dX12_ordersOf_29 rfl, w_aload_n0 (M := mX12_ordersOf) dX12_ordersOf_31, w_getA (M := mX12_ordersOf) dX12_ordersOf_32 f_12_7 rfl (by decide) (by decide), w_iconst (M := mX12_ordersOf) (v := 2) dX12_ordersOf_35 rfl, w_iaload (M := mX12_ordersOf) dX12_ordersOf_36, w_imul (M := mX12_ordersOf) dX12_ordersOf_37, w_iload_n3 (M := mX12_ordersOf) dX12_ordersOf_38, w_iadd (M := mX12_ordersOf) dX12_ordersOf_39, w_istore (M := mX12_ordersOf) dX12_ordersOf_40 (by decide), w_aload_n0 (M := mX12_ordersOf) dX12_ordersOf_42, w_getA (M := mX12_ordersOf) dX12_ordersOf_43 f_12_30 rfl (by decide) (by decide), w_iload4 (M := mX12_ordersOf) dX12_ordersOf_46, w_iaload (M := mX12_ordersOf) dX12_ordersOf_48, w_iload_n1 (M := mX12_ordersOf) dX12_ordersOf_49, w_ic_ne (M := mX12_ordersOf) (tgt := 63) dX12_ordersOf_50 (by decide), w_aload_n0 (M := mX12_ordersOf) dX12_ordersOf_53, w_getA (M := mX12_ordersOf) dX12_ordersOf_54 f_12_33 rfl (by decide) (by decide), w_iload4 (M := mX12_ordersOf) dX12_ordersOf_57, w_iaload (M := mX12_ordersOf) dX12_ordersOf_59, w_goto (M := mX12_ordersOf) (tgt := 64) dX12_ordersOf_60 (by decide), w_iload_n2 (M := mX12_ordersOf) dX12_ordersOf_63, w_istore_n (M := mX12_ordersOf) (i := 2) dX12_ordersOf_64 rfl (by decide), w_iinc3 (M := mX12_ordersOf) (v := 1) dX12_ordersOf_65 rfl (by decide), w_goto (M := mX12_ordersOf) (tgt := 4) dX12_ordersOf_68 (by decide), w_iload_n2 (M := mX12_ordersOf) dX12_ordersOf_71, w_iret (M := mX12_ordersOf) dX12_ordersOf_72 rfl, Kn_v_, Kn_n_, kl_i_, kl_a_, kl_l_, kl_n_, s1_0_, s2_0_, s1_1, s1_2, s1_3, s1_4, s1_5, s1_6, s1_7, s1_8, s1_9, s1_10, s1_11, s1_12, s1_13, s1_14, s2_1, s2_2, s2_3, s2_4, s2_5, s2_6, s2_7, s2_8, s2_9, s2_10, s2_11, s2_12, s2_13, s2_14, List.map_nil, List.map_cons, List.sum_nil, List.sum_cons, ct_i_, ct_r_, ct_l_, t_si_, t_sl_, t_sr_, n_si_, n_sl_, n_sr_, i_si_, i_sl_, i_sr_, l_si_, l_sl_, l_sr_, r_si_, r_sl_, r_sr_, vr_s_, vr_n_, nz_0_, nz_1_, hR.e, h2, hn, am_in1, nI_n1 (a := t) (by omega), in1_n (k := t) (n := 4) (by omega), ht, nI_c (a := t) (by omega), nI_p (a := t) (by omega), show (nI n < nI n) = False from nI_ltF (Nat.le_refl _) (by omega)]
theorem oF_no {I : Nat → Nat → Int32} {w : Int32} (k : ∀ j, j < n → ¬ I 131 (24 * t + j) = w) : itr (oF I t w) 0 n (-1) = -1 := by
  induction n with
  | zero => rfl
  | succ n ih =>
    rw [itr_snoc, ih (fun j hj => k j (by omega))]
    unfold oF
    rw [if_neg (by have := k n (by omega); rw [Nat.zero_add]; exact this)]
theorem oF_one {I : Nat → Nat → Int32} {w : Int32} {k : Nat} (hk : k < n) (h1 : I 131 (24 * t + k) = w) (k1 : ∀ j, j < n → I 131 (24 * t + j) = w → j = k) : itr (oF I t w) 0 n (-1) = I 132 (24 * t + k) := by
  induction n with
  | zero => omega
  | succ n ih =>
    rw [itr_snoc, Nat.zero_add]
    by_cases c : k = n
    · unfold oF
      subst c
      rw [if_pos h1]
    · have c2 : ¬ I 131 (24 * t + n) = w := fun z => c (k1 n (by omega) z).symm
      unfold oF at ih ⊢
      rw [if_neg c2]
      exact ih (by omega) (fun j hj z => k1 j (by omega) z)
/-- there is no law w now -/
def LN (h : am_h) (w : Nat) : Prop := (a_i h 127 2 = -1 ∧ a_r h 91 0 = none) ∨ ∃ t n, t < 4 ∧ a_i h 127 2 = nI t ∧ a_r h 91 0 = some (94 + 8 * t) ∧ a_i h (94 + 8 * t + 5) w = -1 ∧ n ≤ 24 ∧ a_i h 130 t = nI n ∧ ∀ k, k < n → ¬ a_i h 131 (24 * t + k) = nI w
/-- the law w stands now -/
def LW (h : am_h) (w t f n x : Nat) (op a : Nat → Nat) (ty : Nat → List Bool) : Prop :=
  (a_i h 127 2 = nI t ∧ a_r h 91 0 = some (94 + 8 * t) ∧ a_i h (94 + 8 * t + 5) w = nI f ∧ a_i h (94 + 8 * t + 6) w = nI (f + n))
  ∧ (∃ m k, m ≤ 24 ∧ a_i h 130 t = nI m ∧ k < m ∧ a_i h 131 (24 * t + k) = nI w ∧ (∀ j, j < m → a_i h 131 (24 * t + j) = nI w → j = k) ∧ a_i h 132 (24 * t + k) = nI (400 * t + x))
  ∧ a_i h 136 (400 * t + x + n) = 408
  ∧ ∀ i, i < n → op i < 18 ∧ a i ≤ 9999 ∧ (op i = 1 → okN w (a i)) ∧ a_i h 136 (400 * t + x + i) = oOf (op i) ∧ tyStep ty i (op i) (a i)
      ∧ (if op i = 2 ∨ op i = 3 then a i ≤ n ∧ a_i h (94 + 8 * t + 7) (f + i) = nI ((f + a i) * 32 + op i) ∧ a_i h 137 (400 * t + x + i) = nI (400 * t + x + a i)
         else a_i h (94 + 8 * t + 7) (f + i) = nI (a i * 32 + op i) ∧ a_i h 137 (400 * t + x + i) = nI (a i))
/-- what the law w says now: of names, and without -/
def LX (h : am_h) (w : Nat) (V : (Nat → Int32) → Int32 → Int32) : Prop :=
  sh_C (a_t h) (a_r h) ∧ sh_R (a_t h) (a_r h) ∧ rOl h
  ∧ ((LN h w ∧ V = fun _ v => v) ∨ ∃ t f n x op a ty, t < 4 ∧ f + n ≤ 300 ∧ x + n < 400 ∧ ty 0 = [] ∧ ty n = [false] ∧ (∀ i, (ty i).length ≤ 64) ∧ LW h w t f n x op a ty ∧ V = fun N _ => hld (LV N op a n) (lo5 w) (hi5 w))
theorem LX_fr {w : Nat} {V : (Nat → Int32) → Int32 → Int32} (ht : a_t s = a_t h) (hr : a_r s = a_r h) (hI : ∀ q j, (94 ≤ q ∧ q < 126) ∨ (130 ≤ q ∧ q < 138) ∨ 1000000 ≤ q → a_i s q j = a_i h q j) (h2 : a_i s 127 2 = a_i h 127 2) (k : LX h w V) : LX s w V := by
  obtain ⟨k1, k2, ⟨o1, o2, o3⟩, k4⟩ := k
  refine ⟨by rw [ht, hr]; exact k1, by rw [ht, hr]; exact k2, ⟨by rw [ht]; exact o1, by rw [ht]; exact o2, fun w hw => by rw [hI _ _ (by omega), hI _ _ (by omega)]; exact o3 w hw⟩, ?_⟩
  rcases k4 with ⟨k4, k5⟩ | ⟨t, f, n, x, op, a, ty, k4, k5, k6, k7, k8, k9, k10, k11⟩
  · refine Or.inl ⟨?_, k5⟩
    rcases k4 with z | ⟨t, n, z1, z2, z3, z4, z5, z6, z7⟩
    · exact Or.inl (by rw [h2, hr]; exact z)
    · refine Or.inr ⟨t, n, z1, by rw [h2]; exact z2, by rw [hr]; exact z3, by rw [hI _ _ (by omega)]; exact z4, z5, by rw [hI _ _ (by omega)]; exact z6, fun k hk => by rw [hI _ _ (by omega)]; exact z7 k hk⟩
  · refine Or.inr ⟨t, f, n, x, op, a, ty, k4, k5, k6, k7, k8, k9, ?_, k11⟩
    unfold LW at k10 ⊢
    rw [h2, hr]
    simp (disch := omega) only [hI]
    exact k10
theorem LX_ex (X : PX) (k : Inv X h) (ol : rOl h) {w : Nat} (hw : w < 5) (hr : a_r h 91 0 = if a_i h 127 2 = -1 then none else some (94 + 8 * Nn (a_i h 127 2))) : ∃ V, LX h w V := by
  have g := k.2.1.1.2.2.2.2
  obtain ⟨-, g1, g2, -⟩ := g
  have tx := k.2.2.2.2.2
  by_cases c : a_i h 127 2 = -1
  · rw [if_pos c] at hr
    exact ⟨_, k.1.1, k.1.2.1, ol, Or.inl ⟨Or.inl ⟨c, hr⟩, rfl⟩⟩
  · rw [if_neg c] at hr
    have c0 : 0 ≤ (a_i h 127 2).toInt := by
      have z : ¬ (a_i h 127 2).toInt = -1 := fun z => c (Int32.toInt_inj.mp (by rw [z]; rfl))
      unfold bt at g2
      omega
    have b2 : bt 0 (a_i h 127 2) 3 := ⟨c0, by unfold bt at g1 g2; omega⟩
    have e2 := bt_e b2 (by omega) (by omega)
    have i2 := bt_i b2 (by omega)
    have i1 := bt_i g1 (by omega)
    have lt : Nn (a_i h 127 2) < Nn (a_i h 127 1) := by unfold bt at g2; omega
    have l4 : Nn (a_i h 127 2) < 4 := by unfold bt at b2; omega
    generalize Nn (a_i h 127 2) = t at *
    obtain ⟨x1, x2, x3, x4⟩ := tx t lt
    have en := bt_e x2 (by omega) (by omega)
    have n24 := bt_n (m := 24) x2 (by omega) (by omega)
    rcases x4 w hw with ⟨z1, z2⟩ | ⟨k, f, n, x, z1, z2, z3, z4, z5, z6, z7, z8, z9, op, a, ty, z10, z11, z12, z13⟩
    · exact ⟨_, ‹Inv X h›.1.1, ‹Inv X h›.1.2.1, ol, Or.inl ⟨Or.inr ⟨t, _, l4, e2, hr, z1, n24, en, z2⟩, rfl⟩⟩
    · exact ⟨_, ‹Inv X h›.1.1, ‹Inv X h›.1.2.1, ol, Or.inr ⟨t, f, n, x, op, a, ty, l4, z4, z5, z10, z11, z12, ⟨⟨e2, hr, z6, z7⟩, ⟨_, k, n24, en, z1, z2, z3, z8⟩, z9, z13⟩, rfl⟩⟩
theorem LX_N {w : Nat} {V : (Nat → Int32) → Int32 → Int32} (k : LX h w V) {N N' : Nat → Int32} {v : Int32} (hN : ∀ a, okN w a → N a = N' a) : V N v = V N' v := by
  obtain ⟨-, -, -, k4⟩ := k
  rcases k4 with ⟨-, rfl⟩ | ⟨t, f, n, x, op, a, ty, k4, k5, k6, k7, k8, k9, ⟨-, -, -, k10⟩, rfl⟩
  · rfl
  · show hld (LV N op a n) _ _ = hld (LV N' op a n) _ _
    unfold LV
    rw [ev_N (fun i hi h1 => hN _ ((k10 i hi).2.2.1 h1))]
theorem hld_b {v lo hi : Int32} (k : lo.toInt ≤ hi.toInt) : bt lo.toInt (hld v lo hi) hi.toInt := by
  unfold hld bt
  simp only [i_lt]
  repeat' split
  all_goals omega
theorem LX_b {w : Nat} (hw : w < 5) {V : (Nat → Int32) → Int32 → Int32} (k : LX h w V) {N : Nat → Int32} {v : Int32} (hv : bt (lo5 w).toInt v (hi5 w).toInt) : bt (lo5 w).toInt (V N v) (hi5 w).toInt := by
  obtain ⟨-, -, -, k4⟩ := k
  rcases k4 with ⟨-, rfl⟩ | ⟨t, f, n, x, op, a, ty, k4, k5, k6, k7, k8, k9, k10, rfl⟩
  · exact hv
  · refine hld_b ?_
    have : w = 0 ∨ w = 1 ∨ w = 2 ∨ w = 3 ∨ w = 4 := by omega
    rcases this with rfl | rfl | rfl | rfl | rfl <;> decide
end LAWSA
