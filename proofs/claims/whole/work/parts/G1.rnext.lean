/-! the other side's tape: a byte, its blanks, letters, digits -/
section RNEXT
variable {d n c k i : Nat} {h : am_h} {Q : Option Value → am_h → Prop} {t : Nat → Nat}
theorem nI_lE {a b : Nat} (ha : a < 2000000000) (hb : b < 2000000000) : (nI a ≤ nI b) = (a ≤ b) := by
  have e : (nI a ≤ nI b) = ¬ (nI b < nI a) := by simp
  rw [e, nI_lI hb ha]; simp
/-- a byte as it is kept -/
def b8 (c : Nat) : Int32 := (nI c).toInt8.toInt32
theorem b8_k : ∀ c, c < 256 → (b8 c = 32 ↔ c = 32) ∧ (b8 c = 10 ↔ c = 10) ∧ (b8 c = 60 ↔ c = 60) ∧ (b8 c = 62 ↔ c = 62) ∧ (b8 c = 61 ↔ c = 61) := by decide +kernel
theorem b8_l : ∀ c, c < 256 → (inn (b8 c) 97 122 || inn (b8 c) 65 90) = lt c ∧ inn (b8 c) 48 57 = dg c := by decide +kernel
theorem b8_a : ∀ c, c < 256 → (lt c = true ∨ dg c = true ∨ sgn c = true) → b8 c = nI c := by decide +kernel
theorem b8_s : ∀ c, c < 256 → (inn (b8 c) 59 62 || inn (b8 c) 40 45 || decide (b8 c = 47) || decide (b8 c = 35)) = (sgn c || decide (c = 44)) := by decide +kernel
theorem rq_isLetter (hR : sh_R (a_t h) (a_r h)) (hc : c < 256) : Cal (d + 1) mX12_isLetter [.int (b8 c)] h Q = Q (some (.int (if lt c then 1 else 0))) h := by
  have e := (b8_l c hc).1
  rw [q_X12_isLetter (eq_true hR)]
  by_cases c1 : inn (b8 c) 97 122 = true
  · rw [if_pos c1]
    rw [c1, Bool.true_or] at e
    rw [if_pos e.symm]
  · rw [if_neg c1]
    rw [eq_false_of_ne_true c1, Bool.false_or] at e
    rw [← e]
    by_cases c2 : inn (b8 c) 65 90 = true
    · rw [if_pos c2, if_pos c2]
    · rw [if_neg c2, if_neg c2]
/-- the other side's tape -/
def tpR (h : am_h) (t : Nat → Nat) (n : Nat) : Prop := sh_R (a_t h) (a_r h) ∧ a_i h 126 14 = nI n ∧ n ≤ 300 ∧ (∀ j, j < n → a_i h 129 j = b8 (t j) ∧ t j < 256)
def skb (t : Nat → Nat) (n : Nat) : Nat → Nat → Nat
  | 0, i => i
  | k + 1, i => if i < n ∧ (t i = 32 ∨ t i = 10) then skb t n k (i + 1) else i
def nL (a b c e : Option Value) : am_L := [some (.ref 126), a, b, c, e]
theorem nbl (T : tpR h t n) : ∀ (k i : Nat), i + k = n → WP d mX12_next 0 (nL none none none none) [] (s_i h 126 15 (nI i)) Q = WP d mX12_next 52 (nL none none none none) [] (s_i h 126 15 (nI (skb t n k i))) Q := by
  obtain ⟨hR, e1, hn, ht⟩ := T
  intro k
  induction k with
  | zero =>
    intro i e
    have c1 : (nI i < nI n) = False := nI_ltF (by omega) (by omega)
    have c2 : (nI n ≤ nI i) = True := by rw [nI_cle (by omega) (by omega)]; exact eq_true (by omega)
    unfold nL
    simp [w_aload_n0 (M := mX12_next) dX12_next_0, w_getI (M := mX12_next) dX12_next_1 f_12_265 rfl (by decide) (by decide), w_aload_n0 (M := mX12_next) dX12_next_4, w_getI (M := mX12_next) dX12_next_5 f_12_268 rfl (by decide) (by decide), w_ic_ge (M := mX12_next) (tgt := 52) dX12_next_8 (by decide), Kn_v_, Kn_n_, kl_i_, kl_a_, kl_l_, kl_n_, s1_0_, s2_0_, s1_1, s1_2, s1_3, s1_4, s1_5, s1_6, s1_7, s1_8, s1_9, s1_10, s1_11, s1_12, s1_13, s1_14, s2_1, s2_2, s2_3, s2_4, s2_5, s2_6, s2_7, s2_8, s2_9, s2_10, s2_11, s2_12, s2_13, s2_14, List.map_nil, List.map_cons, List.sum_nil, List.sum_cons, ct_i_, ct_r_, ct_l_, t_si_, t_sl_, t_sr_, n_si_, n_sl_, n_sr_, i_si_, i_sl_, i_sr_, l_si_, l_sl_, l_sr_, r_si_, r_sl_, r_sr_, vr_s_, vr_n_, nz_0_, nz_1_, hR.e, e1, c1, c2, skb]
  | succ k ih =>
    intro i e
    obtain ⟨t1, t2⟩ := ht i (by omega)
    obtain ⟨b1, b2, -⟩ := b8_k _ t2
    have c1 : (nI i < nI n) = True := nI_ltT (by omega) (by omega)
    have c2 : (nI n ≤ nI i) = False := by rw [nI_cle (by omega) (by omega)]; exact eq_false (by omega)
    have x1 : am_in1 (nI i) 300 = True := by rw [in1_n (by omega)]; exact eq_true (by omega)
    have x2 := nI_c (a := i) (by omega)
    have x3 : nI i + 1 = nI (i + 1) := nI_a (b := 1)
    by_cases g : t i = 32 ∨ t i = 10
    · have es : skb t n (k + 1) i = skb t n k (i + 1) := by
        show (if _ then _ else _) = _
        rw [if_pos ⟨by omega, g⟩]
      have s1 : WP d mX12_next 0 (nL none none none none) [] (s_i h 126 15 (nI i)) Q = WP d mX12_next 39 (nL none none none none) [] (s_i h 126 15 (nI i)) Q := by
        unfold nL
        rcases g with g | g
        · have q1 : (b8 (t i) = 32) = True := eq_true (b1.mpr g)
          simp [w_aload_n0 (M := mX12_next) dX12_next_0, w_getI (M := mX12_next) dX12_next_1 f_12_265 rfl (by decide) (by decide), w_aload_n0 (M := mX12_next) dX12_next_4, w_getI (M := mX12_next) dX12_next_5 f_12_268 rfl (by decide) (by decide), w_ic_ge (M := mX12_next) (tgt := 52) dX12_next_8 (by decide), w_aload_n0 (M := mX12_next) dX12_next_11, w_getA (M := mX12_next) dX12_next_12 f_12_16 rfl (by decide) (by decide), w_aload_n0 (M := mX12_next) dX12_next_15, w_getI (M := mX12_next) dX12_next_16 f_12_265 rfl (by decide) (by decide), w_baload (M := mX12_next) dX12_next_19, w_bipush (M := mX12_next) (v := 32) dX12_next_20 rfl, w_ic_eq (M := mX12_next) (tgt := 39) dX12_next_22 (by decide), w_aload_n0 (M := mX12_next) dX12_next_25, w_getA (M := mX12_next) dX12_next_26 f_12_16 rfl (by decide) (by decide), w_aload_n0 (M := mX12_next) dX12_next_29, w_getI (M := mX12_next) dX12_next_30 f_12_265 rfl (by decide) (by decide), w_baload (M := mX12_next) dX12_next_33, w_bipush (M := mX12_next) (v := 10) dX12_next_34 rfl, w_ic_ne (M := mX12_next) (tgt := 52) dX12_next_36 (by decide), Kn_v_, Kn_n_, kl_i_, kl_a_, kl_l_, kl_n_, s1_0_, s2_0_, s1_1, s1_2, s1_3, s1_4, s1_5, s1_6, s1_7, s1_8, s1_9, s1_10, s1_11, s1_12, s1_13, s1_14, s2_1, s2_2, s2_3, s2_4, s2_5, s2_6, s2_7, s2_8, s2_9, s2_10, s2_11, s2_12, s2_13, s2_14, List.map_nil, List.map_cons, List.sum_nil, List.sum_cons, ct_i_, ct_r_, ct_l_, t_si_, t_sl_, t_sr_, n_si_, n_sl_, n_sr_, i_si_, i_sl_, i_sr_, l_si_, l_sl_, l_sr_, r_si_, r_sl_, r_sr_, vr_s_, vr_n_, nz_0_, nz_1_, hR.e, e1, c1, c2, x1, x2, t1, q1]
        · have q1 : (b8 (t i) = 32) = False := eq_false (fun z => by have := b1.mp z; omega)
          have q2 : (b8 (t i) = 10) = True := eq_true (b2.mpr g)
          simp [w_aload_n0 (M := mX12_next) dX12_next_0, w_getI (M := mX12_next) dX12_next_1 f_12_265 rfl (by decide) (by decide), w_aload_n0 (M := mX12_next) dX12_next_4, w_getI (M := mX12_next) dX12_next_5 f_12_268 rfl (by decide) (by decide), w_ic_ge (M := mX12_next) (tgt := 52) dX12_next_8 (by decide), w_aload_n0 (M := mX12_next) dX12_next_11, w_getA (M := mX12_next) dX12_next_12 f_12_16 rfl (by decide) (by decide), w_aload_n0 (M := mX12_next) dX12_next_15, w_getI (M := mX12_next) dX12_next_16 f_12_265 rfl (by decide) (by decide), w_baload (M := mX12_next) dX12_next_19, w_bipush (M := mX12_next) (v := 32) dX12_next_20 rfl, w_ic_eq (M := mX12_next) (tgt := 39) dX12_next_22 (by decide), w_aload_n0 (M := mX12_next) dX12_next_25, w_getA (M := mX12_next) dX12_next_26 f_12_16 rfl (by decide) (by decide), w_aload_n0 (M := mX12_next) dX12_next_29, w_getI (M := mX12_next) dX12_next_30 f_12_265 rfl (by decide) (by decide), w_baload (M := mX12_next) dX12_next_33, w_bipush (M := mX12_next) (v := 10) dX12_next_34 rfl, w_ic_ne (M := mX12_next) (tgt := 52) dX12_next_36 (by decide), Kn_v_, Kn_n_, kl_i_, kl_a_, kl_l_, kl_n_, s1_0_, s2_0_, s1_1, s1_2, s1_3, s1_4, s1_5, s1_6, s1_7, s1_8, s1_9, s1_10, s1_11, s1_12, s1_13, s1_14, s2_1, s2_2, s2_3, s2_4, s2_5, s2_6, s2_7, s2_8, s2_9, s2_10, s2_11, s2_12, s2_13, s2_14, List.map_nil, List.map_cons, List.sum_nil, List.sum_cons, ct_i_, ct_r_, ct_l_, t_si_, t_sl_, t_sr_, n_si_, n_sl_, n_sr_, i_si_, i_sl_, i_sr_, l_si_, l_sl_, l_sr_, r_si_, r_sl_, r_sr_, vr_s_, vr_n_, nz_0_, nz_1_, hR.e, e1, c1, c2, x1, x2, t1, q1, q2]
      have s2 : WP d mX12_next 39 (nL none none none none) [] (s_i h 126 15 (nI i)) Q = WP d mX12_next 0 (nL none none none none) [] (s_i h 126 15 (nI (i + 1))) Q := by
        unfold nL
        simp [w_aload_n0 (M := mX12_next) dX12_next_39, w_dup_int (M := mX12_next) dX12_next_40, w_dup_ref (M := mX12_next) dX12_next_40, w_getI (M := mX12_next) dX12_next_41 f_12_265 rfl (by decide) (by decide), w_iconst (M := mX12_next) (v := 1) dX12_next_44 rfl, w_iadd (M := mX12_next) dX12_next_45, w_putI (M := mX12_next) dX12_next_46 f_12_265 rfl (Or.inl rfl), w_goto (M := mX12_next) (tgt := 0) dX12_next_49 (by decide), Kn_v_, Kn_n_, kl_i_, kl_a_, kl_l_, kl_n_, s1_0_, s2_0_, s1_1, s1_2, s1_3, s1_4, s1_5, s1_6, s1_7, s1_8, s1_9, s1_10, s1_11, s1_12, s1_13, s1_14, s2_1, s2_2, s2_3, s2_4, s2_5, s2_6, s2_7, s2_8, s2_9, s2_10, s2_11, s2_12, s2_13, s2_14, List.map_nil, List.map_cons, List.sum_nil, List.sum_cons, ct_i_, ct_r_, ct_l_, t_si_, t_sl_, t_sr_, n_si_, n_sl_, n_sr_, i_si_, i_sl_, i_sr_, l_si_, l_sl_, l_sr_, r_si_, r_sl_, r_sr_, vr_s_, vr_n_, nz_0_, nz_1_, hR.e, x3, si_same]
      rw [es, s1, s2, ih (i + 1) (by omega)]
    · have es : skb t n (k + 1) i = i := by
        show (if _ then _ else _) = _
        rw [if_neg (fun z => g z.2)]
      have q1 : (b8 (t i) = 32) = False := eq_false (fun z => g (Or.inl (b1.mp z)))
      have q2 : (b8 (t i) = 10) = False := eq_false (fun z => g (Or.inr (b2.mp z)))
      rw [es]
      unfold nL
      simp [w_aload_n0 (M := mX12_next) dX12_next_0, w_getI (M := mX12_next) dX12_next_1 f_12_265 rfl (by decide) (by decide), w_aload_n0 (M := mX12_next) dX12_next_4, w_getI (M := mX12_next) dX12_next_5 f_12_268 rfl (by decide) (by decide), w_ic_ge (M := mX12_next) (tgt := 52) dX12_next_8 (by decide), w_aload_n0 (M := mX12_next) dX12_next_11, w_getA (M := mX12_next) dX12_next_12 f_12_16 rfl (by decide) (by decide), w_aload_n0 (M := mX12_next) dX12_next_15, w_getI (M := mX12_next) dX12_next_16 f_12_265 rfl (by decide) (by decide), w_baload (M := mX12_next) dX12_next_19, w_bipush (M := mX12_next) (v := 32) dX12_next_20 rfl, w_ic_eq (M := mX12_next) (tgt := 39) dX12_next_22 (by decide), w_aload_n0 (M := mX12_next) dX12_next_25, w_getA (M := mX12_next) dX12_next_26 f_12_16 rfl (by decide) (by decide), w_aload_n0 (M := mX12_next) dX12_next_29, w_getI (M := mX12_next) dX12_next_30 f_12_265 rfl (by decide) (by decide), w_baload (M := mX12_next) dX12_next_33, w_bipush (M := mX12_next) (v := 10) dX12_next_34 rfl, w_ic_ne (M := mX12_next) (tgt := 52) dX12_next_36 (by decide), Kn_v_, Kn_n_, kl_i_, kl_a_, kl_l_, kl_n_, s1_0_, s2_0_, s1_1, s1_2, s1_3, s1_4, s1_5, s1_6, s1_7, s1_8, s1_9, s1_10, s1_11, s1_12, s1_13, s1_14, s2_1, s2_2, s2_3, s2_4, s2_5, s2_6, s2_7, s2_8, s2_9, s2_10, s2_11, s2_12, s2_13, s2_14, List.map_nil, List.map_cons, List.sum_nil, List.sum_cons, ct_i_, ct_r_, ct_l_, t_si_, t_sl_, t_sr_, n_si_, n_sl_, n_sr_, i_si_, i_sl_, i_sr_, l_si_, l_sl_, l_sr_, r_si_, r_sl_, r_sr_, vr_s_, vr_n_, nz_0_, nz_1_, hR.e, e1, c1, c2, x1, x2, t1, q1, q2]
theorem si_sk {p k l : Nat} {v w : Int32} (e : ¬ k = l) : s_i (s_i h p k v) p l w = s_i (s_i h p l w) p k v := hext rfl rfl (fun r j => by
  by_cases c : r = p ∧ j = l
  · rw [ieq c.1 c.2, ine (by omega), ieq c.1 c.2]
  · rw [ine c]
    by_cases c2 : r = p ∧ j = k
    · rw [ieq c2.1 c2.2, ieq c2.1 c2.2]
    · rw [ine c2, ine c2, ine c]) (fun _ _ => rfl) (fun _ _ => rfl)
theorem b8_L : ∀ c, c < 256 → lt c = true → (b8 c).toInt64 = lN c := by decide +kernel
theorem hs_step {i m : Nat} {t : Nat → Nat} (hb : 65 ≤ t (i + m)) : 64 * lN (hs t i m) + lN (t (i + m)) - 64 = lN (hs t i (m + 1)) := by
  have e : 64 * hs t i m + t (i + m) = hs t i (m + 1) + 64 := by
    show _ = 64 * hs t i m + (t (i + m) - 64) + 64
    omega
  have a1 : (64 : Int64) * lN (hs t i m) = lN (64 * hs t i m) := lN_m (a := 64)
  have a2 : lN (64 * hs t i m) + lN (t (i + m)) = lN (hs t i (m + 1)) + 64 := by
    have q1 : lN (64 * hs t i m) + lN (t (i + m)) = lN (64 * hs t i m + t (i + m)) := (Int64.ofNat_add _ _).symm
    have q2 : lN (hs t i (m + 1)) + 64 = lN (hs t i (m + 1) + 64) := (Int64.ofNat_add _ _).symm
    rw [q1, q2, e]
  rw [a1, a2, Int64.add_sub_cancel]
/-- the letters of a word: from fr on, m of them read -/
theorem nlt (T : tpR h t n) (x : Int32) (fr : Nat) : ∀ (k m : Nat), fr + m + k = n → (∀ e, e < m → lt (t (fr + e)) = true) → WP (d + 2) mX12_next 99 (nL (some (.int x)) (some (.long (lN (hs t fr (min m 8))))) none (some (.int (nI m)))) [] (s_i h 126 15 (nI (fr + m))) Q = WP (d + 2) mX12_next 173 (nL (some (.int x)) (some (.long (lN (hs t fr (min (scw t n k (fr + m) - fr) 8))))) none (some (.int (nI (scw t n k (fr + m) - fr))))) [] (s_i h 126 15 (nI (scw t n k (fr + m)))) Q := by
  obtain ⟨hR, e1, hn, ht⟩ := T
  intro k
  induction k with
  | zero =>
    intro m e _
    have c1 : (nI (fr + m) < nI n) = False := nI_ltF (by omega) (by omega)
    have c2 : (nI n ≤ nI (fr + m)) = True := by rw [nI_cle (by omega) (by omega)]; exact eq_true (by omega)
    have e2 : scw t n 0 (fr + m) = fr + m := rfl
    rw [e2, show fr + m - fr = m by omega]
    unfold nL
    simp [w_aload_n0 (M := mX12_next) dX12_next_99, w_getI (M := mX12_next) dX12_next_100 f_12_265 rfl (by decide) (by decide), w_aload_n0 (M := mX12_next) dX12_next_103, w_getI (M := mX12_next) dX12_next_104 f_12_268 rfl (by decide) (by decide), w_ic_ge (M := mX12_next) (tgt := 173) dX12_next_107 (by decide), Kn_v_, Kn_n_, kl_i_, kl_a_, kl_l_, kl_n_, s1_0_, s2_0_, s1_1, s1_2, s1_3, s1_4, s1_5, s1_6, s1_7, s1_8, s1_9, s1_10, s1_11, s1_12, s1_13, s1_14, s2_1, s2_2, s2_3, s2_4, s2_5, s2_6, s2_7, s2_8, s2_9, s2_10, s2_11, s2_12, s2_13, s2_14, List.map_nil, List.map_cons, List.sum_nil, List.sum_cons, ct_i_, ct_r_, ct_l_, t_si_, t_sl_, t_sr_, n_si_, n_sl_, n_sr_, i_si_, i_sl_, i_sr_, l_si_, l_sl_, l_sr_, r_si_, r_sl_, r_sr_, vr_s_, vr_n_, nz_0_, nz_1_, hR.e, e1, c1, c2]
  | succ k ih =>
    intro m e hl
    obtain ⟨t1, t2⟩ := ht (fr + m) (by omega)
    have c1 : (nI (fr + m) < nI n) = True := nI_ltT (by omega) (by omega)
    have c2 : (nI n ≤ nI (fr + m)) = False := by rw [nI_cle (by omega) (by omega)]; exact eq_false (by omega)
    have x1 : am_in1 (nI (fr + m)) 300 = True := by rw [in1_n (by omega)]; exact eq_true (by omega)
    have x2 := nI_c (a := fr + m) (by omega)
    have x3 : nI (fr + m) + 1 = nI (fr + (m + 1)) := nI_a (b := 1)
    have x4 : nI m + 1 = nI (m + 1) := nI_a (b := 1)
    obtain ⟨H, eH⟩ : ∃ H, H = s_i h 126 15 (nI (fr + m)) := ⟨_, rfl⟩
    have lq : ∀ Q, Cal (d + 1) mX12_isLetter [.int (b8 (t (fr + m)))] H Q = Q (some (.int (if lt (t (fr + m)) then 1 else 0))) H := fun Q => rq_isLetter (by rw [eH]; exact hR) t2
    rw [eH] at lq
    by_cases g : lt (t (fr + m)) = true
    · rw [if_pos g] at lq
      have es : scw t n (k + 1) (fr + m) = scw t n k (fr + (m + 1)) := by
        show (if _ then _ else _) = _
        rw [if_pos ⟨by omega, g⟩]; rfl
      have s1 : WP (d + 2) mX12_next 99 (nL (some (.int x)) (some (.long (lN (hs t fr (min m 8))))) none (some (.int (nI m)))) [] (s_i h 126 15 (nI (fr + m))) Q = WP (d + 2) mX12_next 125 (nL (some (.int x)) (some (.long (lN (hs t fr (min m 8))))) none (some (.int (nI m)))) [] (s_i h 126 15 (nI (fr + m))) Q := by
        unfold nL
        simp [w_aload_n0 (M := mX12_next) dX12_next_99, w_getI (M := mX12_next) dX12_next_100 f_12_265 rfl (by decide) (by decide), w_aload_n0 (M := mX12_next) dX12_next_103, w_getI (M := mX12_next) dX12_next_104 f_12_268 rfl (by decide) (by decide), w_ic_ge (M := mX12_next) (tgt := 173) dX12_next_107 (by decide), w_aload_n0 (M := mX12_next) dX12_next_110, w_getA (M := mX12_next) dX12_next_111 f_12_16 rfl (by decide) (by decide), w_aload_n0 (M := mX12_next) dX12_next_114, w_getI (M := mX12_next) dX12_next_115 f_12_265 rfl (by decide) (by decide), w_baload (M := mX12_next) dX12_next_118, c_12_277 (M := mX12_next) dX12_next_119 rfl, w_if_eq (M := mX12_next) (tgt := 173) dX12_next_122 (by decide), Kn_v_, Kn_n_, kl_i_, kl_a_, kl_l_, kl_n_, s1_0_, s2_0_, s1_1, s1_2, s1_3, s1_4, s1_5, s1_6, s1_7, s1_8, s1_9, s1_10, s1_11, s1_12, s1_13, s1_14, s2_1, s2_2, s2_3, s2_4, s2_5, s2_6, s2_7, s2_8, s2_9, s2_10, s2_11, s2_12, s2_13, s2_14, List.map_nil, List.map_cons, List.sum_nil, List.sum_cons, ct_i_, ct_r_, ct_l_, t_si_, t_sl_, t_sr_, n_si_, n_sl_, n_sr_, i_si_, i_sl_, i_sr_, l_si_, l_sl_, l_sr_, r_si_, r_sl_, r_sr_, vr_s_, vr_n_, nz_0_, nz_1_, hR.e, e1, c1, c2, x1, x2, t1, lq]
      have s2 : WP (d + 2) mX12_next 125 (nL (some (.int x)) (some (.long (lN (hs t fr (min m 8))))) none (some (.int (nI m)))) [] (s_i h 126 15 (nI (fr + m))) Q = WP (d + 2) mX12_next 157 (nL (some (.int x)) (some (.long (lN (hs t fr (min (m + 1) 8))))) none (some (.int (nI m)))) [] (s_i h 126 15 (nI (fr + m))) Q := by
        by_cases c8 : m < 8
        · have y1 : (nI m < 8) = True := by rw [show (8 : Int32) = nI 8 from rfl]; exact nI_ltT c8 (by omega)
          have y2 : (8 ≤ nI m) = False := by rw [show (8 : Int32) = nI 8 from rfl, nI_cle (by omega) (by omega)]; exact eq_false (by omega)
          have y3 := hs_step (t := t) (i := fr) (m := m) (lt_b g).1
          have y4 := b8_L _ t2 g
          rw [Nat.min_eq_left (show m ≤ 8 by omega), Nat.min_eq_left (show m + 1 ≤ 8 by omega), ← y3]
          unfold nL
          simp [w_iload4 (M := mX12_next) dX12_next_125, w_bipush (M := mX12_next) (v := 8) dX12_next_127 rfl, w_ic_ge (M := mX12_next) (tgt := 155) dX12_next_129 (by decide), w_ldc2 (M := mX12_next) dX12_next_132 j_12_280, w_lload_n2 (M := mX12_next) dX12_next_135, w_lmul (M := mX12_next) dX12_next_136, w_aload_n0 (M := mX12_next) dX12_next_137, w_getA (M := mX12_next) dX12_next_138 f_12_16 rfl (by decide) (by decide), w_aload_n0 (M := mX12_next) dX12_next_141, w_getI (M := mX12_next) dX12_next_142 f_12_265 rfl (by decide) (by decide), w_baload (M := mX12_next) dX12_next_145, w_i2l (M := mX12_next) dX12_next_146, w_ladd (M := mX12_next) dX12_next_147, w_ldc2 (M := mX12_next) dX12_next_148 j_12_280, w_lsub (M := mX12_next) dX12_next_151, w_goto (M := mX12_next) (tgt := 156) dX12_next_152 (by decide), w_lload_n2 (M := mX12_next) dX12_next_155, w_lstore_n (M := mX12_next) (i := 2) dX12_next_156 rfl (by decide), Kn_v_, Kn_n_, kl_i_, kl_a_, kl_l_, kl_n_, s1_0_, s2_0_, s1_1, s1_2, s1_3, s1_4, s1_5, s1_6, s1_7, s1_8, s1_9, s1_10, s1_11, s1_12, s1_13, s1_14, s2_1, s2_2, s2_3, s2_4, s2_5, s2_6, s2_7, s2_8, s2_9, s2_10, s2_11, s2_12, s2_13, s2_14, List.map_nil, List.map_cons, List.sum_nil, List.sum_cons, ct_i_, ct_r_, ct_l_, t_si_, t_sl_, t_sr_, n_si_, n_sl_, n_sr_, i_si_, i_sl_, i_sr_, l_si_, l_sl_, l_sr_, r_si_, r_sl_, r_sr_, vr_s_, vr_n_, nz_0_, nz_1_, hR.e, y1, y2, t1, x1, x2, y4]
        · have y1 : (nI m < 8) = False := by rw [show (8 : Int32) = nI 8 from rfl]; exact nI_ltF (by omega) (by omega)
          have y2 : (8 ≤ nI m) = True := by rw [show (8 : Int32) = nI 8 from rfl, nI_cle (by omega) (by omega)]; exact eq_true (by omega)
          rw [Nat.min_eq_right (show 8 ≤ m by omega), Nat.min_eq_right (show 8 ≤ m + 1 by omega)]
          unfold nL
          simp [w_iload4 (M := mX12_next) dX12_next_125, w_bipush (M := mX12_next) (v := 8) dX12_next_127 rfl, w_ic_ge (M := mX12_next) (tgt := 155) dX12_next_129 (by decide), w_ldc2 (M := mX12_next) dX12_next_132 j_12_280, w_lload_n2 (M := mX12_next) dX12_next_135, w_lmul (M := mX12_next) dX12_next_136, w_aload_n0 (M := mX12_next) dX12_next_137, w_getA (M := mX12_next) dX12_next_138 f_12_16 rfl (by decide) (by decide), w_aload_n0 (M := mX12_next) dX12_next_141, w_getI (M := mX12_next) dX12_next_142 f_12_265 rfl (by decide) (by decide), w_baload (M := mX12_next) dX12_next_145, w_i2l (M := mX12_next) dX12_next_146, w_ladd (M := mX12_next) dX12_next_147, w_ldc2 (M := mX12_next) dX12_next_148 j_12_280, w_lsub (M := mX12_next) dX12_next_151, w_goto (M := mX12_next) (tgt := 156) dX12_next_152 (by decide), w_lload_n2 (M := mX12_next) dX12_next_155, w_lstore_n (M := mX12_next) (i := 2) dX12_next_156 rfl (by decide), Kn_v_, Kn_n_, kl_i_, kl_a_, kl_l_, kl_n_, s1_0_, s2_0_, s1_1, s1_2, s1_3, s1_4, s1_5, s1_6, s1_7, s1_8, s1_9, s1_10, s1_11, s1_12, s1_13, s1_14, s2_1, s2_2, s2_3, s2_4, s2_5, s2_6, s2_7, s2_8, s2_9, s2_10, s2_11, s2_12, s2_13, s2_14, List.map_nil, List.map_cons, List.sum_nil, List.sum_cons, ct_i_, ct_r_, ct_l_, t_si_, t_sl_, t_sr_, n_si_, n_sl_, n_sr_, i_si_, i_sl_, i_sr_, l_si_, l_sl_, l_sr_, r_si_, r_sl_, r_sr_, vr_s_, vr_n_, nz_0_, nz_1_, hR.e, y1, y2]
      have s3 : WP (d + 2) mX12_next 157 (nL (some (.int x)) (some (.long (lN (hs t fr (min (m + 1) 8))))) none (some (.int (nI m)))) [] (s_i h 126 15 (nI (fr + m))) Q = WP (d + 2) mX12_next 99 (nL (some (.int x)) (some (.long (lN (hs t fr (min (m + 1) 8))))) none (some (.int (nI (m + 1))))) [] (s_i h 126 15 (nI (fr + (m + 1)))) Q := by
        unfold nL
        simp [w_iinc4 (M := mX12_next) (v := 1) dX12_next_157 rfl (by decide), w_aload_n0 (M := mX12_next) dX12_next_160, w_dup_int (M := mX12_next) dX12_next_161, w_dup_ref (M := mX12_next) dX12_next_161, w_getI (M := mX12_next) dX12_next_162 f_12_265 rfl (by decide) (by decide), w_iconst (M := mX12_next) (v := 1) dX12_next_165 rfl, w_iadd (M := mX12_next) dX12_next_166, w_putI (M := mX12_next) dX12_next_167 f_12_265 rfl (Or.inl rfl), w_goto (M := mX12_next) (tgt := 99) dX12_next_170 (by decide), Kn_v_, Kn_n_, kl_i_, kl_a_, kl_l_, kl_n_, s1_0_, s2_0_, s1_1, s1_2, s1_3, s1_4, s1_5, s1_6, s1_7, s1_8, s1_9, s1_10, s1_11, s1_12, s1_13, s1_14, s2_1, s2_2, s2_3, s2_4, s2_5, s2_6, s2_7, s2_8, s2_9, s2_10, s2_11, s2_12, s2_13, s2_14, List.map_nil, List.map_cons, List.sum_nil, List.sum_cons, ct_i_, ct_r_, ct_l_, t_si_, t_sl_, t_sr_, n_si_, n_sl_, n_sr_, i_si_, i_sl_, i_sr_, l_si_, l_sl_, l_sr_, r_si_, r_sl_, r_sr_, vr_s_, vr_n_, nz_0_, nz_1_, hR.e, x3, x4, si_same]
      rw [es, s1, s2, s3, ih (m + 1) (by omega) (fun e l => by
        by_cases c : e = m
        · subst c; exact g
        · exact hl e (by omega))]
    · rw [if_neg g] at lq
      have es : scw t n (k + 1) (fr + m) = fr + m := by
        show (if _ then _ else _) = _
        rw [if_neg (fun z => g z.2)]
      rw [es, show fr + m - fr = m by omega]
      unfold nL
      simp [w_aload_n0 (M := mX12_next) dX12_next_99, w_getI (M := mX12_next) dX12_next_100 f_12_265 rfl (by decide) (by decide), w_aload_n0 (M := mX12_next) dX12_next_103, w_getI (M := mX12_next) dX12_next_104 f_12_268 rfl (by decide) (by decide), w_ic_ge (M := mX12_next) (tgt := 173) dX12_next_107 (by decide), w_aload_n0 (M := mX12_next) dX12_next_110, w_getA (M := mX12_next) dX12_next_111 f_12_16 rfl (by decide) (by decide), w_aload_n0 (M := mX12_next) dX12_next_114, w_getI (M := mX12_next) dX12_next_115 f_12_265 rfl (by decide) (by decide), w_baload (M := mX12_next) dX12_next_118, c_12_277 (M := mX12_next) dX12_next_119 rfl, w_if_eq (M := mX12_next) (tgt := 173) dX12_next_122 (by decide), Kn_v_, Kn_n_, kl_i_, kl_a_, kl_l_, kl_n_, s1_0_, s2_0_, s1_1, s1_2, s1_3, s1_4, s1_5, s1_6, s1_7, s1_8, s1_9, s1_10, s1_11, s1_12, s1_13, s1_14, s2_1, s2_2, s2_3, s2_4, s2_5, s2_6, s2_7, s2_8, s2_9, s2_10, s2_11, s2_12, s2_13, s2_14, List.map_nil, List.map_cons, List.sum_nil, List.sum_cons, ct_i_, ct_r_, ct_l_, t_si_, t_sl_, t_sr_, n_si_, n_sl_, n_sr_, i_si_, i_sl_, i_sr_, l_si_, l_sl_, l_sr_, r_si_, r_sl_, r_sr_, vr_s_, vr_n_, nz_0_, nz_1_, hR.e, e1, c1, c2, x1, x2, t1, lq]
/-- behind a number: where, what the other side takes it for -/
def scR (t : Nat → Nat) (n : Nat) : Nat → Nat → Nat → Nat × Nat
  | 0, i, a => (i, a)
  | k + 1, i, a => if i < n ∧ dg (t i) = true then scR t n k (i + 1) (if 99999 < a then a else 10 * a + (t i - 48)) else (i, a)
/-- a number on both sides -/
def nR (v w : Nat) : Prop := (w = v ∧ v ≤ 9999) ∨ (v = 10000 ∧ 9999 < w ∧ w < 2000000)
theorem scR_scn : ∀ (k i v w : Nat), nR v w → (scR t n k i w).1 = (scn t n k i v).1 ∧ nR (scn t n k i v).2 (scR t n k i w).2 := by
  intro k
  induction k with
  | zero => intro i v w r; exact ⟨rfl, r⟩
  | succ k ih =>
    intro i v w r
    by_cases g : i < n ∧ dg (t i) = true
    · have e1 : scR t n (k + 1) i w = scR t n k (i + 1) (if 99999 < w then w else 10 * w + (t i - 48)) := by
        show (if _ then _ else _) = _
        rw [if_pos g]
      have e2 : scn t n (k + 1) i v = scn t n k (i + 1) (min 10000 (v * 10 + (t i - 48))) := by
        show (if _ then _ else _) = _
        rw [if_pos g]
      rw [e1, e2]
      refine ih _ _ _ ?_
      have g2 := g.2
      unfold dg at g2
      rw [decide_eq_true_eq] at g2
      unfold nR at r ⊢
      split <;> omega
    · have e1 : scR t n (k + 1) i w = (i, w) := by
        show (if _ then _ else _) = _
        rw [if_neg g]
      have e2 : scn t n (k + 1) i v = (i, v) := by
        show (if _ then _ else _) = _
        rw [if_neg g]
      rw [e1, e2]
      exact ⟨rfl, r⟩
def hN (h : am_h) (i a : Nat) : am_h := s_i (s_i h 126 18 (nI a)) 126 15 (nI i)
theorem hN_s {i a i2 a2 : Nat} : s_i (s_i (hN h i a) 126 18 (nI a2)) 126 15 (nI i2) = hN h i2 a2 := by
  unfold hN
  rw [si_sk (k := 15) (l := 18) (by omega), si_same, si_same]
theorem ndg (T : tpR h t n) (L : am_L) (hL : ∃ a b c e, L = nL a b c e) : ∀ (k i a : Nat), i + k = n → a < 2000000 → WP (d + 1) mX12_next 232 L [] (hN h i a) Q = Q none (hN h (scR t n k i a).1 (scR t n k i a).2) := by
  obtain ⟨hR, e1, hn, ht⟩ := T
  obtain ⟨l1, l2, l3, l4, rfl⟩ := hL
  intro k
  induction k with
  | zero =>
    intro i a e ha
    have c1 : (nI i < nI n) = False := nI_ltF (by omega) (by omega)
    have c2 : (nI n ≤ nI i) = True := by rw [nI_cle (by omega) (by omega)]; exact eq_true (by omega)
    show _ = Q none (hN h i a)
    unfold nL hN
    simp [w_aload_n0 (M := mX12_next) dX12_next_232, w_getI (M := mX12_next) dX12_next_233 f_12_265 rfl (by decide) (by decide), w_aload_n0 (M := mX12_next) dX12_next_236, w_getI (M := mX12_next) dX12_next_237 f_12_268 rfl (by decide) (by decide), w_ic_ge (M := mX12_next) (tgt := 440) dX12_next_240 (by decide), w_vret (M := mX12_next) dX12_next_440 rfl, Kn_v_, Kn_n_, kl_i_, kl_a_, kl_l_, kl_n_, s1_0_, s2_0_, s1_1, s1_2, s1_3, s1_4, s1_5, s1_6, s1_7, s1_8, s1_9, s1_10, s1_11, s1_12, s1_13, s1_14, s2_1, s2_2, s2_3, s2_4, s2_5, s2_6, s2_7, s2_8, s2_9, s2_10, s2_11, s2_12, s2_13, s2_14, List.map_nil, List.map_cons, List.sum_nil, List.sum_cons, ct_i_, ct_r_, ct_l_, t_si_, t_sl_, t_sr_, n_si_, n_sl_, n_sr_, i_si_, i_sl_, i_sr_, l_si_, l_sl_, l_sr_, r_si_, r_sl_, r_sr_, vr_s_, vr_n_, nz_0_, nz_1_, hR.e, e1, c1, c2]
  | succ k ih =>
    intro i a e ha
    obtain ⟨t1, t2⟩ := ht i (by omega)
    have c1 : (nI i < nI n) = True := nI_ltT (by omega) (by omega)
    have c2 : (nI n ≤ nI i) = False := by rw [nI_cle (by omega) (by omega)]; exact eq_false (by omega)
    have x1 : am_in1 (nI i) 300 = True := by rw [in1_n (by omega)]; exact eq_true (by omega)
    have x2 := nI_c (a := i) (by omega)
    have x3 : nI i + 1 = nI (i + 1) := nI_a (b := 1)
    have dq := (b8_l _ t2).2
    by_cases g : dg (t i) = true
    · rw [g] at dq
      have g2 := g
      unfold dg at g2
      rw [decide_eq_true_eq] at g2
      have es : scR t n (k + 1) i a = scR t n k (i + 1) (if 99999 < a then a else 10 * a + (t i - 48)) := by
        show (if _ then _ else _) = _
        rw [if_pos ⟨by omega, g⟩]
      have b := b8_a _ t2 (Or.inr (Or.inl g))
      have s1 : WP (d + 1) mX12_next 232 (nL l1 l2 l3 l4) [] (hN h i a) Q = WP (d + 1) mX12_next 303 (nL l1 l2 l3 l4) [] (s_i (hN h i a) 126 18 (nI (if 99999 < a then a else 10 * a + (t i - 48)))) Q := by
        by_cases z : 99999 < a
        · have y1 : (nI a ≤ 99999) = False := by rw [show (99999 : Int32) = nI 99999 from rfl, nI_lE (by omega) (by omega)]; exact eq_false (by omega)
          have y2 : (99999 < nI a) = True := by rw [show (99999 : Int32) = nI 99999 from rfl]; exact nI_ltT z (by omega)
          rw [if_pos z]
          unfold nL hN
          simp [w_aload_n0 (M := mX12_next) dX12_next_232, w_getI (M := mX12_next) dX12_next_233 f_12_265 rfl (by decide) (by decide), w_aload_n0 (M := mX12_next) dX12_next_236, w_getI (M := mX12_next) dX12_next_237 f_12_268 rfl (by decide) (by decide), w_ic_ge (M := mX12_next) (tgt := 440) dX12_next_240 (by decide), w_aload_n0 (M := mX12_next) dX12_next_243, w_getA (M := mX12_next) dX12_next_244 f_12_16 rfl (by decide) (by decide), w_aload_n0 (M := mX12_next) dX12_next_247, w_getI (M := mX12_next) dX12_next_248 f_12_265 rfl (by decide) (by decide), w_baload (M := mX12_next) dX12_next_251, w_bipush (M := mX12_next) (v := 48) dX12_next_252 rfl, w_bipush (M := mX12_next) (v := 57) dX12_next_254 rfl, c_12_173 (M := mX12_next) dX12_next_256 rfl, w_if_eq (M := mX12_next) (tgt := 440) dX12_next_259 (by decide), w_aload_n0 (M := mX12_next) dX12_next_262, w_aload_n0 (M := mX12_next) dX12_next_263, w_getI (M := mX12_next) dX12_next_264 f_12_286 rfl (by decide) (by decide), w_ldcw (M := mX12_next) dX12_next_267 k_12_289, w_ic_le (M := mX12_next) (tgt := 280) dX12_next_270 (by decide), w_aload_n0 (M := mX12_next) dX12_next_273, w_getI (M := mX12_next) dX12_next_274 f_12_286 rfl (by decide) (by decide), w_goto (M := mX12_next) (tgt := 300) dX12_next_277 (by decide), w_bipush (M := mX12_next) (v := 10) dX12_next_280 rfl, w_aload_n0 (M := mX12_next) dX12_next_282, w_getI (M := mX12_next) dX12_next_283 f_12_286 rfl (by decide) (by decide), w_imul (M := mX12_next) dX12_next_286, w_aload_n0 (M := mX12_next) dX12_next_287, w_getA (M := mX12_next) dX12_next_288 f_12_16 rfl (by decide) (by decide), w_aload_n0 (M := mX12_next) dX12_next_291, w_getI (M := mX12_next) dX12_next_292 f_12_265 rfl (by decide) (by decide), w_baload (M := mX12_next) dX12_next_295, w_iadd (M := mX12_next) dX12_next_296, w_bipush (M := mX12_next) (v := 48) dX12_next_297 rfl, w_isub (M := mX12_next) dX12_next_299, w_putI (M := mX12_next) dX12_next_300 f_12_286 rfl (Or.inl rfl), Kn_v_, Kn_n_, kl_i_, kl_a_, kl_l_, kl_n_, s1_0_, s2_0_, s1_1, s1_2, s1_3, s1_4, s1_5, s1_6, s1_7, s1_8, s1_9, s1_10, s1_11, s1_12, s1_13, s1_14, s2_1, s2_2, s2_3, s2_4, s2_5, s2_6, s2_7, s2_8, s2_9, s2_10, s2_11, s2_12, s2_13, s2_14, List.map_nil, List.map_cons, List.sum_nil, List.sum_cons, ct_i_, ct_r_, ct_l_, t_si_, t_sl_, t_sr_, n_si_, n_sl_, n_sr_, i_si_, i_sl_, i_sr_, l_si_, l_sl_, l_sr_, r_si_, r_sl_, r_sr_, vr_s_, vr_n_, nz_0_, nz_1_, q_X12_in, hR.e, e1, c1, c2, x1, x2, t1, dq, y1, y2, bI_t]
        · have y1 : (nI a ≤ 99999) = True := by rw [show (99999 : Int32) = nI 99999 from rfl, nI_lE (by omega) (by omega)]; exact eq_true (by omega)
          have y2 : (99999 < nI a) = False := by rw [show (99999 : Int32) = nI 99999 from rfl]; exact nI_ltF (by omega) (by omega)
          have m1 : 10 * nI a + nI (t i) - 48 = nI (10 * a + (t i - 48)) := by
            rw [show (10 : Int32) = nI 10 from rfl, show (48 : Int32) = nI 48 from rfl, nI_m, nI_a, nI_sb (by omega)]
            exact congrArg nI (by omega)
          rw [if_neg z, ← m1, ← b]
          unfold nL hN
          simp [w_aload_n0 (M := mX12_next) dX12_next_232, w_getI (M := mX12_next) dX12_next_233 f_12_265 rfl (by decide) (by decide), w_aload_n0 (M := mX12_next) dX12_next_236, w_getI (M := mX12_next) dX12_next_237 f_12_268 rfl (by decide) (by decide), w_ic_ge (M := mX12_next) (tgt := 440) dX12_next_240 (by decide), w_aload_n0 (M := mX12_next) dX12_next_243, w_getA (M := mX12_next) dX12_next_244 f_12_16 rfl (by decide) (by decide), w_aload_n0 (M := mX12_next) dX12_next_247, w_getI (M := mX12_next) dX12_next_248 f_12_265 rfl (by decide) (by decide), w_baload (M := mX12_next) dX12_next_251, w_bipush (M := mX12_next) (v := 48) dX12_next_252 rfl, w_bipush (M := mX12_next) (v := 57) dX12_next_254 rfl, c_12_173 (M := mX12_next) dX12_next_256 rfl, w_if_eq (M := mX12_next) (tgt := 440) dX12_next_259 (by decide), w_aload_n0 (M := mX12_next) dX12_next_262, w_aload_n0 (M := mX12_next) dX12_next_263, w_getI (M := mX12_next) dX12_next_264 f_12_286 rfl (by decide) (by decide), w_ldcw (M := mX12_next) dX12_next_267 k_12_289, w_ic_le (M := mX12_next) (tgt := 280) dX12_next_270 (by decide), w_aload_n0 (M := mX12_next) dX12_next_273, w_getI (M := mX12_next) dX12_next_274 f_12_286 rfl (by decide) (by decide), w_goto (M := mX12_next) (tgt := 300) dX12_next_277 (by decide), w_bipush (M := mX12_next) (v := 10) dX12_next_280 rfl, w_aload_n0 (M := mX12_next) dX12_next_282, w_getI (M := mX12_next) dX12_next_283 f_12_286 rfl (by decide) (by decide), w_imul (M := mX12_next) dX12_next_286, w_aload_n0 (M := mX12_next) dX12_next_287, w_getA (M := mX12_next) dX12_next_288 f_12_16 rfl (by decide) (by decide), w_aload_n0 (M := mX12_next) dX12_next_291, w_getI (M := mX12_next) dX12_next_292 f_12_265 rfl (by decide) (by decide), w_baload (M := mX12_next) dX12_next_295, w_iadd (M := mX12_next) dX12_next_296, w_bipush (M := mX12_next) (v := 48) dX12_next_297 rfl, w_isub (M := mX12_next) dX12_next_299, w_putI (M := mX12_next) dX12_next_300 f_12_286 rfl (Or.inl rfl), Kn_v_, Kn_n_, kl_i_, kl_a_, kl_l_, kl_n_, s1_0_, s2_0_, s1_1, s1_2, s1_3, s1_4, s1_5, s1_6, s1_7, s1_8, s1_9, s1_10, s1_11, s1_12, s1_13, s1_14, s2_1, s2_2, s2_3, s2_4, s2_5, s2_6, s2_7, s2_8, s2_9, s2_10, s2_11, s2_12, s2_13, s2_14, List.map_nil, List.map_cons, List.sum_nil, List.sum_cons, ct_i_, ct_r_, ct_l_, t_si_, t_sl_, t_sr_, n_si_, n_sl_, n_sr_, i_si_, i_sl_, i_sr_, l_si_, l_sl_, l_sr_, r_si_, r_sl_, r_sr_, vr_s_, vr_n_, nz_0_, nz_1_, q_X12_in, hR.e, e1, c1, c2, x1, x2, t1, dq, y1, y2, bI_t]
      have s2 : WP (d + 1) mX12_next 303 (nL l1 l2 l3 l4) [] (s_i (hN h i a) 126 18 (nI (if 99999 < a then a else 10 * a + (t i - 48)))) Q = WP (d + 1) mX12_next 232 (nL l1 l2 l3 l4) [] (hN h (i + 1) (if 99999 < a then a else 10 * a + (t i - 48))) Q := by
        rw [← hN_s (h := h) (i := i) (a := a) (i2 := i + 1)]
        unfold nL hN
        simp [w_aload_n0 (M := mX12_next) dX12_next_303, w_dup_int (M := mX12_next) dX12_next_304, w_dup_ref (M := mX12_next) dX12_next_304, w_getI (M := mX12_next) dX12_next_305 f_12_265 rfl (by decide) (by decide), w_iconst (M := mX12_next) (v := 1) dX12_next_308 rfl, w_iadd (M := mX12_next) dX12_next_309, w_putI (M := mX12_next) dX12_next_310 f_12_265 rfl (Or.inl rfl), w_goto (M := mX12_next) (tgt := 232) dX12_next_313 (by decide), Kn_v_, Kn_n_, kl_i_, kl_a_, kl_l_, kl_n_, s1_0_, s2_0_, s1_1, s1_2, s1_3, s1_4, s1_5, s1_6, s1_7, s1_8, s1_9, s1_10, s1_11, s1_12, s1_13, s1_14, s2_1, s2_2, s2_3, s2_4, s2_5, s2_6, s2_7, s2_8, s2_9, s2_10, s2_11, s2_12, s2_13, s2_14, List.map_nil, List.map_cons, List.sum_nil, List.sum_cons, ct_i_, ct_r_, ct_l_, t_si_, t_sl_, t_sr_, n_si_, n_sl_, n_sr_, i_si_, i_sl_, i_sr_, l_si_, l_sl_, l_sr_, r_si_, r_sl_, r_sr_, vr_s_, vr_n_, nz_0_, nz_1_, hR.e, x3]
      rw [es, s1, s2, ih (i + 1) _ (by omega) (by split <;> omega)]
    · rw [eq_false_of_ne_true g] at dq
      have es : scR t n (k + 1) i a = (i, a) := by
        show (if _ then _ else _) = _
        rw [if_neg (fun z => g z.2)]
      rw [es]
      unfold nL hN
      simp [w_aload_n0 (M := mX12_next) dX12_next_232, w_getI (M := mX12_next) dX12_next_233 f_12_265 rfl (by decide) (by decide), w_aload_n0 (M := mX12_next) dX12_next_236, w_getI (M := mX12_next) dX12_next_237 f_12_268 rfl (by decide) (by decide), w_ic_ge (M := mX12_next) (tgt := 440) dX12_next_240 (by decide), w_aload_n0 (M := mX12_next) dX12_next_243, w_getA (M := mX12_next) dX12_next_244 f_12_16 rfl (by decide) (by decide), w_aload_n0 (M := mX12_next) dX12_next_247, w_getI (M := mX12_next) dX12_next_248 f_12_265 rfl (by decide) (by decide), w_baload (M := mX12_next) dX12_next_251, w_bipush (M := mX12_next) (v := 48) dX12_next_252 rfl, w_bipush (M := mX12_next) (v := 57) dX12_next_254 rfl, c_12_173 (M := mX12_next) dX12_next_256 rfl, w_if_eq (M := mX12_next) (tgt := 440) dX12_next_259 (by decide), w_vret (M := mX12_next) dX12_next_440 rfl, Kn_v_, Kn_n_, kl_i_, kl_a_, kl_l_, kl_n_, s1_0_, s2_0_, s1_1, s1_2, s1_3, s1_4, s1_5, s1_6, s1_7, s1_8, s1_9, s1_10, s1_11, s1_12, s1_13, s1_14, s2_1, s2_2, s2_3, s2_4, s2_5, s2_6, s2_7, s2_8, s2_9, s2_10, s2_11, s2_12, s2_13, s2_14, List.map_nil, List.map_cons, List.sum_nil, List.sum_cons, ct_i_, ct_r_, ct_l_, t_si_, t_sl_, t_sr_, n_si_, n_sl_, n_sr_, i_si_, i_sl_, i_sr_, l_si_, l_sl_, l_sr_, r_si_, r_sl_, r_sr_, vr_s_, vr_n_, nz_0_, nz_1_, q_X12_in, hR.e, e1, c1, c2, x1, x2, t1, dq, bI_f]
end RNEXT
