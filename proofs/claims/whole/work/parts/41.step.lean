/-! a new line, the row of a step, a step kept -/
section STEP
theorem nw_n {h : am_h} {t z : Nat} : a_n (s_nw h t z) = a_n h + 1 := Eq.trans rfl rfl
theorem nw_z {h : am_h} {t z : Nat} : a_z (s_nw h t z) = a_z h + z := Eq.trans rfl rfl
theorem nwt0 {h : am_h} {t z q : Nat} (e : ¬ q = a_n h) : a_t (s_nw h t z) q = a_t h q := if_neg e
theorem nwt1 {h : am_h} {t z q : Nat} (e : q = a_n h) : a_t (s_nw h t z) q = (t, z) := if_pos e
theorem nwi0 {h : am_h} {t z q j : Nat} (e : ¬ q = a_n h) : a_i (s_nw h t z) q j = a_i h q j := if_neg e
theorem nwi1 {h : am_h} {t z q j : Nat} (e : q = a_n h) : a_i (s_nw h t z) q j = 0 := if_pos e
theorem nwl0 {h : am_h} {t z q j : Nat} (e : ¬ q = a_n h) : a_l (s_nw h t z) q j = a_l h q j := if_neg e
theorem nwr0 {h : am_h} {t z q j : Nat} (e : ¬ q = a_n h) : a_r (s_nw h t z) q j = a_r h q j := if_neg e
theorem nwr1 {h : am_h} {t z q j : Nat} (e : q = a_n h) : a_r (s_nw h t z) q j = none := if_pos e
theorem rne {h : am_h} {p k : Nat} {v : Option Nat} {q j : Nat} (e : ¬ (q = p ∧ j = k)) : a_r (s_r h p k v) q j = a_r h q j := if_neg e
theorem req {h : am_h} {p k : Nat} {v : Option Nat} {q j : Nat} (e : q = p) (f : j = k) : a_r (s_r h p k v) q j = v := if_pos ⟨e, f⟩
theorem z_sr_ (h : am_h) (p k : Nat) (v : Option Nat) : a_z (s_r h p k v) = a_z h := Eq.trans rfl rfl
theorem z_si_ (h : am_h) (p k : Nat) (v : Int32) : a_z (s_i h p k v) = a_z h := Eq.trans rfl rfl
variable {d : Nat} {h : am_h}
/-- a line under way: i of its ends stand -/
def lnW (h : am_h) (p i : Nat) (s : am_h) : Prop :=
  a_n s = p + 5 + i ∧ a_z s = a_z h + 52 + 14 * i
  ∧ (a_t s p = (5, 9) ∧ a_t s (p + 1) = (20, 16) ∧ a_t s (p + 2) = (20, 16) ∧ a_t s (p + 3) = (20, 16) ∧ a_t s (p + 4) = (23, 4) ∧ a_r s p 5 = some (p + 1) ∧ a_r s p 6 = some (p + 2) ∧ a_r s p 7 = some (p + 3) ∧ a_r s p 8 = some (p + 4))
  ∧ (∀ e, e < i → a_t s (p + 5 + e) = (3, 14) ∧ a_r s (p + 4) e = some (p + 5 + e) ∧ a_i s (p + 5 + e) 0 = 0)
  ∧ ∀ q, ¬ (p ≤ q ∧ q < p + 9) → a_t s q = a_t h q ∧ ∀ j, a_i s q j = a_i h q j ∧ a_l s q j = a_l h q j ∧ a_r s q j = a_r h q j
theorem mkA {s s' : am_h} {t z m p k : Nat} (e : s' = s_r (s_nw s t z) p k (some m)) (hn : a_n s = m) (hp : p < m) : a_n s' = m + 1 ∧ a_z s' = a_z s + z ∧ a_t s' m = (t, z) ∧ a_r s' p k = some m ∧ (∀ q, ¬ q = m → a_t s' q = a_t s q) ∧ (∀ q j, ¬ q = m → a_i s' q j = a_i s q j ∧ a_l s' q j = a_l s q j) ∧ ∀ q j, ¬ q = m → ¬ (q = p ∧ j = k) → a_r s' q j = a_r s q j := by
  subst e
  refine ⟨?_, ?_, ?_, req rfl rfl, fun q c => ?_, fun q j c => ⟨?_, ?_⟩, fun q j c1 c2 => ?_⟩
  · rw [n_sr_, nw_n, hn]
  · rw [z_sr_, nw_z]
  · rw [t_sr_, nwt1 hn.symm]
  · rw [t_sr_, nwt0 (by omega)]
  · rw [i_sr_, nwi0 (by omega)]
  · rw [l_sr_, nwl0 (by omega)]
  · rw [rne c2, nwr0 (by omega)]
set_option maxRecDepth 20000 in
set_option maxHeartbeats 4000000 in
theorem q_X5_init {p : Nat} (hp : a_t h p = (5, 9)) (hn : a_n h = p + 1) (hm : p < 800000) : ∃ h', (∀ Q, Cal (d + 1) mX5_init [.ref p] h Q = Q none h') ∧ lnW h p 4 h' := by
  obtain ⟨h1, a1, b1⟩ : ∃ h1, (∀ Q, Cal (d + 1) mX5_init [.ref p] h Q = WP (d + 1) mX5_init 44 [some (.ref p), some (.int (nI 0))] [] h1 Q) ∧ lnW h p 0 h1 := by
    obtain ⟨A, eA⟩ : ∃ A, A = s_i h p 2 13 := ⟨_, rfl⟩
    have nA : a_n A = p + 1 := by rw [eA]; exact hn
    have tA : a_t A = a_t h := by rw [eA]; rfl
    obtain ⟨B, eB⟩ : ∃ B, B = s_r (s_nw A 20 16) p 5 (some (p + 1)) := ⟨_, rfl⟩
    obtain ⟨b1, b2, b3, b4, b5, b6, b7⟩ := mkA eB nA (by omega)
    obtain ⟨C, eC⟩ : ∃ C, C = s_r (s_nw B 20 16) p 6 (some (p + 2)) := ⟨_, rfl⟩
    obtain ⟨c1, c2, c3, c4, c5, c6, c7⟩ := mkA eC b1 (by omega)
    obtain ⟨D, eD⟩ : ∃ D, D = s_r (s_nw C 20 16) p 7 (some (p + 3)) := ⟨_, rfl⟩
    obtain ⟨d1, d2, d3, d4, d5, d6, d7⟩ := mkA eD c1 (by omega)
    obtain ⟨E, eE⟩ : ∃ E, E = s_r (s_nw D 23 4) p 8 (some (p + 4)) := ⟨_, rfl⟩
    obtain ⟨f1, f2, f3, f4, f5, f6, f7⟩ := mkA eE d1 (by omega)
    have tp : ∀ q, ¬ (p < q ∧ q < p + 5) → a_t E q = a_t h q := fun q c => by rw [f5 q (by omega), d5 q (by omega), c5 q (by omega), b5 q (by omega), tA]
    refine ⟨E, fun Q => ?_, f1, ?_, ⟨?_, ?_, ?_, ?_, ?_, ?_, ?_, ?_, ?_⟩, fun e he => absurd he (by omega), fun q hq => ⟨tp q (by omega), fun j => ⟨?_, ?_, ?_⟩⟩⟩
    · unfold Cal
      rw [l_X5_init]
      simp only [am_en, am_ag, ct_i, ct_r, ct_l, List.length_cons, List.length_nil, List.replicate]
      have t1 : a_t (s_nw A 20 16) p = (5, 9) := by rw [nwt0 (by omega), tA]; exact hp
      have t2 : a_t (s_nw B 20 16) p = (5, 9) := by rw [nwt0 (by omega), b5 p (by omega), tA]; exact hp
      have t3 : a_t (s_nw C 20 16) p = (5, 9) := by rw [nwt0 (by omega), c5 p (by omega), b5 p (by omega), tA]; exact hp
      have t4 : a_t (s_nw D 23 4) p = (5, 9) := by rw [nwt0 (by omega), d5 p (by omega), c5 p (by omega), b5 p (by omega), tA]; exact hp
      simp [w_aload_n0 (M := mX5_init) dX5_init_0, w_oi (M := mX5_init) dX5_init_1 lk_5_3, w_aload_n0 (M := mX5_init) dX5_init_4, w_bipush (M := mX5_init) (v := 13) dX5_init_5 rfl, w_putI (M := mX5_init) dX5_init_7 f_5_9 rfl (Or.inl rfl), w_aload_n0 (M := mX5_init) dX5_init_10, w_bipush (M := mX5_init) (v := 16) dX5_init_11 rfl, w_newa (M := mX5_init) (t := 20) dX5_init_13 rfl, w_putA (M := mX5_init) dX5_init_15 f_5_15 rfl (Or.inr ⟨rfl, rfl⟩), w_aload_n0 (M := mX5_init) dX5_init_18, w_bipush (M := mX5_init) (v := 16) dX5_init_19 rfl, w_newa (M := mX5_init) (t := 20) dX5_init_21 rfl, w_putA (M := mX5_init) dX5_init_23 f_5_19 rfl (Or.inr ⟨rfl, rfl⟩), w_aload_n0 (M := mX5_init) dX5_init_26, w_bipush (M := mX5_init) (v := 16) dX5_init_27 rfl, w_newa (M := mX5_init) (t := 20) dX5_init_29 rfl, w_putA (M := mX5_init) dX5_init_31 f_5_22 rfl (Or.inr ⟨rfl, rfl⟩), w_aload_n0 (M := mX5_init) dX5_init_34, w_iconst (M := mX5_init) (v := 4) dX5_init_35 rfl, w_anew (M := mX5_init) dX5_init_36 cl_5_25 (by decide), w_putA (M := mX5_init) dX5_init_39 f_5_27 rfl (Or.inr ⟨rfl, rfl⟩), w_iconst (M := mX5_init) (v := 0) dX5_init_42 rfl, w_istore_n (M := mX5_init) (i := 1) dX5_init_43 rfl (by decide), w_iconst (M := mX5_init) (v := 4) dX5_init_45 rfl, w_ic_ge (M := mX5_init) (tgt := 68) dX5_init_46 (by decide), w_aload_n0 (M := mX5_init) dX5_init_49, w_getA (M := mX5_init) dX5_init_50 f_5_27 rfl (by decide) (by decide), w_iload_n1 (M := mX5_init) dX5_init_53, w_new (M := mX5_init) dX5_init_54 cl_5_25 (by decide), w_dup_int (M := mX5_init) dX5_init_57, w_dup_ref (M := mX5_init) dX5_init_57, c_5_31 (M := mX5_init) dX5_init_58 rfl, w_aastore (M := mX5_init) dX5_init_61, w_iinc1 (M := mX5_init) (v := 1) dX5_init_62 rfl (by decide), w_goto (M := mX5_init) (tgt := 44) dX5_init_65 (by decide), w_vret (M := mX5_init) dX5_init_68 rfl, Kn_v_, Kn_n_, kl_i_, kl_a_, kl_l_, kl_n_, s1_0_, s2_0_, s1_1, s1_2, s1_3, s1_4, s1_5, s1_6, s1_7, s1_8, s1_9, s1_10, s1_11, s1_12, s1_13, s1_14, s2_1, s2_2, s2_3, s2_4, s2_5, s2_6, s2_7, s2_8, s2_9, s2_10, s2_11, s2_12, s2_13, s2_14, List.map_nil, List.map_cons, List.sum_nil, List.sum_cons, ct_i_, ct_r_, ct_l_, t_si_, t_sl_, t_sr_, n_si_, n_sl_, n_sr_, i_si_, i_sl_, i_sr_, l_si_, l_sl_, l_sr_, r_si_, r_sl_, r_sr_, vr_s_, vr_n_, nz_0_, nz_1_, hp, ← eA, nA, t1, ← eB, b1, t2, ← eC, c1, t3, ← eD, d1, t4, ← eE, am_MX, show (16 : Int32).toNatClampNeg = 16 from rfl, show (4 : Int32).toNatClampNeg = 4 from rfl, show ¬ (16 : Int32) < 0 from by decide, show ¬ (4 : Int32) < 0 from by decide, am_ak, show p + 1 < 900000 by omega, show p + 2 < 900000 by omega, show p + 3 < 900000 by omega, show p + 4 < 900000 by omega]
      exact Iff.rfl
    · rw [f2, d2, c2, b2, eA]
      show a_z h + 16 + 16 + 16 + 4 = _
      omega
    · rw [tp p (by omega)]; exact hp
    · rw [f5 _ (by omega), d5 _ (by omega), c5 _ (by omega)]; exact b3
    · rw [f5 _ (by omega), d5 _ (by omega)]; exact c3
    · rw [f5 _ (by omega)]; exact d3
    · exact f3
    · rw [f7 _ _ (by omega) (by omega), d7 _ _ (by omega) (by omega), c7 _ _ (by omega) (by omega)]; exact b4
    · rw [f7 _ _ (by omega) (by omega), d7 _ _ (by omega) (by omega)]; exact c4
    · rw [f7 _ _ (by omega) (by omega)]; exact d4
    · exact f4
    · rw [(f6 q j (by omega)).1, (d6 q j (by omega)).1, (c6 q j (by omega)).1, (b6 q j (by omega)).1, eA, ine (by omega)]
    · rw [(f6 q j (by omega)).2, (d6 q j (by omega)).2, (c6 q j (by omega)).2, (b6 q j (by omega)).2, eA]
      rfl
    · rw [f7 _ _ (by omega) (by omega), d7 _ _ (by omega) (by omega), c7 _ _ (by omega) (by omega), b7 _ _ (by omega) (by omega), eA]
      rfl
  have key := lp (n := 4) (W := fun i (s : am_h) Q => WP (d + 1) mX5_init 44 [some (.ref p), some (.int (nI i))] [] s Q) (P := fun i (s : am_h) => lnW h p i s) (fun i s hi hs => ?_) 4 0 h1 (by omega) b1
  · obtain ⟨h2, a2, b2⟩ := key
    refine ⟨h2, fun Q => (a1 Q).trans ((a2 Q).trans ?_), b2⟩
    rw [w_iload_n1 (M := mX5_init) dX5_init_44]
    simp [w_aload_n0 (M := mX5_init) dX5_init_0, w_oi (M := mX5_init) dX5_init_1 lk_5_3, w_aload_n0 (M := mX5_init) dX5_init_4, w_bipush (M := mX5_init) (v := 13) dX5_init_5 rfl, w_putI (M := mX5_init) dX5_init_7 f_5_9 rfl (Or.inl rfl), w_aload_n0 (M := mX5_init) dX5_init_10, w_bipush (M := mX5_init) (v := 16) dX5_init_11 rfl, w_newa (M := mX5_init) (t := 20) dX5_init_13 rfl, w_putA (M := mX5_init) dX5_init_15 f_5_15 rfl (Or.inr ⟨rfl, rfl⟩), w_aload_n0 (M := mX5_init) dX5_init_18, w_bipush (M := mX5_init) (v := 16) dX5_init_19 rfl, w_newa (M := mX5_init) (t := 20) dX5_init_21 rfl, w_putA (M := mX5_init) dX5_init_23 f_5_19 rfl (Or.inr ⟨rfl, rfl⟩), w_aload_n0 (M := mX5_init) dX5_init_26, w_bipush (M := mX5_init) (v := 16) dX5_init_27 rfl, w_newa (M := mX5_init) (t := 20) dX5_init_29 rfl, w_putA (M := mX5_init) dX5_init_31 f_5_22 rfl (Or.inr ⟨rfl, rfl⟩), w_aload_n0 (M := mX5_init) dX5_init_34, w_iconst (M := mX5_init) (v := 4) dX5_init_35 rfl, w_anew (M := mX5_init) dX5_init_36 cl_5_25 (by decide), w_putA (M := mX5_init) dX5_init_39 f_5_27 rfl (Or.inr ⟨rfl, rfl⟩), w_iconst (M := mX5_init) (v := 0) dX5_init_42 rfl, w_istore_n (M := mX5_init) (i := 1) dX5_init_43 rfl (by decide), w_iconst (M := mX5_init) (v := 4) dX5_init_45 rfl, w_ic_ge (M := mX5_init) (tgt := 68) dX5_init_46 (by decide), w_aload_n0 (M := mX5_init) dX5_init_49, w_getA (M := mX5_init) dX5_init_50 f_5_27 rfl (by decide) (by decide), w_iload_n1 (M := mX5_init) dX5_init_53, w_new (M := mX5_init) dX5_init_54 cl_5_25 (by decide), w_dup_int (M := mX5_init) dX5_init_57, w_dup_ref (M := mX5_init) dX5_init_57, c_5_31 (M := mX5_init) dX5_init_58 rfl, w_aastore (M := mX5_init) dX5_init_61, w_iinc1 (M := mX5_init) (v := 1) dX5_init_62 rfl (by decide), w_goto (M := mX5_init) (tgt := 44) dX5_init_65 (by decide), w_vret (M := mX5_init) dX5_init_68 rfl, Kn_v_, Kn_n_, kl_i_, kl_a_, kl_l_, kl_n_, s1_0_, s2_0_, s1_1, s1_2, s1_3, s1_4, s1_5, s1_6, s1_7, s1_8, s1_9, s1_10, s1_11, s1_12, s1_13, s1_14, s2_1, s2_2, s2_3, s2_4, s2_5, s2_6, s2_7, s2_8, s2_9, s2_10, s2_11, s2_12, s2_13, s2_14, List.map_nil, List.map_cons, List.sum_nil, List.sum_cons, ct_i_, ct_r_, ct_l_, t_si_, t_sl_, t_sr_, n_si_, n_sl_, n_sr_, i_si_, i_sl_, i_sr_, l_si_, l_sl_, l_sr_, r_si_, r_sl_, r_sr_, vr_s_, vr_n_, nz_0_, nz_1_, show (nI 4 < 4) = False from nI_ltF (b := 4) (Nat.le_refl 4) (by omega)]
  · obtain ⟨s1, s2, ⟨s3, s4, s5, s6, s7, s8, s9, s10, s11⟩, s12, s13⟩ := hs
    refine ⟨s_r (s_i (s_i (s_i (s_i (s_nw s 3 14) (p + 5 + i) 5 (-1)) (p + 5 + i) 6 (-1)) (p + 5 + i) 7 (-1)) (p + 5 + i) 12 (-1)) (p + 4) i (some (p + 5 + i)), fun Q => ?_, ?_⟩
    · have c0 : ∀ Q, Cal d mX3_init [.ref (p + 5 + i)] (s_nw s 3 14) Q = Q none (s_i (s_i (s_i (s_i (s_nw s 3 14) (p + 5 + i) 5 (-1)) (p + 5 + i) 6 (-1)) (p + 5 + i) 7 (-1)) (p + 5 + i) 12 (-1)) := by
        intro Q
        rw [q_X3_init, nwt1 (by omega)]
        simp
      have tt : a_t (s_nw s 3 14) (p + 5 + i) = (3, 14) := nwt1 (by omega)
      have tu : a_t (s_nw s 3 14) (p + 4) = (23, 4) := by rw [nwt0 (by omega)]; exact s7
      rw [w_iload_n1 (M := mX5_init) dX5_init_44]
      simp [w_aload_n0 (M := mX5_init) dX5_init_0, w_oi (M := mX5_init) dX5_init_1 lk_5_3, w_aload_n0 (M := mX5_init) dX5_init_4, w_bipush (M := mX5_init) (v := 13) dX5_init_5 rfl, w_putI (M := mX5_init) dX5_init_7 f_5_9 rfl (Or.inl rfl), w_aload_n0 (M := mX5_init) dX5_init_10, w_bipush (M := mX5_init) (v := 16) dX5_init_11 rfl, w_newa (M := mX5_init) (t := 20) dX5_init_13 rfl, w_putA (M := mX5_init) dX5_init_15 f_5_15 rfl (Or.inr ⟨rfl, rfl⟩), w_aload_n0 (M := mX5_init) dX5_init_18, w_bipush (M := mX5_init) (v := 16) dX5_init_19 rfl, w_newa (M := mX5_init) (t := 20) dX5_init_21 rfl, w_putA (M := mX5_init) dX5_init_23 f_5_19 rfl (Or.inr ⟨rfl, rfl⟩), w_aload_n0 (M := mX5_init) dX5_init_26, w_bipush (M := mX5_init) (v := 16) dX5_init_27 rfl, w_newa (M := mX5_init) (t := 20) dX5_init_29 rfl, w_putA (M := mX5_init) dX5_init_31 f_5_22 rfl (Or.inr ⟨rfl, rfl⟩), w_aload_n0 (M := mX5_init) dX5_init_34, w_iconst (M := mX5_init) (v := 4) dX5_init_35 rfl, w_anew (M := mX5_init) dX5_init_36 cl_5_25 (by decide), w_putA (M := mX5_init) dX5_init_39 f_5_27 rfl (Or.inr ⟨rfl, rfl⟩), w_iconst (M := mX5_init) (v := 0) dX5_init_42 rfl, w_istore_n (M := mX5_init) (i := 1) dX5_init_43 rfl (by decide), w_iconst (M := mX5_init) (v := 4) dX5_init_45 rfl, w_ic_ge (M := mX5_init) (tgt := 68) dX5_init_46 (by decide), w_aload_n0 (M := mX5_init) dX5_init_49, w_getA (M := mX5_init) dX5_init_50 f_5_27 rfl (by decide) (by decide), w_iload_n1 (M := mX5_init) dX5_init_53, w_new (M := mX5_init) dX5_init_54 cl_5_25 (by decide), w_dup_int (M := mX5_init) dX5_init_57, w_dup_ref (M := mX5_init) dX5_init_57, c_5_31 (M := mX5_init) dX5_init_58 rfl, w_aastore (M := mX5_init) dX5_init_61, w_iinc1 (M := mX5_init) (v := 1) dX5_init_62 rfl (by decide), w_goto (M := mX5_init) (tgt := 44) dX5_init_65 (by decide), w_vret (M := mX5_init) dX5_init_68 rfl, Kn_v_, Kn_n_, kl_i_, kl_a_, kl_l_, kl_n_, s1_0_, s2_0_, s1_1, s1_2, s1_3, s1_4, s1_5, s1_6, s1_7, s1_8, s1_9, s1_10, s1_11, s1_12, s1_13, s1_14, s2_1, s2_2, s2_3, s2_4, s2_5, s2_6, s2_7, s2_8, s2_9, s2_10, s2_11, s2_12, s2_13, s2_14, List.map_nil, List.map_cons, List.sum_nil, List.sum_cons, ct_i_, ct_r_, ct_l_, t_si_, t_sl_, t_sr_, n_si_, n_sl_, n_sr_, i_si_, i_sl_, i_sr_, l_si_, l_sl_, l_sr_, r_si_, r_sl_, r_sr_, vr_s_, vr_n_, nz_0_, nz_1_, s1, s3, s7, s11, am_MX, am_sz, c0, tt, tu, am_el, show p + 5 + i < 900000 by omega, in1_n (k := i) (n := 4) (by omega), hi, nI_c (a := i) (by omega), nI_s, show (nI i < 4) = True from nI_ltT (b := 4) hi (by omega)]
    · refine ⟨?_, ?_, ⟨?_, ?_, ?_, ?_, ?_, ?_, ?_, ?_, ?_⟩, fun e he => ?_, fun q hq => ?_⟩
      · simp only [n_sr_, n_si_, nw_n, s1]; omega
      · simp only [z_sr_, z_si_, nw_z, s2]; omega
      · simp (disch := omega) only [t_sr_, t_si_, nwt0, s3]
      · simp (disch := omega) only [t_sr_, t_si_, nwt0, s4]
      · simp (disch := omega) only [t_sr_, t_si_, nwt0, s5]
      · simp (disch := omega) only [t_sr_, t_si_, nwt0, s6]
      · simp (disch := omega) only [t_sr_, t_si_, nwt0, s7]
      · simp (disch := omega) only [rne, r_si_, nwr0, s8]
      · simp (disch := omega) only [rne, r_si_, nwr0, s9]
      · simp (disch := omega) only [rne, r_si_, nwr0, s10]
      · simp (disch := omega) only [rne, r_si_, nwr0, s11]
      · by_cases c : e = i
        · subst c
          simp (disch := omega) only [t_sr_, t_si_, nwt1, req, i_sr_, ine, nwi1, and_self]
        · have := s12 e (by omega)
          simp (disch := omega) only [t_sr_, t_si_, nwt0, rne, r_si_, nwr0, i_sr_, ine, nwi0]
          exact this
      · have z := s13 q hq
        refine ⟨?_, fun j => ?_⟩
        · simp (disch := omega) only [t_sr_, t_si_, nwt0]
          exact z.1
        · simp (disch := omega) only [i_sr_, ine, nwi0, l_sr_, l_si_, nwl0, rne, r_si_, nwr0]
          exact z.2 j
set_option maxRecDepth 20000 in
set_option maxHeartbeats 4000000 in
theorem q_X8_stepRow_has {S T i p : Nat} {Q : Option Value → am_h → Prop} (hS : a_t h S = (8, 14)) (hT : a_r h S 3 = some T) (hT2 : a_t h T = (24, 30)) (hi : i < 30) (hp : a_r h T i = some p) : Cal d mX8_stepRow [.ref S, .int (nI i)] h Q = Q (some (.ref p)) h := by
  unfold Cal
  rw [l_X8_stepRow]
  simp only [am_en, am_ag, ct_i, ct_r, ct_l, List.length_cons, List.length_nil, List.replicate]
  simp [w_aload_n0 (M := mX8_stepRow) dX8_stepRow_0, w_getA (M := mX8_stepRow) dX8_stepRow_1 f_8_34 rfl (by decide) (by decide), w_iload_n1 (M := mX8_stepRow) dX8_stepRow_4, w_aaload (M := mX8_stepRow) dX8_stepRow_5, w_ifnonnull_n (M := mX8_stepRow) (tgt := 22) dX8_stepRow_6 (by decide), w_ifnonnull_r (M := mX8_stepRow) (tgt := 22) dX8_stepRow_6 (by decide), w_aload_n0 (M := mX8_stepRow) dX8_stepRow_9, w_getA (M := mX8_stepRow) dX8_stepRow_10 f_8_34 rfl (by decide) (by decide), w_iload_n1 (M := mX8_stepRow) dX8_stepRow_13, w_new (M := mX8_stepRow) dX8_stepRow_14 cl_8_18 (by decide), w_dup_int (M := mX8_stepRow) dX8_stepRow_17, w_dup_ref (M := mX8_stepRow) dX8_stepRow_17, c_8_20 (M := mX8_stepRow) dX8_stepRow_18 rfl, w_aastore (M := mX8_stepRow) dX8_stepRow_21, w_aload_n0 (M := mX8_stepRow) dX8_stepRow_22, w_getA (M := mX8_stepRow) dX8_stepRow_23 f_8_34 rfl (by decide) (by decide), w_iload_n1 (M := mX8_stepRow) dX8_stepRow_26, w_aaload (M := mX8_stepRow) dX8_stepRow_27, w_aret (M := mX8_stepRow) dX8_stepRow_28 rfl, Kn_v_, Kn_n_, kl_i_, kl_a_, kl_l_, kl_n_, s1_0_, s2_0_, s1_1, s1_2, s1_3, s1_4, s1_5, s1_6, s1_7, s1_8, s1_9, s1_10, s1_11, s1_12, s1_13, s1_14, s2_1, s2_2, s2_3, s2_4, s2_5, s2_6, s2_7, s2_8, s2_9, s2_10, s2_11, s2_12, s2_13, s2_14, List.map_nil, List.map_cons, List.sum_nil, List.sum_cons, ct_i_, ct_r_, ct_l_, t_si_, t_sl_, t_sr_, n_si_, n_sl_, n_sr_, i_si_, i_sl_, i_sr_, l_si_, l_sl_, l_sr_, r_si_, r_sl_, r_sr_, vr_s_, vr_n_, nz_0_, nz_1_, hS, hT, hT2, in1_n (k := i) (n := 30) (by omega), hi, nI_c (a := i) (by omega), hp]
/-- a line was made and put into a row -/
def nwL (h h' : am_h) (T i : Nat) : Prop :=
  shL (a_t h') (a_r h') (a_n h) ∧ a_n h' = a_n h + 9 ∧ a_z h' = a_z h + 117 ∧ (∀ e, e < 4 → a_i h' (a_n h + 5 + e) 0 = 0) ∧ a_r h' T i = some (a_n h)
  ∧ ∀ q, ¬ (a_n h ≤ q ∧ q < a_n h + 9) → a_t h' q = a_t h q ∧ ∀ j, a_i h' q j = a_i h q j ∧ a_l h' q j = a_l h q j ∧ (¬ (q = T ∧ j = i) → a_r h' q j = a_r h q j)
set_option maxRecDepth 20000 in
set_option maxHeartbeats 4000000 in
theorem q_X8_stepRow_new {S T i : Nat} (hS : a_t h S = (8, 14)) (hT : a_r h S 3 = some T) (hT2 : a_t h T = (24, 30)) (hi : i < 30) (hp : a_r h T i = none) (hS2 : S < a_n h) (hT3 : T < a_n h) (hm : a_n h < 800000) : ∃ h', (∀ Q, Cal (d + 2) mX8_stepRow [.ref S, .int (nI i)] h Q = Q (some (.ref (a_n h))) h') ∧ nwL h h' T i := by
  obtain ⟨h1, a1, b1⟩ := q_X5_init (d := d) (h := s_nw h 5 9) (p := a_n h) (nwt1 rfl) nw_n hm
  obtain ⟨s1, s2, ⟨s3, s4, s5, s6, s7, s8, s9, s10, s11⟩, s12, s13⟩ := b1
  have zS := s13 S (by omega)
  have zT := s13 T (by omega)
  rw [nwt0 (by omega)] at zS zT
  have zr := (zS.2 3).2.2
  rw [nwr0 (by omega)] at zr
  refine ⟨s_r h1 T i (some (a_n h)), fun Q => ?_, ⟨?_, ?_, ?_, ?_, ?_, ?_, ?_⟩, ?_, ?_, fun e he => ?_, ?_, fun q hq => ?_⟩
  · unfold Cal
    rw [l_X8_stepRow]
    simp only [am_en, am_ag, ct_i, ct_r, ct_l, List.length_cons, List.length_nil, List.replicate]
    simp [w_aload_n0 (M := mX8_stepRow) dX8_stepRow_0, w_getA (M := mX8_stepRow) dX8_stepRow_1 f_8_34 rfl (by decide) (by decide), w_iload_n1 (M := mX8_stepRow) dX8_stepRow_4, w_aaload (M := mX8_stepRow) dX8_stepRow_5, w_ifnonnull_n (M := mX8_stepRow) (tgt := 22) dX8_stepRow_6 (by decide), w_ifnonnull_r (M := mX8_stepRow) (tgt := 22) dX8_stepRow_6 (by decide), w_aload_n0 (M := mX8_stepRow) dX8_stepRow_9, w_getA (M := mX8_stepRow) dX8_stepRow_10 f_8_34 rfl (by decide) (by decide), w_iload_n1 (M := mX8_stepRow) dX8_stepRow_13, w_new (M := mX8_stepRow) dX8_stepRow_14 cl_8_18 (by decide), w_dup_int (M := mX8_stepRow) dX8_stepRow_17, w_dup_ref (M := mX8_stepRow) dX8_stepRow_17, c_8_20 (M := mX8_stepRow) dX8_stepRow_18 rfl, w_aastore (M := mX8_stepRow) dX8_stepRow_21, w_aload_n0 (M := mX8_stepRow) dX8_stepRow_22, w_getA (M := mX8_stepRow) dX8_stepRow_23 f_8_34 rfl (by decide) (by decide), w_iload_n1 (M := mX8_stepRow) dX8_stepRow_26, w_aaload (M := mX8_stepRow) dX8_stepRow_27, w_aret (M := mX8_stepRow) dX8_stepRow_28 rfl, Kn_v_, Kn_n_, kl_i_, kl_a_, kl_l_, kl_n_, s1_0_, s2_0_, s1_1, s1_2, s1_3, s1_4, s1_5, s1_6, s1_7, s1_8, s1_9, s1_10, s1_11, s1_12, s1_13, s1_14, s2_1, s2_2, s2_3, s2_4, s2_5, s2_6, s2_7, s2_8, s2_9, s2_10, s2_11, s2_12, s2_13, s2_14, List.map_nil, List.map_cons, List.sum_nil, List.sum_cons, ct_i_, ct_r_, ct_l_, t_si_, t_sl_, t_sr_, n_si_, n_sl_, n_sr_, i_si_, i_sl_, i_sr_, l_si_, l_sl_, l_sr_, r_si_, r_sl_, r_sr_, vr_s_, vr_n_, nz_0_, nz_1_, hS, hT, hT2, in1_n (k := i) (n := 30) (by omega), hi, nI_c (a := i) (by omega), hp, am_MX, am_sz, am_el, a1, zS.1, zT.1, zr, s3, show a_n h < 900000 by omega, show ¬ S = T from fun e => by rw [e, hT2] at hS; exact absurd hS (by decide)]
  · exact s3
  · exact s4
  · exact s5
  · exact s6
  · exact s7
  · intro e he
    rw [t_sr_, rne (by omega)]
    exact ⟨(s12 e he).1, (s12 e he).2.1⟩
  · refine ⟨?_, ?_, ?_, ?_⟩ <;> rw [rne (by omega)]
    · exact s8
    · exact s9
    · exact s10
    · exact s11
  · rw [n_sr_, s1]
  · rw [z_sr_, s2, nw_z]
  · rw [i_sr_]; exact (s12 e he).2.2
  · exact req rfl rfl
  · have z := s13 q hq
    rw [nwt0 (by omega)] at z
    refine ⟨z.1, fun j => ?_⟩
    have zj := z.2 j
    rw [nwi0 (by omega), nwl0 (by omega), nwr0 (by omega)] at zj
    exact ⟨zj.1, zj.2.1, fun c => by rw [rne c]; exact zj.2.2⟩
end STEP
