/-! two fresh ends: comesAt whole, set -/
section COMES2
variable {d : Nat} {y yy : am_h} {q : Nat} {m : FMo}
set_option maxRecDepth 20000 in
set_option maxHeartbeats 2000000 in
theorem comes_i (sP : shP (a_t y) (a_r y) q) {e : Nat} (he : e < 2) {p1 p2 : Int32} {x4 x5 x6 : Option Value} : ∃ y', (∀ Q, WP (d + 1) mX6_comesAt 21 [some (.ref q), some (.int p1), some (.int p2), some (.int (nI e)), x4, x5, x6] [] y Q = WP (d + 1) mX6_comesAt 21 [some (.ref q), some (.int p1), some (.int p2), some (.int (nI (e + 1))), x4, x5, x6] [] y' Q)
    ∧ pf q y y' ∧ a_i y' (q + 12) e = nI 1 ∧ a_i y' (q + 13) e = nI 0 ∧ a_i y' (q + 14) e = nI 0 ∧ a_i y' (q + 4 + e) 0 = nI 0 ∧ a_i y' (q + 7 + e) 0 = -1 ∧ a_i y' (q + 10 + e) 0 = nI 0
    ∧ ∀ p j, ¬ (j = e ∧ (p = q + 12 ∨ p = q + 13 ∨ p = q + 14)) → ¬ (p = q + 4 + e ∨ p = q + 7 + e ∨ p = q + 10 + e) → a_i y' p j = a_i y p j := by
  obtain ⟨y1, ey1⟩ : ∃ y1, y1 = s_i (s_i (s_i y (q + 12) e 0) (q + 13) e 0) (q + 14) e 0 := ⟨_, rfl⟩
  have sP1 : shP (a_t y1) (a_r y1) q := by rw [ey1]; exact sP
  have bg : ∀ Q, Cal d mX6_begin [.ref q, .int (nI e), .int 0] y1 Q = Q none (s_i (s_i (s_i (s_i y1 (q + 4 + e) 0 0) (q + 7 + e) 0 (-1)) (q + 10 + e) 0 0) (q + 12) e (nI 1)) := fun Q => q_X6_begin sP1 he (n := 0) (by omega) (by rw [ey1, ine (by omega), ine (by omega), ieq rfl rfl]; rfl)
  have lt : (nI e < 2) = True := nI_ltT (b := 2) he (by omega)
  have sP2 := sP
  unfold shP at sP2
  refine ⟨s_i (s_i (s_i (s_i y1 (q + 4 + e) 0 0) (q + 7 + e) 0 (-1)) (q + 10 + e) 0 0) (q + 12) e (nI 1), fun Q => ?_, ?_, ?_, ?_, ?_, ?_, ?_, ?_, fun p j c1 c2 => ?_⟩
  · rw [w_iload_n3 (M := mX6_comesAt) dX6_comesAt_21]
    simp [w_iconst (M := mX6_comesAt) (v := 2) dX6_comesAt_22 rfl, w_ic_ge (M := mX6_comesAt) (tgt := 59) dX6_comesAt_23 (by decide), w_aload_n0 (M := mX6_comesAt) dX6_comesAt_26, w_getA (M := mX6_comesAt) dX6_comesAt_27 f_6_29 rfl (by decide) (by decide), w_iload_n3 (M := mX6_comesAt) dX6_comesAt_30, w_iconst (M := mX6_comesAt) (v := 0) dX6_comesAt_31 rfl, w_iastore (M := mX6_comesAt) dX6_comesAt_32, w_aload_n0 (M := mX6_comesAt) dX6_comesAt_33, w_getA (M := mX6_comesAt) dX6_comesAt_34 f_6_32 rfl (by decide) (by decide), w_iload_n3 (M := mX6_comesAt) dX6_comesAt_37, w_iconst (M := mX6_comesAt) (v := 0) dX6_comesAt_38 rfl, w_iastore (M := mX6_comesAt) dX6_comesAt_39, w_aload_n0 (M := mX6_comesAt) dX6_comesAt_40, w_getA (M := mX6_comesAt) dX6_comesAt_41 f_6_35 rfl (by decide) (by decide), w_iload_n3 (M := mX6_comesAt) dX6_comesAt_44, w_iconst (M := mX6_comesAt) (v := 0) dX6_comesAt_45 rfl, w_iastore (M := mX6_comesAt) dX6_comesAt_46, w_aload_n0 (M := mX6_comesAt) dX6_comesAt_47, w_iload_n3 (M := mX6_comesAt) dX6_comesAt_48, w_iconst (M := mX6_comesAt) (v := 0) dX6_comesAt_49 rfl, c_6_58 (M := mX6_comesAt) dX6_comesAt_50 rfl, w_iinc3 (M := mX6_comesAt) (v := 1) dX6_comesAt_53 rfl (by decide), w_goto (M := mX6_comesAt) (tgt := 21) dX6_comesAt_56 (by decide), Kn_v_, Kn_n_, kl_i_, kl_a_, kl_l_, kl_n_, s1_0_, s2_0_, s1_1, s1_2, s1_3, s1_4, s1_5, s1_6, s1_7, s1_8, s1_9, s1_10, s1_11, s1_12, s1_13, s1_14, s2_1, s2_2, s2_3, s2_4, s2_5, s2_6, s2_7, s2_8, s2_9, s2_10, s2_11, s2_12, s2_13, s2_14, List.map_nil, List.map_cons, List.sum_nil, List.sum_cons, ct_i_, ct_r_, ct_l_, t_si_, t_sl_, t_sr_, n_si_, n_sl_, n_sr_, i_si_, i_sl_, i_sr_, l_si_, l_sl_, l_sr_, r_si_, r_sl_, r_sr_, vr_s_, vr_n_, nz_0_, nz_1_, sP2, in1_n (k := e) (n := 2) (by omega), he, nI_c (a := e) (by omega), lt, ← ey1, sP1.1, bg, nI_s]
  · rw [ey1]
    exact ((((((pf.refl.si (Or.inr (Or.inl ⟨by omega, by omega⟩))).si (Or.inr (Or.inl ⟨by omega, by omega⟩))).si (Or.inr (Or.inl ⟨by omega, by omega⟩))).si (Or.inr (Or.inl ⟨by omega, by omega⟩))).si (Or.inr (Or.inl ⟨by omega, by omega⟩))).si (Or.inr (Or.inl ⟨by omega, by omega⟩))).si (Or.inr (Or.inl ⟨by omega, by omega⟩))
  · exact ieq rfl rfl
  · rw [ey1]; simp (disch := omega) only [ine, ieq]; rfl
  · rw [ey1]; simp (disch := omega) only [ine, ieq]; rfl
  · simp (disch := omega) only [ine, ieq]; rfl
  · simp (disch := omega) only [ine, ieq]
  · simp (disch := omega) only [ine, ieq]; rfl
  · rw [ey1]; simp (disch := omega) only [ine]
def mkM (wa wb a b L S : Nat) : FMo := (fun e => if e = 0 then wa else wb, fun e => if e = 0 then 1 + a else 1 + b, L, S)
theorem mkM_w0 {wa wb a b L S : Nat} : (mkM wa wb a b L S).1 0 = wa := rfl
theorem mkM_w1 {wa wb a b L S : Nat} : (mkM wa wb a b L S).1 1 = wb := rfl
theorem mkM_l0 {wa wb a b L S : Nat} : (mkM wa wb a b L S).2.1 0 = 1 + a := rfl
theorem mkM_l1 {wa wb a b L S : Nat} : (mkM wa wb a b L S).2.1 1 = 1 + b := rfl
theorem pf.tr {y1 y2 y3 : am_h} (k : pf q y1 y2) (k' : pf q y2 y3) : pf q y1 y3 := ⟨k.1.tr k'.1, k'.2.1.trans k.2.1, fun p j c => (k'.2.2 p j c).trans (k.2.2 p j c)⟩
set_option maxRecDepth 20000 in
set_option maxHeartbeats 4000000 in
theorem q_X6_comesAt (sP : shP (a_t y) (a_r y) q) {wa wb a b L S : Nat} (hwa : wa ≤ 99) (hwb : wb ≤ 99) (ha : a ≤ 60) (hb : b ≤ 60) (hL1 : 1 ≤ L) (hL : L ≤ 99) (hS : S ≤ 99) (pl0 : a_i y (q + 2) 0 = nI (1 + a)) (pl1 : a_i y (q + 2) 1 = nI (1 + b)) (pL : a_i y q 2 = nI L) (pS : a_i y q 3 = nI S) : ∃ y' bs, (∀ Q, Cal (d + 3) mX6_comesAt [.ref q, .int (nI wa), .int (nI wb)] y Q = Q (some (.int (bsB bs))) y') ∧ pf q y y' ∧ isAns (mkM wa wb a b L S) bs := by
  obtain ⟨ya, eya⟩ : ∃ ya, ya = s_i (s_i (s_i y (q + 1) 0 (nI wa)) (q + 1) 1 (nI wb)) q 10 (-1) := ⟨_, rfl⟩
  have fa : pf q y ya := by
    rw [eya]
    exact ((pf.refl.si (Or.inl rfl)).si (Or.inl rfl)).si (Or.inr (Or.inr ⟨rfl, rfl⟩))
  have sPa := fa.P sP
  obtain ⟨y0, k0, f0, z1, z2, z3, z4, z5, z6, z7⟩ := comes_i (d := d + 2) sPa (e := 0) (by omega) (p1 := nI wa) (p2 := nI wb) (x4 := none) (x5 := none) (x6 := none)
  have sP0 := (fa.tr f0).P sP
  obtain ⟨y1, k1, f1, v1, v2, v3, v4, v5, v6, v7⟩ := comes_i (d := d + 2) sP0 (e := 1) (by omega) (p1 := nI wa) (p2 := nI wb) (x4 := none) (x5 := none) (x6 := none)
  have f := (fa.tr f0).tr f1
  have i1 : ∀ p j, p ≤ q + 2 → a_i y1 p j = a_i ya p j := fun p j h => by rw [v7 p j (by omega) (by omega), z7 p j (by omega) (by omega)]
  have li : LI q (mkM wa wb a b L S) y 0 0 y1 := by
    refine ⟨f, by omega, ⟨?_, ?_, ?_, ?_, ?_, ?_⟩, 1, 1, 0, 0, 0, 0, 0, fun _ => 0, fun _ => 0, fun _ => 0, fun _ => 0, fun _ => 0, fun _ => 0, ?_, ?_, ?_, ?_, ⟨?_, by omega, fun j hj => by omega⟩, ⟨?_, by omega, fun j hj => by omega⟩, ⟨?_, by omega, fun i hi => by omega, fun i hi => by omega⟩, ⟨?_, by omega, fun i hi => by omega, fun i hi => by omega⟩, ?_, fun c => absurd rfl c, by omega, rfl⟩
    · rw [i1 _ _ (by omega), eya]; simp (disch := omega) only [ine, ieq]; rfl
    · rw [i1 _ _ (by omega), eya]; simp (disch := omega) only [ine, ieq]; rfl
    · rw [i1 _ _ (by omega), eya]; simp (disch := omega) only [ine]; exact pl0
    · rw [i1 _ _ (by omega), eya]; simp (disch := omega) only [ine]; exact pl1
    · rw [i1 _ _ (by omega), eya]; simp (disch := omega) only [ine]; exact pL
    · rw [i1 _ _ (by omega), eya]; simp (disch := omega) only [ine]; exact pS
    · refine ⟨Nat.le_refl _, by omega, by rw [v7 _ _ (by omega) (by omega)]; exact z1, fun i hi => ⟨Nat.zero_le _, Nat.zero_le _, ?_, ?_, ?_⟩⟩
      · rw [show i = 0 by omega, v7 _ _ (by omega) (by omega)]; exact z4
      · rw [show i = 0 by omega, v7 _ _ (by omega) (by omega)]; exact z5
      · rw [show i = 0 by omega, v7 _ _ (by omega) (by omega)]; exact z6
    · refine ⟨Nat.le_refl _, by omega, v1, fun i hi => ⟨Nat.zero_le _, Nat.zero_le _, ?_, ?_, ?_⟩⟩
      · rw [show i = 0 by omega]; exact v4
      · rw [show i = 0 by omega]; exact v5
      · rw [show i = 0 by omega]; exact v6
    · exact Or.inr (Or.inr ⟨rfl, rfl, fD_0 (by rw [mkM_l1]; omega) rfl rfl⟩)
    · exact Or.inr (Or.inr ⟨rfl, rfl, fD_0 (by rw [mkM_l0]; omega) rfl rfl⟩)
    · rw [v7 _ _ (by omega) (by omega)]; exact z2
    · exact v2
    · rw [v7 _ _ (by omega) (by omega)]; exact z3
    · exact v3
    · rw [i1 _ _ (by omega), eya, ieq rfl rfl]; rfl
  obtain ⟨y', bs, r1, r2, r3⟩ := comes_lp (d := d) sP (m := mkM wa wb a b L S) (by rw [mkM_l0]; omega) (by rw [mkM_l1]; omega) (by rw [mkM_l0]; omega) (by rw [mkM_l1]; omega) (by rw [mkM_w0]; exact hwa) (by rw [mkM_w1]; exact hwb) hL1 hL hS (p1 := nI wa) (p2 := nI wb) 4000 0 0 y1 none none none (by omega) li
  refine ⟨y', bs, fun Q => ?_, r2, r3⟩
  have k0' : ∀ Q, WP (d + 3) mX6_comesAt 21 [some (.ref q), some (.int (nI wa)), some (.int (nI wb)), some (.int 0), none, none, none] [] ya Q = WP (d + 3) mX6_comesAt 21 [some (.ref q), some (.int (nI wa)), some (.int (nI wb)), some (.int (nI 1)), none, none, none] [] y0 Q := k0
  have r1' : WP (d + 3) mX6_comesAt 61 [some (.ref q), some (.int (nI wa)), some (.int (nI wb)), some (.int 0), none, none, none] [] y1 Q = Q (some (.int (bsB bs))) y' := r1 Q
  have sP2 := sP
  unfold shP at sP2
  unfold Cal
  rw [l_X6_comesAt]
  simp only [am_en, am_ag, ct_i, ct_r, ct_l, List.length_cons, List.length_nil, List.replicate]
  simp [w_aload_n0 (M := mX6_comesAt) dX6_comesAt_0, w_getA (M := mX6_comesAt) dX6_comesAt_1 f_6_9 rfl (by decide) (by decide), w_iconst (M := mX6_comesAt) (v := 0) dX6_comesAt_4 rfl, w_iload_n1 (M := mX6_comesAt) dX6_comesAt_5, w_iastore (M := mX6_comesAt) dX6_comesAt_6, w_aload_n0 (M := mX6_comesAt) dX6_comesAt_7, w_getA (M := mX6_comesAt) dX6_comesAt_8 f_6_9 rfl (by decide) (by decide), w_iconst (M := mX6_comesAt) (v := 1) dX6_comesAt_11 rfl, w_iload_n2 (M := mX6_comesAt) dX6_comesAt_12, w_iastore (M := mX6_comesAt) dX6_comesAt_13, w_aload_n0 (M := mX6_comesAt) dX6_comesAt_14, w_iconst (M := mX6_comesAt) (v := (-1)) dX6_comesAt_15 rfl, w_putI (M := mX6_comesAt) dX6_comesAt_16 f_6_55 rfl (Or.inl rfl), w_iconst (M := mX6_comesAt) (v := 0) dX6_comesAt_19 rfl, w_istore_n (M := mX6_comesAt) (i := 3) dX6_comesAt_20 rfl (by decide), Kn_v_, Kn_n_, kl_i_, kl_a_, kl_l_, kl_n_, s1_0_, s2_0_, s1_1, s1_2, s1_3, s1_4, s1_5, s1_6, s1_7, s1_8, s1_9, s1_10, s1_11, s1_12, s1_13, s1_14, s2_1, s2_2, s2_3, s2_4, s2_5, s2_6, s2_7, s2_8, s2_9, s2_10, s2_11, s2_12, s2_13, s2_14, List.map_nil, List.map_cons, List.sum_nil, List.sum_cons, ct_i_, ct_r_, ct_l_, t_si_, t_sl_, t_sr_, n_si_, n_sl_, n_sr_, i_si_, i_sl_, i_sr_, l_si_, l_sl_, l_sr_, r_si_, r_sl_, r_sr_, vr_s_, vr_n_, nz_0_, nz_1_, sP2, am_in1, ← eya]
  rw [k0' Q, k1 Q]
  rw [w_iload_n3 (M := mX6_comesAt) dX6_comesAt_21]
  simp [w_iconst (M := mX6_comesAt) (v := 2) dX6_comesAt_22 rfl, w_ic_ge (M := mX6_comesAt) (tgt := 59) dX6_comesAt_23 (by decide), w_iconst (M := mX6_comesAt) (v := 0) dX6_comesAt_59 rfl, w_istore_n (M := mX6_comesAt) (i := 3) dX6_comesAt_60 rfl (by decide), Kn_v_, Kn_n_, kl_i_, kl_a_, kl_l_, kl_n_, s1_0_, s2_0_, s1_1, s1_2, s1_3, s1_4, s1_5, s1_6, s1_7, s1_8, s1_9, s1_10, s1_11, s1_12, s1_13, s1_14, s2_1, s2_2, s2_3, s2_4, s2_5, s2_6, s2_7, s2_8, s2_9, s2_10, s2_11, s2_12, s2_13, s2_14, List.map_nil, List.map_cons, List.sum_nil, List.sum_cons, ct_i_, ct_r_, ct_l_, t_si_, t_sl_, t_sr_, n_si_, n_sl_, n_sr_, i_si_, i_sl_, i_sr_, l_si_, l_sl_, l_sr_, r_si_, r_sl_, r_sr_, vr_s_, vr_n_, nz_0_, nz_1_, show (nI (1 + 1) < 2) = False from nI_ltF (a := 2) (b := 2) (Nat.le_refl _) (by omega), r1']
set_option maxRecDepth 20000 in
set_option maxHeartbeats 2000000 in
/-- set: what was found for other numbers is forgotten -/
theorem q_X6_set (sP : shP (a_t y) (a_r y) q) {v1 v2 v3 v4 : Int32} : ∃ y', (∀ Q, Cal d mX6_set [.ref q, .int v1, .int v2, .int v3, .int v4] y Q = Q none y') ∧ sm y y' ∧ a_l y' = a_l y
    ∧ a_i y' (q + 2) 0 = 1 + v1 ∧ a_i y' (q + 2) 1 = 1 + v2 ∧ a_i y' q 2 = v3 ∧ a_i y' q 3 = v4
    ∧ (∀ p j, ¬ (p = q + 2 ∧ j < 2) → ¬ (p = q ∧ (j = 2 ∨ j = 3 ∨ j = 12)) → a_i y' p j = a_i y p j)
    ∧ (a_i y' q 12 = -1 ∨ a_i y' q 12 = a_i y q 12 ∧ a_i y (q + 2) 0 = 1 + v1 ∧ a_i y (q + 2) 1 = 1 + v2 ∧ a_i y q 2 = v3 ∧ a_i y q 3 = v4) := by
  by_cases c : a_i y (q + 2) 0 = 1 + v1 ∧ a_i y (q + 2) 1 = 1 + v2 ∧ a_i y q 2 = v3 ∧ a_i y q 3 = v4
  · refine ⟨s_i (s_i (s_i (s_i y (q + 2) 0 (1 + v1)) (q + 2) 1 (1 + v2)) q 2 v3) q 3 v4, fun Q => ?_, ⟨rfl, rfl, rfl⟩, rfl, ?_, ?_, ?_, ?_, fun p j c1 c2 => ?_, Or.inr ⟨?_, c⟩⟩
    · obtain ⟨c1, c2, c3, c4⟩ := c
      unfold Cal
      rw [l_X6_set]
      simp only [am_en, am_ag, ct_i, ct_r, ct_l, List.length_cons, List.length_nil, List.replicate]
      unfold shP at sP
      simp [w_aload_n0 (M := mX6_set) dX6_set_0, w_getA (M := mX6_set) dX6_set_1 f_6_15 rfl (by decide) (by decide), w_iconst (M := mX6_set) (v := 0) dX6_set_4 rfl, w_iaload (M := mX6_set) dX6_set_5, w_iconst (M := mX6_set) (v := 1) dX6_set_6 rfl, w_iload_n1 (M := mX6_set) dX6_set_7, w_iadd (M := mX6_set) dX6_set_8, w_ic_ne (M := mX6_set) (tgt := 41) dX6_set_9 (by decide), w_aload_n0 (M := mX6_set) dX6_set_12, w_getA (M := mX6_set) dX6_set_13 f_6_15 rfl (by decide) (by decide), w_iconst (M := mX6_set) (v := 1) dX6_set_16 rfl, w_iaload (M := mX6_set) dX6_set_17, w_iconst (M := mX6_set) (v := 1) dX6_set_18 rfl, w_iload_n2 (M := mX6_set) dX6_set_19, w_iadd (M := mX6_set) dX6_set_20, w_ic_ne (M := mX6_set) (tgt := 41) dX6_set_21 (by decide), w_aload_n0 (M := mX6_set) dX6_set_24, w_getI (M := mX6_set) dX6_set_25 f_6_45 rfl (by decide) (by decide), w_iload_n3 (M := mX6_set) dX6_set_28, w_ic_ne (M := mX6_set) (tgt := 41) dX6_set_29 (by decide), w_aload_n0 (M := mX6_set) dX6_set_32, w_getI (M := mX6_set) dX6_set_33 f_6_48 rfl (by decide) (by decide), w_iload4 (M := mX6_set) dX6_set_36, w_ic_eq (M := mX6_set) (tgt := 46) dX6_set_38 (by decide), w_aload_n0 (M := mX6_set) dX6_set_41, w_iconst (M := mX6_set) (v := (-1)) dX6_set_42 rfl, w_putI (M := mX6_set) dX6_set_43 f_6_41 rfl (Or.inl rfl), w_aload_n0 (M := mX6_set) dX6_set_46, w_getA (M := mX6_set) dX6_set_47 f_6_15 rfl (by decide) (by decide), w_iconst (M := mX6_set) (v := 0) dX6_set_50 rfl, w_iconst (M := mX6_set) (v := 1) dX6_set_51 rfl, w_iload_n1 (M := mX6_set) dX6_set_52, w_iadd (M := mX6_set) dX6_set_53, w_iastore (M := mX6_set) dX6_set_54, w_aload_n0 (M := mX6_set) dX6_set_55, w_getA (M := mX6_set) dX6_set_56 f_6_15 rfl (by decide) (by decide), w_iconst (M := mX6_set) (v := 1) dX6_set_59 rfl, w_iconst (M := mX6_set) (v := 1) dX6_set_60 rfl, w_iload_n2 (M := mX6_set) dX6_set_61, w_iadd (M := mX6_set) dX6_set_62, w_iastore (M := mX6_set) dX6_set_63, w_aload_n0 (M := mX6_set) dX6_set_64, w_iload_n3 (M := mX6_set) dX6_set_65, w_putI (M := mX6_set) dX6_set_66 f_6_45 rfl (Or.inl rfl), w_aload_n0 (M := mX6_set) dX6_set_69, w_iload4 (M := mX6_set) dX6_set_70, w_putI (M := mX6_set) dX6_set_72 f_6_48 rfl (Or.inl rfl), w_vret (M := mX6_set) dX6_set_75 rfl, Kn_v_, Kn_n_, kl_i_, kl_a_, kl_l_, kl_n_, s1_0_, s2_0_, s1_1, s1_2, s1_3, s1_4, s1_5, s1_6, s1_7, s1_8, s1_9, s1_10, s1_11, s1_12, s1_13, s1_14, s2_1, s2_2, s2_3, s2_4, s2_5, s2_6, s2_7, s2_8, s2_9, s2_10, s2_11, s2_12, s2_13, s2_14, List.map_nil, List.map_cons, List.sum_nil, List.sum_cons, ct_i_, ct_r_, ct_l_, t_si_, t_sl_, t_sr_, n_si_, n_sl_, n_sr_, i_si_, i_sl_, i_sr_, l_si_, l_sl_, l_sr_, r_si_, r_sl_, r_sr_, vr_s_, vr_n_, nz_0_, nz_1_, sP, am_in1, c1, c2, c3, c4]
    · simp (disch := omega) only [ine, ieq]
    · simp (disch := omega) only [ine, ieq]
    · simp (disch := omega) only [ine, ieq]
    · simp (disch := omega) only [ine, ieq]
    · rw [ine (by omega), ine (by omega), ine (by omega), ine (by omega)]
    · simp (disch := omega) only [ine, ieq]
  · refine ⟨s_i (s_i (s_i (s_i (s_i y q 12 (-1)) (q + 2) 0 (1 + v1)) (q + 2) 1 (1 + v2)) q 2 v3) q 3 v4, fun Q => ?_, ⟨rfl, rfl, rfl⟩, rfl, ?_, ?_, ?_, ?_, fun p j c1 c2 => ?_, Or.inl ?_⟩
    · unfold Cal
      rw [l_X6_set]
      simp only [am_en, am_ag, ct_i, ct_r, ct_l, List.length_cons, List.length_nil, List.replicate]
      unfold shP at sP
      by_cases c1 : a_i y (q + 2) 0 = 1 + v1 <;> by_cases c2 : a_i y (q + 2) 1 = 1 + v2 <;> by_cases c3 : a_i y q 2 = v3 <;> by_cases c4 : a_i y q 3 = v4 <;> simp [c1, c2, c3, c4] at c <;> simp [w_aload_n0 (M := mX6_set) dX6_set_0, w_getA (M := mX6_set) dX6_set_1 f_6_15 rfl (by decide) (by decide), w_iconst (M := mX6_set) (v := 0) dX6_set_4 rfl, w_iaload (M := mX6_set) dX6_set_5, w_iconst (M := mX6_set) (v := 1) dX6_set_6 rfl, w_iload_n1 (M := mX6_set) dX6_set_7, w_iadd (M := mX6_set) dX6_set_8, w_ic_ne (M := mX6_set) (tgt := 41) dX6_set_9 (by decide), w_aload_n0 (M := mX6_set) dX6_set_12, w_getA (M := mX6_set) dX6_set_13 f_6_15 rfl (by decide) (by decide), w_iconst (M := mX6_set) (v := 1) dX6_set_16 rfl, w_iaload (M := mX6_set) dX6_set_17, w_iconst (M := mX6_set) (v := 1) dX6_set_18 rfl, w_iload_n2 (M := mX6_set) dX6_set_19, w_iadd (M := mX6_set) dX6_set_20, w_ic_ne (M := mX6_set) (tgt := 41) dX6_set_21 (by decide), w_aload_n0 (M := mX6_set) dX6_set_24, w_getI (M := mX6_set) dX6_set_25 f_6_45 rfl (by decide) (by decide), w_iload_n3 (M := mX6_set) dX6_set_28, w_ic_ne (M := mX6_set) (tgt := 41) dX6_set_29 (by decide), w_aload_n0 (M := mX6_set) dX6_set_32, w_getI (M := mX6_set) dX6_set_33 f_6_48 rfl (by decide) (by decide), w_iload4 (M := mX6_set) dX6_set_36, w_ic_eq (M := mX6_set) (tgt := 46) dX6_set_38 (by decide), w_aload_n0 (M := mX6_set) dX6_set_41, w_iconst (M := mX6_set) (v := (-1)) dX6_set_42 rfl, w_putI (M := mX6_set) dX6_set_43 f_6_41 rfl (Or.inl rfl), w_aload_n0 (M := mX6_set) dX6_set_46, w_getA (M := mX6_set) dX6_set_47 f_6_15 rfl (by decide) (by decide), w_iconst (M := mX6_set) (v := 0) dX6_set_50 rfl, w_iconst (M := mX6_set) (v := 1) dX6_set_51 rfl, w_iload_n1 (M := mX6_set) dX6_set_52, w_iadd (M := mX6_set) dX6_set_53, w_iastore (M := mX6_set) dX6_set_54, w_aload_n0 (M := mX6_set) dX6_set_55, w_getA (M := mX6_set) dX6_set_56 f_6_15 rfl (by decide) (by decide), w_iconst (M := mX6_set) (v := 1) dX6_set_59 rfl, w_iconst (M := mX6_set) (v := 1) dX6_set_60 rfl, w_iload_n2 (M := mX6_set) dX6_set_61, w_iadd (M := mX6_set) dX6_set_62, w_iastore (M := mX6_set) dX6_set_63, w_aload_n0 (M := mX6_set) dX6_set_64, w_iload_n3 (M := mX6_set) dX6_set_65, w_putI (M := mX6_set) dX6_set_66 f_6_45 rfl (Or.inl rfl), w_aload_n0 (M := mX6_set) dX6_set_69, w_iload4 (M := mX6_set) dX6_set_70, w_putI (M := mX6_set) dX6_set_72 f_6_48 rfl (Or.inl rfl), w_vret (M := mX6_set) dX6_set_75 rfl, Kn_v_, Kn_n_, kl_i_, kl_a_, kl_l_, kl_n_, s1_0_, s2_0_, s1_1, s1_2, s1_3, s1_4, s1_5, s1_6, s1_7, s1_8, s1_9, s1_10, s1_11, s1_12, s1_13, s1_14, s2_1, s2_2, s2_3, s2_4, s2_5, s2_6, s2_7, s2_8, s2_9, s2_10, s2_11, s2_12, s2_13, s2_14, List.map_nil, List.map_cons, List.sum_nil, List.sum_cons, ct_i_, ct_r_, ct_l_, t_si_, t_sl_, t_sr_, n_si_, n_sl_, n_sr_, i_si_, i_sl_, i_sr_, l_si_, l_sl_, l_sr_, r_si_, r_sl_, r_sr_, vr_s_, vr_n_, nz_0_, nz_1_, sP, am_in1, c1, c2, c3, c4]
    · simp (disch := omega) only [ine, ieq]
    · simp (disch := omega) only [ine, ieq]
    · simp (disch := omega) only [ine, ieq]
    · simp (disch := omega) only [ine, ieq]
    · rw [ine (by omega), ine (by omega), ine (by omega), ine (by omega), ine (by omega)]
    · simp (disch := omega) only [ine, ieq]
end COMES2
