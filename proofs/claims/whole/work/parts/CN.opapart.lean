/-! apart stands -/
section OPAPART
variable {d : Nat} {h h' y y' : am_h} {q a b L S : Nat}
theorem isAns.le {m : FMo} {bs : Nat} (k : isAns m bs) : bs ≤ 1001 := by
  by_cases c : bs = 0
  · omega
  · obtain ⟨e, he, z⟩ := (k.2 c).1
    have := z.2.2.2.1
    omega
/-- what findApart may write -/
def pca (q p j : Nat) : Prop := pcl q p j ∨ (p = q ∧ j = 12) ∨ p = q + 15
def pg (q : Nat) (y0 y : am_h) : Prop := sm y0 y ∧ a_l y = a_l y0 ∧ ∀ p j, ¬ pca q p j → a_i y p j = a_i y0 p j
theorem pg.refl : pg q y y := ⟨⟨rfl, rfl, rfl⟩, rfl, fun _ _ _ => rfl⟩
theorem pg.pf {yy : am_h} (k : pg q y yy) (k' : pf q yy y') : pg q y y' := ⟨k.1.tr k'.1, k'.2.1.trans k.2.1, fun p j c => (k'.2.2 p j (fun z => c (Or.inl z))).trans (k.2.2 p j c)⟩
theorem pg.si {yy : am_h} (k : pg q y yy) {p j : Nat} {v : Int32} (c : pca q p j) : pg q y (s_i yy p j v) := ⟨k.1.tr ⟨rfl, rfl, rfl⟩, k.2.1, fun r j' c' => by
  rw [ine (fun z => c' (by rw [z.1, z.2]; exact c))]; exact k.2.2 r j' c'⟩
theorem flD.more {n K : Nat} {row : Nat → Nat} (k : flD a b L S n K row) (g : gA a b L S n) : flD a b L S (n + 1) (K + 1) (un row K n) := by
  obtain ⟨k1, k2, k3⟩ := k
  refine ⟨fun j hj => ?_, fun i hi hg => ?_, fun j j' h1 h2 => ?_⟩
  · by_cases c : j = K
    · rw [une c]; exact ⟨by omega, g⟩
    · rw [unn c]
      have := k1 j (by omega)
      exact ⟨by omega, this.2⟩
  · by_cases c : i = n
    · exact ⟨K, by omega, by rw [une rfl, c]⟩
    · obtain ⟨j, j1, j2⟩ := k2 i (by omega) hg
      exact ⟨j, by omega, by rw [unn (by omega)]; exact j2⟩
  · by_cases c : j' = K
    · rw [une c, unn (by omega)]
      exact (k1 j (by omega)).1
    · rw [unn c, unn (by omega)]
      exact k3 j j' h1 (by omega)
theorem flD.less {n K : Nat} {row : Nat → Nat} (k : flD a b L S n K row) (g : ¬ gA a b L S n) : flD a b L S (n + 1) K row := by
  obtain ⟨k1, k2, k3⟩ := k
  refine ⟨fun j hj => ⟨by have := (k1 j hj).1; omega, (k1 j hj).2⟩, fun i hi hg => ?_, k3⟩
  by_cases c : i = n
  · rw [c] at hg; exact absurd hg g
  · exact k2 i (by omega) hg
set_option maxRecDepth 20000 in
set_option maxHeartbeats 4000000 in
theorem q_X6_findApart (sP : shP (a_t y) (a_r y) q) (ax : apX (a_i y) q) (ha : a ≤ 60) (hb : b ≤ 60) (hL1 : 1 ≤ L) (hL : L ≤ 99) (hS : S ≤ 99) (pl0 : a_i y (q + 2) 0 = nI (1 + a)) (pl1 : a_i y (q + 2) 1 = nI (1 + b)) (pL : a_i y q 2 = nI L) (pS : a_i y q 3 = nI S) :
    ∃ y' K row, (∀ Q, Cal (d + 4) mX6_findApart [.ref q] y Q = Q none y') ∧ pg q y y' ∧ K ≤ 625 ∧ a_i y' q 12 = nI K ∧ (∀ j, j < K → a_i y' (q + 15) j = nI (row j)) ∧ flD a b L S 625 K row := by
  rcases ax with c | ⟨a', b', L', S', K, row, x1, x2, x3, x4, x5, x6, x7, x8, x9, x10, x11, x12⟩
  · obtain ⟨y0, ey0⟩ : ∃ y0, y0 = s_i y q 12 0 := ⟨_, rfl⟩
    have g0 : pg q y y0 := by rw [ey0]; exact pg.refl.si (Or.inr (Or.inl ⟨rfl, rfl⟩))
    obtain ⟨⟨y', K, row⟩, cf, p1, p2, p3, p4, p5⟩ := lp (n := 625) (W := fun i (s : am_h × Nat × (Nat → Nat)) Q => WP (d + 4) mX6_findApart 16 [some (.ref q), some (.int (nI i))] [] s.1 Q) (P := fun i s => pg q y s.1 ∧ s.2.1 ≤ i ∧ a_i s.1 q 12 = nI s.2.1 ∧ (∀ j, j < s.2.1 → a_i s.1 (q + 15) j = nI (s.2.2 j)) ∧ flD a b L S i s.2.1 s.2.2) (fun i s hi hs => by
      obtain ⟨s, K, row⟩ := s
      obtain ⟨p1, p2, p3, p4, p5⟩ := hs
      simp only at p1 p2 p3 p4 p5
      have sPs : shP (a_t s) (a_r s) q := by rw [p1.1.1, p1.1.2.1]; exact sP
      have io : ∀ p j, p = q + 2 ∨ (p = q ∧ (j = 2 ∨ j = 3)) → a_i s p j = a_i y p j := fun p j cc => p1.2.2 p j (fun z => by unfold pca pcl at z; omega)
      obtain ⟨s1, bs, e1, f1, A1⟩ := q_X6_comesAt (d := d) sPs (wa := i / 25) (wb := i % 25) (by omega) (by omega) ha hb hL1 hL hS (by rw [io _ _ (by omega)]; exact pl0) (by rw [io _ _ (by omega)]; exact pl1) (by rw [io _ _ (by omega)]; exact pL) (by rw [io _ _ (by omega)]; exact pS)
      have gi : gA a b L S i ↔ ¬ bs = 0 := by unfold gA; rw [ansV_e A1]
      have b1 := A1.le
      have sP1 : shP (a_t s1) (a_r s1) q := f1.P sPs
      have sP2 := sPs
      have sP3 := sP1
      unfold shP at sP2 sP3
      have lt : (nI i < 625) = True := nI_ltT (b := 625) hi (by omega)
      have dv : nI i / 25 = nI (i / 25) := nI_dv (b := 25) (by omega) (by omega)
      have rm : nI i - nI i / 25 * 25 = nI (i % 25) := nI_rm (b := 25) (by omega) (by omega)
      have rm' : nI i - nI (i / 25) * 25 = nI (i % 25) := by rw [← dv]; exact rm
      have i12 : a_i s1 q 12 = nI K := by rw [f1.2.2 _ _ (fun z => by unfold pcl at z; omega)]; exact p3
      have i15 : ∀ j, a_i s1 (q + 15) j = a_i s (q + 15) j := fun j => f1.2.2 _ _ (fun z => by unfold pcl at z; omega)
      by_cases cb : bs = 0
      · rw [cb, bsB_0] at e1
        refine ⟨(s1, K, row), fun Q => ?_, p1.pf f1, by simp only; omega, i12, fun j hj => by simp only at hj ⊢; rw [i15]; exact p4 j hj, p5.less (fun z => gi.mp z cb)⟩
        rw [w_iload_n1 (M := mX6_findApart) dX6_findApart_16]
        simp [w_sipush (M := mX6_findApart) (v := 625) dX6_findApart_17 rfl, w_ic_ge (M := mX6_findApart) (tgt := 65) dX6_findApart_20 (by decide), w_aload_n0 (M := mX6_findApart) dX6_findApart_23, w_iload_n1 (M := mX6_findApart) dX6_findApart_24, w_bipush (M := mX6_findApart) (v := 25) dX6_findApart_25 rfl, w_idiv (M := mX6_findApart) dX6_findApart_27, w_iload_n1 (M := mX6_findApart) dX6_findApart_28, w_bipush (M := mX6_findApart) (v := 25) dX6_findApart_29 rfl, w_irem (M := mX6_findApart) dX6_findApart_31, c_6_51 (M := mX6_findApart) dX6_findApart_32 rfl, w_iconst (M := mX6_findApart) (v := (-1)) dX6_findApart_35 rfl, w_ic_eq (M := mX6_findApart) (tgt := 59) dX6_findApart_36 (by decide), w_aload_n0 (M := mX6_findApart) dX6_findApart_39, w_getA (M := mX6_findApart) dX6_findApart_40 f_6_38 rfl (by decide) (by decide), w_aload_n0 (M := mX6_findApart) dX6_findApart_43, w_getI (M := mX6_findApart) dX6_findApart_44 f_6_41 rfl (by decide) (by decide), w_iload_n1 (M := mX6_findApart) dX6_findApart_47, w_iastore (M := mX6_findApart) dX6_findApart_48, w_aload_n0 (M := mX6_findApart) dX6_findApart_49, w_dup_int (M := mX6_findApart) dX6_findApart_50, w_dup_ref (M := mX6_findApart) dX6_findApart_50, w_getI (M := mX6_findApart) dX6_findApart_51 f_6_41 rfl (by decide) (by decide), w_iconst (M := mX6_findApart) (v := 1) dX6_findApart_54 rfl, w_iadd (M := mX6_findApart) dX6_findApart_55, w_putI (M := mX6_findApart) dX6_findApart_56 f_6_41 rfl (Or.inl rfl), w_iinc1 (M := mX6_findApart) (v := 1) dX6_findApart_59 rfl (by decide), w_goto (M := mX6_findApart) (tgt := 16) dX6_findApart_62 (by decide), Kn_v_, Kn_n_, kl_i_, kl_a_, kl_l_, kl_n_, s1_0_, s2_0_, s1_1, s1_2, s1_3, s1_4, s1_5, s1_6, s1_7, s1_8, s1_9, s1_10, s1_11, s1_12, s1_13, s1_14, s2_1, s2_2, s2_3, s2_4, s2_5, s2_6, s2_7, s2_8, s2_9, s2_10, s2_11, s2_12, s2_13, s2_14, List.map_nil, List.map_cons, List.sum_nil, List.sum_cons, ct_i_, ct_r_, ct_l_, t_si_, t_sl_, t_sr_, n_si_, n_sl_, n_sr_, i_si_, i_sl_, i_sr_, l_si_, l_sl_, l_sr_, r_si_, r_sl_, r_sr_, vr_s_, vr_n_, nz_0_, nz_1_, sP2, sP3, lt, dv, rm, rm', show ¬ (25 : Int32) = 0 from by decide, e1, nI_s]
      · rw [bsB_n cb] at e1
        have n1 : (nI (bs - 1) = -1) = False := nI_n1 (by omega)
        refine ⟨(s_i (s_i s1 (q + 15) K (nI i)) q 12 (nI (K + 1)), K + 1, un row K i), fun Q => ?_, ((p1.pf f1).si (Or.inr (Or.inr rfl))).si (Or.inr (Or.inl ⟨rfl, rfl⟩)), by simp only; omega, ieq rfl rfl, fun j hj => ?_, p5.more (gi.mpr cb)⟩
        · rw [w_iload_n1 (M := mX6_findApart) dX6_findApart_16]
          simp [w_sipush (M := mX6_findApart) (v := 625) dX6_findApart_17 rfl, w_ic_ge (M := mX6_findApart) (tgt := 65) dX6_findApart_20 (by decide), w_aload_n0 (M := mX6_findApart) dX6_findApart_23, w_iload_n1 (M := mX6_findApart) dX6_findApart_24, w_bipush (M := mX6_findApart) (v := 25) dX6_findApart_25 rfl, w_idiv (M := mX6_findApart) dX6_findApart_27, w_iload_n1 (M := mX6_findApart) dX6_findApart_28, w_bipush (M := mX6_findApart) (v := 25) dX6_findApart_29 rfl, w_irem (M := mX6_findApart) dX6_findApart_31, c_6_51 (M := mX6_findApart) dX6_findApart_32 rfl, w_iconst (M := mX6_findApart) (v := (-1)) dX6_findApart_35 rfl, w_ic_eq (M := mX6_findApart) (tgt := 59) dX6_findApart_36 (by decide), w_aload_n0 (M := mX6_findApart) dX6_findApart_39, w_getA (M := mX6_findApart) dX6_findApart_40 f_6_38 rfl (by decide) (by decide), w_aload_n0 (M := mX6_findApart) dX6_findApart_43, w_getI (M := mX6_findApart) dX6_findApart_44 f_6_41 rfl (by decide) (by decide), w_iload_n1 (M := mX6_findApart) dX6_findApart_47, w_iastore (M := mX6_findApart) dX6_findApart_48, w_aload_n0 (M := mX6_findApart) dX6_findApart_49, w_dup_int (M := mX6_findApart) dX6_findApart_50, w_dup_ref (M := mX6_findApart) dX6_findApart_50, w_getI (M := mX6_findApart) dX6_findApart_51 f_6_41 rfl (by decide) (by decide), w_iconst (M := mX6_findApart) (v := 1) dX6_findApart_54 rfl, w_iadd (M := mX6_findApart) dX6_findApart_55, w_putI (M := mX6_findApart) dX6_findApart_56 f_6_41 rfl (Or.inl rfl), w_iinc1 (M := mX6_findApart) (v := 1) dX6_findApart_59 rfl (by decide), w_goto (M := mX6_findApart) (tgt := 16) dX6_findApart_62 (by decide), Kn_v_, Kn_n_, kl_i_, kl_a_, kl_l_, kl_n_, s1_0_, s2_0_, s1_1, s1_2, s1_3, s1_4, s1_5, s1_6, s1_7, s1_8, s1_9, s1_10, s1_11, s1_12, s1_13, s1_14, s2_1, s2_2, s2_3, s2_4, s2_5, s2_6, s2_7, s2_8, s2_9, s2_10, s2_11, s2_12, s2_13, s2_14, List.map_nil, List.map_cons, List.sum_nil, List.sum_cons, ct_i_, ct_r_, ct_l_, t_si_, t_sl_, t_sr_, n_si_, n_sl_, n_sr_, i_si_, i_sl_, i_sr_, l_si_, l_sl_, l_sr_, r_si_, r_sl_, r_sr_, vr_s_, vr_n_, nz_0_, nz_1_, sP2, sP3, lt, dv, rm, rm', show ¬ (25 : Int32) = 0 from by decide, e1, n1, i12, in1_n (k := K) (n := 625) (by omega), show K < 625 by omega, nI_c (a := K) (by omega), nI_s, show ¬ q = q + 15 by omega]
        · simp only at hj ⊢
          rw [ine (by omega)]
          by_cases cj : j = K
          · rw [ieq rfl cj, une cj]
          · rw [ine (by omega), unn cj, i15]; exact p4 j (by omega)) 625 0 (y0, 0, fun _ => 0) (by omega) ⟨g0, Nat.le_refl _, by show a_i y0 q 12 = nI 0; rw [ey0, ieq rfl rfl]; rfl, fun j hj => by simp only at hj; omega, ⟨fun j hj => by simp only at hj; omega, fun i hi => by omega, fun j j' h1 h2 => by simp only at h2; omega⟩⟩
    simp only at cf p1 p2 p3 p4 p5
    refine ⟨y', K, row, fun Q => ?_, p1, p2, p3, p4, p5⟩
    have cf' : WP (d + 4) mX6_findApart 16 [some (.ref q), some (.int 0)] [] y0 Q = _ := cf Q
    have sP2 := sP
    unfold shP at sP2
    unfold Cal
    rw [l_X6_findApart]
    simp only [am_en, am_ag, ct_i, ct_r, ct_l, List.length_cons, List.length_nil, List.replicate]
    simp [w_aload_n0 (M := mX6_findApart) dX6_findApart_0, w_getI (M := mX6_findApart) dX6_findApart_1 f_6_41 rfl (by decide) (by decide), w_iconst (M := mX6_findApart) (v := (-1)) dX6_findApart_4 rfl, w_ic_eq (M := mX6_findApart) (tgt := 9) dX6_findApart_5 (by decide), w_vret (M := mX6_findApart) dX6_findApart_8 rfl, w_aload_n0 (M := mX6_findApart) dX6_findApart_9, w_iconst (M := mX6_findApart) (v := 0) dX6_findApart_10 rfl, w_putI (M := mX6_findApart) dX6_findApart_11 f_6_41 rfl (Or.inl rfl), w_iconst (M := mX6_findApart) (v := 0) dX6_findApart_14 rfl, w_istore_n (M := mX6_findApart) (i := 1) dX6_findApart_15 rfl (by decide), Kn_v_, Kn_n_, kl_i_, kl_a_, kl_l_, kl_n_, s1_0_, s2_0_, s1_1, s1_2, s1_3, s1_4, s1_5, s1_6, s1_7, s1_8, s1_9, s1_10, s1_11, s1_12, s1_13, s1_14, s2_1, s2_2, s2_3, s2_4, s2_5, s2_6, s2_7, s2_8, s2_9, s2_10, s2_11, s2_12, s2_13, s2_14, List.map_nil, List.map_cons, List.sum_nil, List.sum_cons, ct_i_, ct_r_, ct_l_, t_si_, t_sl_, t_sr_, n_si_, n_sl_, n_sr_, i_si_, i_sl_, i_sr_, l_si_, l_sl_, l_sr_, r_si_, r_sl_, r_sr_, vr_s_, vr_n_, nz_0_, nz_1_, sP2, c, ← ey0]
    rw [cf', w_iload_n1 (M := mX6_findApart) dX6_findApart_16]
    simp [w_sipush (M := mX6_findApart) (v := 625) dX6_findApart_17 rfl, w_ic_ge (M := mX6_findApart) (tgt := 65) dX6_findApart_20 (by decide), w_vret (M := mX6_findApart) dX6_findApart_65 rfl, Kn_v_, Kn_n_, kl_i_, kl_a_, kl_l_, kl_n_, s1_0_, s2_0_, s1_1, s1_2, s1_3, s1_4, s1_5, s1_6, s1_7, s1_8, s1_9, s1_10, s1_11, s1_12, s1_13, s1_14, s2_1, s2_2, s2_3, s2_4, s2_5, s2_6, s2_7, s2_8, s2_9, s2_10, s2_11, s2_12, s2_13, s2_14, List.map_nil, List.map_cons, List.sum_nil, List.sum_cons, ct_i_, ct_r_, ct_l_, t_si_, t_sl_, t_sr_, n_si_, n_sl_, n_sr_, i_si_, i_sl_, i_sr_, l_si_, l_sl_, l_sr_, r_si_, r_sl_, r_sr_, vr_s_, vr_n_, nz_0_, nz_1_, show (nI 625 < 625) = False from nI_ltF (b := 625) (Nat.le_refl _) (by omega)]
  · have ea : a' = a := by rw [x5, nI_inj (by omega) (by omega)] at pl0; omega
    have eb : b' = b := by rw [x6, nI_inj (by omega) (by omega)] at pl1; omega
    have eL : L' = L := by rw [x7, nI_inj (by omega) (by omega)] at pL; exact pL
    have eS : S' = S := by rw [x8, nI_inj (by omega) (by omega)] at pS; exact pS
    subst ea eb eL eS
    refine ⟨y, K, row, fun Q => ?_, pg.refl, x9, x10, x11, x12⟩
    have n1 : (nI K = -1) = False := nI_n1 (by omega)
    unfold Cal
    rw [l_X6_findApart]
    simp only [am_en, am_ag, ct_i, ct_r, ct_l, List.length_cons, List.length_nil, List.replicate]
    unfold shP at sP
    simp [w_aload_n0 (M := mX6_findApart) dX6_findApart_0, w_getI (M := mX6_findApart) dX6_findApart_1 f_6_41 rfl (by decide) (by decide), w_iconst (M := mX6_findApart) (v := (-1)) dX6_findApart_4 rfl, w_ic_eq (M := mX6_findApart) (tgt := 9) dX6_findApart_5 (by decide), w_vret (M := mX6_findApart) dX6_findApart_8 rfl, Kn_v_, Kn_n_, kl_i_, kl_a_, kl_l_, kl_n_, s1_0_, s2_0_, s1_1, s1_2, s1_3, s1_4, s1_5, s1_6, s1_7, s1_8, s1_9, s1_10, s1_11, s1_12, s1_13, s1_14, s2_1, s2_2, s2_3, s2_4, s2_5, s2_6, s2_7, s2_8, s2_9, s2_10, s2_11, s2_12, s2_13, s2_14, List.map_nil, List.map_cons, List.sum_nil, List.sum_cons, ct_i_, ct_r_, ct_l_, t_si_, t_sl_, t_sr_, n_si_, n_sl_, n_sr_, i_si_, i_sl_, i_sr_, l_si_, l_sl_, l_sr_, r_si_, r_sl_, r_sr_, vr_s_, vr_n_, nz_0_, nz_1_, sP, x10, n1]
/-- what apart answers: of the row of those that come apart -/
def apR (v : Int32) (K : Nat) (row : Nat → Nat) (R : Int32) : Prop := (∀ x, x < K → v = nI x → R = nI (row x)) ∧ ((∀ x, x < K → ¬ v = nI x) → R = if v = -1 then nI K else -1)
set_option maxRecDepth 20000 in
set_option maxHeartbeats 4000000 in
theorem q_X12_apart (hR : sh_R (a_t h) (a_r h)) (ha : a ≤ 60) (hb : b ≤ 60) (hL1 : 1 ≤ L) (hL : L ≤ 99) (hS : S ≤ 99) {v R : Int32} {K : Nat} {row : Nat → Nat} (hK : K ≤ 625) (fl : flD a b L S 625 K row) (hRR : apR v K row R) : ∀ (k0 w0 : Nat) (s : am_h) (c : Nat) (x8 : Option Value), w0 + k0 = 25 → rlf h s → c ≤ K → (∀ j, j < c → row j < 25 * w0) → (∀ j, c ≤ j → j < K → 25 * w0 ≤ row j) → (∀ x, x < c → ¬ v = nI x) →
    ∃ y', (∀ Q, WP (d + 6) mX12_apart 43 [some (.ref 126), some (.int (nI a)), some (.int (nI b)), some (.int (nI L)), some (.int (nI S)), some (.int v), some (.int (nI c)), some (.int (nI w0)), x8] [] s Q = Q (some (.int R)) y') ∧ rlf h y' := by
  obtain ⟨fl1, fl2, fl3⟩ := fl
  intro k0
  induction k0 with
  | zero =>
    intro w0 s c x8 e f cK lo hi nv
    have cK2 : c = K := by
      by_cases z : c < K
      · have := hi c (Nat.le_refl _) z
        have := (fl1 c z).1
        omega
      · omega
    subst cK2
    have r := hRR.2 nv
    have g : (nI w0 < 25) = False := nI_ltF (b := 25) (by omega) (by omega)
    refine ⟨s, fun Q => ?_, f⟩
    by_cases z : v = -1
    · rw [if_pos z] at r
      rw [r, z]
      simp [w_iload_n1 (M := mX12_apart) dX12_apart_0, w_iload_n2 (M := mX12_apart) dX12_apart_1, c_12_595 (M := mX12_apart) dX12_apart_2 rfl, w_if_eq (M := mX12_apart) (tgt := 35) dX12_apart_5 (by decide), w_iload_n3 (M := mX12_apart) dX12_apart_8, w_iconst (M := mX12_apart) (v := 1) dX12_apart_9 rfl, w_bipush (M := mX12_apart) (v := 99) dX12_apart_10 rfl, c_12_173 (M := mX12_apart) dX12_apart_12 rfl, w_if_eq (M := mX12_apart) (tgt := 35) dX12_apart_15 (by decide), w_iload4 (M := mX12_apart) dX12_apart_18, w_iconst (M := mX12_apart) (v := 0) dX12_apart_20 rfl, w_bipush (M := mX12_apart) (v := 99) dX12_apart_21 rfl, c_12_173 (M := mX12_apart) dX12_apart_23 rfl, w_if_eq (M := mX12_apart) (tgt := 35) dX12_apart_26 (by decide), w_iload5 (M := mX12_apart) dX12_apart_29, w_iconst (M := mX12_apart) (v := (-1)) dX12_apart_31 rfl, w_ic_ge (M := mX12_apart) (tgt := 37) dX12_apart_32 (by decide), w_iconst (M := mX12_apart) (v := (-1)) dX12_apart_35 rfl, w_iret (M := mX12_apart) dX12_apart_36 rfl, w_iconst (M := mX12_apart) (v := 0) dX12_apart_37 rfl, w_istore (M := mX12_apart) dX12_apart_38 (by decide), w_iconst (M := mX12_apart) (v := 0) dX12_apart_40 rfl, w_istore (M := mX12_apart) dX12_apart_41 (by decide), w_iload7 (M := mX12_apart) dX12_apart_43, w_bipush (M := mX12_apart) (v := 25) dX12_apart_45 rfl, w_ic_ge (M := mX12_apart) (tgt := 108) dX12_apart_47 (by decide), w_iconst (M := mX12_apart) (v := 0) dX12_apart_50 rfl, w_istore (M := mX12_apart) dX12_apart_51 (by decide), w_iload8 (M := mX12_apart) dX12_apart_53, w_bipush (M := mX12_apart) (v := 25) dX12_apart_55 rfl, w_ic_ge (M := mX12_apart) (tgt := 102) dX12_apart_57 (by decide), w_aload_n0 (M := mX12_apart) dX12_apart_60, w_iload7 (M := mX12_apart) dX12_apart_61, w_iload8 (M := mX12_apart) dX12_apart_63, w_iload_n1 (M := mX12_apart) dX12_apart_65, w_iload_n2 (M := mX12_apart) dX12_apart_66, w_iload_n3 (M := mX12_apart) dX12_apart_67, w_iload4 (M := mX12_apart) dX12_apart_68, c_12_598 (M := mX12_apart) dX12_apart_70 rfl, w_iconst (M := mX12_apart) (v := (-1)) dX12_apart_73 rfl, w_ic_eq (M := mX12_apart) (tgt := 96) dX12_apart_74 (by decide), w_iload6 (M := mX12_apart) dX12_apart_77, w_iload5 (M := mX12_apart) dX12_apart_79, w_ic_ne (M := mX12_apart) (tgt := 93) dX12_apart_81 (by decide), w_bipush (M := mX12_apart) (v := 25) dX12_apart_84 rfl, w_iload7 (M := mX12_apart) dX12_apart_86, w_imul (M := mX12_apart) dX12_apart_88, w_iload8 (M := mX12_apart) dX12_apart_89, w_iadd (M := mX12_apart) dX12_apart_91, w_iret (M := mX12_apart) dX12_apart_92 rfl, w_iinc6 (M := mX12_apart) (v := 1) dX12_apart_93 rfl (by decide), w_iinc8 (M := mX12_apart) (v := 1) dX12_apart_96 rfl (by decide), w_goto (M := mX12_apart) (tgt := 53) dX12_apart_99 (by decide), w_iinc7 (M := mX12_apart) (v := 1) dX12_apart_102 rfl (by decide), w_goto (M := mX12_apart) (tgt := 43) dX12_apart_105 (by decide), w_iload5 (M := mX12_apart) dX12_apart_108, w_iconst (M := mX12_apart) (v := (-1)) dX12_apart_110 rfl, w_ic_ne (M := mX12_apart) (tgt := 119) dX12_apart_111 (by decide), w_iload6 (M := mX12_apart) dX12_apart_114, w_goto (M := mX12_apart) (tgt := 120) dX12_apart_116 (by decide), w_iconst (M := mX12_apart) (v := (-1)) dX12_apart_119 rfl, w_iret (M := mX12_apart) dX12_apart_120 rfl, Kn_v_, Kn_n_, kl_i_, kl_a_, kl_l_, kl_n_, s1_0_, s2_0_, s1_1, s1_2, s1_3, s1_4, s1_5, s1_6, s1_7, s1_8, s1_9, s1_10, s1_11, s1_12, s1_13, s1_14, s2_1, s2_2, s2_3, s2_4, s2_5, s2_6, s2_7, s2_8, s2_9, s2_10, s2_11, s2_12, s2_13, s2_14, List.map_nil, List.map_cons, List.sum_nil, List.sum_cons, ct_i_, ct_r_, ct_l_, t_si_, t_sl_, t_sr_, n_si_, n_sl_, n_sr_, i_si_, i_sl_, i_sr_, l_si_, l_sl_, l_sr_, r_si_, r_sl_, r_sr_, vr_s_, vr_n_, nz_0_, nz_1_, g]
    · rw [if_neg z] at r
      rw [r]
      simp [w_iload_n1 (M := mX12_apart) dX12_apart_0, w_iload_n2 (M := mX12_apart) dX12_apart_1, c_12_595 (M := mX12_apart) dX12_apart_2 rfl, w_if_eq (M := mX12_apart) (tgt := 35) dX12_apart_5 (by decide), w_iload_n3 (M := mX12_apart) dX12_apart_8, w_iconst (M := mX12_apart) (v := 1) dX12_apart_9 rfl, w_bipush (M := mX12_apart) (v := 99) dX12_apart_10 rfl, c_12_173 (M := mX12_apart) dX12_apart_12 rfl, w_if_eq (M := mX12_apart) (tgt := 35) dX12_apart_15 (by decide), w_iload4 (M := mX12_apart) dX12_apart_18, w_iconst (M := mX12_apart) (v := 0) dX12_apart_20 rfl, w_bipush (M := mX12_apart) (v := 99) dX12_apart_21 rfl, c_12_173 (M := mX12_apart) dX12_apart_23 rfl, w_if_eq (M := mX12_apart) (tgt := 35) dX12_apart_26 (by decide), w_iload5 (M := mX12_apart) dX12_apart_29, w_iconst (M := mX12_apart) (v := (-1)) dX12_apart_31 rfl, w_ic_ge (M := mX12_apart) (tgt := 37) dX12_apart_32 (by decide), w_iconst (M := mX12_apart) (v := (-1)) dX12_apart_35 rfl, w_iret (M := mX12_apart) dX12_apart_36 rfl, w_iconst (M := mX12_apart) (v := 0) dX12_apart_37 rfl, w_istore (M := mX12_apart) dX12_apart_38 (by decide), w_iconst (M := mX12_apart) (v := 0) dX12_apart_40 rfl, w_istore (M := mX12_apart) dX12_apart_41 (by decide), w_iload7 (M := mX12_apart) dX12_apart_43, w_bipush (M := mX12_apart) (v := 25) dX12_apart_45 rfl, w_ic_ge (M := mX12_apart) (tgt := 108) dX12_apart_47 (by decide), w_iconst (M := mX12_apart) (v := 0) dX12_apart_50 rfl, w_istore (M := mX12_apart) dX12_apart_51 (by decide), w_iload8 (M := mX12_apart) dX12_apart_53, w_bipush (M := mX12_apart) (v := 25) dX12_apart_55 rfl, w_ic_ge (M := mX12_apart) (tgt := 102) dX12_apart_57 (by decide), w_aload_n0 (M := mX12_apart) dX12_apart_60, w_iload7 (M := mX12_apart) dX12_apart_61, w_iload8 (M := mX12_apart) dX12_apart_63, w_iload_n1 (M := mX12_apart) dX12_apart_65, w_iload_n2 (M := mX12_apart) dX12_apart_66, w_iload_n3 (M := mX12_apart) dX12_apart_67, w_iload4 (M := mX12_apart) dX12_apart_68, c_12_598 (M := mX12_apart) dX12_apart_70 rfl, w_iconst (M := mX12_apart) (v := (-1)) dX12_apart_73 rfl, w_ic_eq (M := mX12_apart) (tgt := 96) dX12_apart_74 (by decide), w_iload6 (M := mX12_apart) dX12_apart_77, w_iload5 (M := mX12_apart) dX12_apart_79, w_ic_ne (M := mX12_apart) (tgt := 93) dX12_apart_81 (by decide), w_bipush (M := mX12_apart) (v := 25) dX12_apart_84 rfl, w_iload7 (M := mX12_apart) dX12_apart_86, w_imul (M := mX12_apart) dX12_apart_88, w_iload8 (M := mX12_apart) dX12_apart_89, w_iadd (M := mX12_apart) dX12_apart_91, w_iret (M := mX12_apart) dX12_apart_92 rfl, w_iinc6 (M := mX12_apart) (v := 1) dX12_apart_93 rfl (by decide), w_iinc8 (M := mX12_apart) (v := 1) dX12_apart_96 rfl (by decide), w_goto (M := mX12_apart) (tgt := 53) dX12_apart_99 (by decide), w_iinc7 (M := mX12_apart) (v := 1) dX12_apart_102 rfl (by decide), w_goto (M := mX12_apart) (tgt := 43) dX12_apart_105 (by decide), w_iload5 (M := mX12_apart) dX12_apart_108, w_iconst (M := mX12_apart) (v := (-1)) dX12_apart_110 rfl, w_ic_ne (M := mX12_apart) (tgt := 119) dX12_apart_111 (by decide), w_iload6 (M := mX12_apart) dX12_apart_114, w_goto (M := mX12_apart) (tgt := 120) dX12_apart_116 (by decide), w_iconst (M := mX12_apart) (v := (-1)) dX12_apart_119 rfl, w_iret (M := mX12_apart) dX12_apart_120 rfl, Kn_v_, Kn_n_, kl_i_, kl_a_, kl_l_, kl_n_, s1_0_, s2_0_, s1_1, s1_2, s1_3, s1_4, s1_5, s1_6, s1_7, s1_8, s1_9, s1_10, s1_11, s1_12, s1_13, s1_14, s2_1, s2_2, s2_3, s2_4, s2_5, s2_6, s2_7, s2_8, s2_9, s2_10, s2_11, s2_12, s2_13, s2_14, List.map_nil, List.map_cons, List.sum_nil, List.sum_cons, ct_i_, ct_r_, ct_l_, t_si_, t_sl_, t_sr_, n_si_, n_sl_, n_sr_, i_si_, i_sl_, i_sr_, l_si_, l_sl_, l_sr_, r_si_, r_sl_, r_sr_, vr_s_, vr_n_, nz_0_, nz_1_, g, z]
  | succ k0 ih0 =>
    intro w0 s c x8 e f cK lo hi nv
    have inner : ∀ (k1 w1 : Nat) (s : am_h) (c : Nat), w1 + k1 = 25 → rlf h s → c ≤ K → (∀ j, j < c → row j < 25 * w0 + w1) → (∀ j, c ≤ j → j < K → 25 * w0 + w1 ≤ row j) → (∀ x, x < c → ¬ v = nI x) →
        ∃ y', (∀ Q, WP (d + 6) mX12_apart 53 [some (.ref 126), some (.int (nI a)), some (.int (nI b)), some (.int (nI L)), some (.int (nI S)), some (.int v), some (.int (nI c)), some (.int (nI w0)), some (.int (nI w1))] [] s Q = Q (some (.int R)) y') ∧ rlf h y' := by
      intro k1
      induction k1 with
      | zero =>
        intro w1 s c e1 f cK lo hi nv
        have e25 : w1 = 25 := by omega
        subst e25
        obtain ⟨y', z1, z2⟩ := ih0 (w0 + 1) s c (some (.int (nI 25))) (by omega) f cK (fun j hj => by have := lo j hj; omega) (fun j h1 h2 => by have := hi j h1 h2; omega) nv
        refine ⟨y', fun Q => ?_, z2⟩
        have z1' := z1 Q
        rw [w_iload8 (M := mX12_apart) dX12_apart_53]
        simp [w_bipush (M := mX12_apart) (v := 25) dX12_apart_55 rfl, w_ic_ge (M := mX12_apart) (tgt := 102) dX12_apart_57 (by decide), w_iinc7 (M := mX12_apart) (v := 1) dX12_apart_102 rfl (by decide), w_goto (M := mX12_apart) (tgt := 43) dX12_apart_105 (by decide), Kn_v_, Kn_n_, kl_i_, kl_a_, kl_l_, kl_n_, s1_0_, s2_0_, s1_1, s1_2, s1_3, s1_4, s1_5, s1_6, s1_7, s1_8, s1_9, s1_10, s1_11, s1_12, s1_13, s1_14, s2_1, s2_2, s2_3, s2_4, s2_5, s2_6, s2_7, s2_8, s2_9, s2_10, s2_11, s2_12, s2_13, s2_14, List.map_nil, List.map_cons, List.sum_nil, List.sum_cons, ct_i_, ct_r_, ct_l_, t_si_, t_sl_, t_sr_, n_si_, n_sl_, n_sr_, i_si_, i_sl_, i_sr_, l_si_, l_sl_, l_sr_, r_si_, r_sl_, r_sr_, vr_s_, vr_n_, nz_0_, nz_1_, show (nI 25 < 25) = False from nI_ltF (b := 25) (Nat.le_refl _) (by omega), nI_s, z1']
      | succ k1 ih1 =>
        intro w1 s c e1 f cK lo hi nv
        obtain ⟨s1, bs, c1, f1, A1⟩ := q_X12_comesOf (d := d) (f.R hR) (wa := w0) (wb := w1) (by omega) (by omega) ha hb hL1 hL hS
        have f2 := f.tr f1
        have hR1 := f2.R hR
        have hRs := f.R hR
        have gi : gA a b L S (25 * w0 + w1) ↔ ¬ bs = 0 := by
          unfold gA
          rw [show (25 * w0 + w1) / 25 = w0 by omega, show (25 * w0 + w1) % 25 = w1 by omega, ansV_e A1]
        have b1 := A1.le
        have lt : (nI w1 < 25) = True := nI_ltT (b := 25) (by omega) (by omega)
        by_cases cb : bs = 0
        · rw [cb, bsB_0] at c1
          have ng : ¬ gA a b L S (25 * w0 + w1) := fun z => gi.mp z cb
          obtain ⟨y', z1, z2⟩ := ih1 (w1 + 1) s1 c (by omega) f2 cK (fun j hj => by have := lo j hj; omega) (fun j h1 h2 => by
            have := hi j h1 h2
            by_cases z : row j = 25 * w0 + w1
            · have := (fl1 j h2).2
              rw [z] at this
              exact absurd this ng
            · omega) nv
          refine ⟨y', fun Q => ?_, z2⟩
          have z1' := z1 Q
          rw [w_iload8 (M := mX12_apart) dX12_apart_53]
          simp [w_bipush (M := mX12_apart) (v := 25) dX12_apart_55 rfl, w_ic_ge (M := mX12_apart) (tgt := 102) dX12_apart_57 (by decide), w_aload_n0 (M := mX12_apart) dX12_apart_60, w_iload7 (M := mX12_apart) dX12_apart_61, w_iload8 (M := mX12_apart) dX12_apart_63, w_iload_n1 (M := mX12_apart) dX12_apart_65, w_iload_n2 (M := mX12_apart) dX12_apart_66, w_iload_n3 (M := mX12_apart) dX12_apart_67, w_iload4 (M := mX12_apart) dX12_apart_68, c_12_598 (M := mX12_apart) dX12_apart_70 rfl, w_iconst (M := mX12_apart) (v := (-1)) dX12_apart_73 rfl, w_ic_eq (M := mX12_apart) (tgt := 96) dX12_apart_74 (by decide), w_iload6 (M := mX12_apart) dX12_apart_77, w_iload5 (M := mX12_apart) dX12_apart_79, w_ic_ne (M := mX12_apart) (tgt := 93) dX12_apart_81 (by decide), w_bipush (M := mX12_apart) (v := 25) dX12_apart_84 rfl, w_iload7 (M := mX12_apart) dX12_apart_86, w_imul (M := mX12_apart) dX12_apart_88, w_iload8 (M := mX12_apart) dX12_apart_89, w_iadd (M := mX12_apart) dX12_apart_91, w_iret (M := mX12_apart) dX12_apart_92 rfl, w_iinc6 (M := mX12_apart) (v := 1) dX12_apart_93 rfl (by decide), w_iinc8 (M := mX12_apart) (v := 1) dX12_apart_96 rfl (by decide), w_goto (M := mX12_apart) (tgt := 53) dX12_apart_99 (by decide), Kn_v_, Kn_n_, kl_i_, kl_a_, kl_l_, kl_n_, s1_0_, s2_0_, s1_1, s1_2, s1_3, s1_4, s1_5, s1_6, s1_7, s1_8, s1_9, s1_10, s1_11, s1_12, s1_13, s1_14, s2_1, s2_2, s2_3, s2_4, s2_5, s2_6, s2_7, s2_8, s2_9, s2_10, s2_11, s2_12, s2_13, s2_14, List.map_nil, List.map_cons, List.sum_nil, List.sum_cons, ct_i_, ct_r_, ct_l_, t_si_, t_sl_, t_sr_, n_si_, n_sl_, n_sr_, i_si_, i_sl_, i_sr_, l_si_, l_sl_, l_sr_, r_si_, r_sl_, r_sr_, vr_s_, vr_n_, nz_0_, nz_1_, hRs.e.1, lt, c1, nI_s, z1']
        · rw [bsB_n cb] at c1
          have n1 : (nI (bs - 1) = -1) = False := nI_n1 (by omega)
          obtain ⟨j, j1, j2⟩ := fl2 (25 * w0 + w1) (by omega) (gi.mpr cb)
          have jc : j = c := by
            by_cases z : j < c
            · have := lo j z; omega
            · by_cases z2 : c < j
              · have := fl3 c j z2 j1
                have := hi c (Nat.le_refl _) (by omega)
                omega
              · omega
          subst jc
          by_cases ev : v = nI j
          · have r := hRR.1 j j1 ev
            refine ⟨s1, fun Q => ?_, f2⟩
            have mm : 25 * nI w0 + nI w1 = nI (25 * w0 + w1) := by
              rw [show (25 : Int32) * nI w0 = nI (25 * w0) from nI_m (a := 25), nI_a]
            rw [r, j2, ev, w_iload8 (M := mX12_apart) dX12_apart_53]
            simp [w_bipush (M := mX12_apart) (v := 25) dX12_apart_55 rfl, w_ic_ge (M := mX12_apart) (tgt := 102) dX12_apart_57 (by decide), w_aload_n0 (M := mX12_apart) dX12_apart_60, w_iload7 (M := mX12_apart) dX12_apart_61, w_iload8 (M := mX12_apart) dX12_apart_63, w_iload_n1 (M := mX12_apart) dX12_apart_65, w_iload_n2 (M := mX12_apart) dX12_apart_66, w_iload_n3 (M := mX12_apart) dX12_apart_67, w_iload4 (M := mX12_apart) dX12_apart_68, c_12_598 (M := mX12_apart) dX12_apart_70 rfl, w_iconst (M := mX12_apart) (v := (-1)) dX12_apart_73 rfl, w_ic_eq (M := mX12_apart) (tgt := 96) dX12_apart_74 (by decide), w_iload6 (M := mX12_apart) dX12_apart_77, w_iload5 (M := mX12_apart) dX12_apart_79, w_ic_ne (M := mX12_apart) (tgt := 93) dX12_apart_81 (by decide), w_bipush (M := mX12_apart) (v := 25) dX12_apart_84 rfl, w_iload7 (M := mX12_apart) dX12_apart_86, w_imul (M := mX12_apart) dX12_apart_88, w_iload8 (M := mX12_apart) dX12_apart_89, w_iadd (M := mX12_apart) dX12_apart_91, w_iret (M := mX12_apart) dX12_apart_92 rfl, w_iinc6 (M := mX12_apart) (v := 1) dX12_apart_93 rfl (by decide), w_iinc8 (M := mX12_apart) (v := 1) dX12_apart_96 rfl (by decide), w_goto (M := mX12_apart) (tgt := 53) dX12_apart_99 (by decide), Kn_v_, Kn_n_, kl_i_, kl_a_, kl_l_, kl_n_, s1_0_, s2_0_, s1_1, s1_2, s1_3, s1_4, s1_5, s1_6, s1_7, s1_8, s1_9, s1_10, s1_11, s1_12, s1_13, s1_14, s2_1, s2_2, s2_3, s2_4, s2_5, s2_6, s2_7, s2_8, s2_9, s2_10, s2_11, s2_12, s2_13, s2_14, List.map_nil, List.map_cons, List.sum_nil, List.sum_cons, ct_i_, ct_r_, ct_l_, t_si_, t_sl_, t_sr_, n_si_, n_sl_, n_sr_, i_si_, i_sl_, i_sr_, l_si_, l_sl_, l_sr_, r_si_, r_sl_, r_sr_, vr_s_, vr_n_, nz_0_, nz_1_, hRs.e.1, lt, c1, n1, mm]
          · obtain ⟨y', z1, z2⟩ := ih1 (w1 + 1) s1 (j + 1) (by omega) f2 (by omega) (fun j' hj => by
              by_cases z : j' = j
              · rw [z]; omega
              · have := lo j' (by omega); omega) (fun j' h1 h2 => by
              have := fl3 j j' (by omega) h2
              omega) (fun x hx => by
              by_cases z : x = j
              · rw [z]; exact ev
              · exact nv x (by omega))
            refine ⟨y', fun Q => ?_, z2⟩
            have z1' := z1 Q
            have ev' : ¬ nI j = v := fun z => ev z.symm
            rw [w_iload8 (M := mX12_apart) dX12_apart_53]
            simp [w_bipush (M := mX12_apart) (v := 25) dX12_apart_55 rfl, w_ic_ge (M := mX12_apart) (tgt := 102) dX12_apart_57 (by decide), w_aload_n0 (M := mX12_apart) dX12_apart_60, w_iload7 (M := mX12_apart) dX12_apart_61, w_iload8 (M := mX12_apart) dX12_apart_63, w_iload_n1 (M := mX12_apart) dX12_apart_65, w_iload_n2 (M := mX12_apart) dX12_apart_66, w_iload_n3 (M := mX12_apart) dX12_apart_67, w_iload4 (M := mX12_apart) dX12_apart_68, c_12_598 (M := mX12_apart) dX12_apart_70 rfl, w_iconst (M := mX12_apart) (v := (-1)) dX12_apart_73 rfl, w_ic_eq (M := mX12_apart) (tgt := 96) dX12_apart_74 (by decide), w_iload6 (M := mX12_apart) dX12_apart_77, w_iload5 (M := mX12_apart) dX12_apart_79, w_ic_ne (M := mX12_apart) (tgt := 93) dX12_apart_81 (by decide), w_bipush (M := mX12_apart) (v := 25) dX12_apart_84 rfl, w_iload7 (M := mX12_apart) dX12_apart_86, w_imul (M := mX12_apart) dX12_apart_88, w_iload8 (M := mX12_apart) dX12_apart_89, w_iadd (M := mX12_apart) dX12_apart_91, w_iret (M := mX12_apart) dX12_apart_92 rfl, w_iinc6 (M := mX12_apart) (v := 1) dX12_apart_93 rfl (by decide), w_iinc8 (M := mX12_apart) (v := 1) dX12_apart_96 rfl (by decide), w_goto (M := mX12_apart) (tgt := 53) dX12_apart_99 (by decide), Kn_v_, Kn_n_, kl_i_, kl_a_, kl_l_, kl_n_, s1_0_, s2_0_, s1_1, s1_2, s1_3, s1_4, s1_5, s1_6, s1_7, s1_8, s1_9, s1_10, s1_11, s1_12, s1_13, s1_14, s2_1, s2_2, s2_3, s2_4, s2_5, s2_6, s2_7, s2_8, s2_9, s2_10, s2_11, s2_12, s2_13, s2_14, List.map_nil, List.map_cons, List.sum_nil, List.sum_cons, ct_i_, ct_r_, ct_l_, t_si_, t_sl_, t_sr_, n_si_, n_sl_, n_sr_, i_si_, i_sl_, i_sr_, l_si_, l_sl_, l_sr_, r_si_, r_sl_, r_sr_, vr_s_, vr_n_, nz_0_, nz_1_, hRs.e.1, lt, c1, n1, ev', nI_s, z1']
    obtain ⟨y', z1, z2⟩ := inner 25 0 s c (by omega) f cK (fun j hj => by have := lo j hj; omega) (fun j h1 h2 => by have := hi j h1 h2; omega) nv
    refine ⟨y', fun Q => ?_, z2⟩
    have z1' : WP (d + 6) mX12_apart 53 [some (.ref 126), some (.int (nI a)), some (.int (nI b)), some (.int (nI L)), some (.int (nI S)), some (.int v), some (.int (nI c)), some (.int (nI w0)), some (.int 0)] [] s Q = _ := z1 Q
    rw [w_iload7 (M := mX12_apart) dX12_apart_43]
    simp [w_bipush (M := mX12_apart) (v := 25) dX12_apart_45 rfl, w_ic_ge (M := mX12_apart) (tgt := 108) dX12_apart_47 (by decide), w_iconst (M := mX12_apart) (v := 0) dX12_apart_50 rfl, w_istore (M := mX12_apart) dX12_apart_51 (by decide), Kn_v_, Kn_n_, kl_i_, kl_a_, kl_l_, kl_n_, s1_0_, s2_0_, s1_1, s1_2, s1_3, s1_4, s1_5, s1_6, s1_7, s1_8, s1_9, s1_10, s1_11, s1_12, s1_13, s1_14, s2_1, s2_2, s2_3, s2_4, s2_5, s2_6, s2_7, s2_8, s2_9, s2_10, s2_11, s2_12, s2_13, s2_14, List.map_nil, List.map_cons, List.sum_nil, List.sum_cons, ct_i_, ct_r_, ct_l_, t_si_, t_sl_, t_sr_, n_si_, n_sl_, n_sr_, i_si_, i_sl_, i_sr_, l_si_, l_sl_, l_sr_, r_si_, r_sl_, r_sr_, vr_s_, vr_n_, nz_0_, nz_1_, show (nI w0 < 25) = True from nI_ltT (b := 25) (by omega) (by omega), z1']
set_option maxRecDepth 20000 in
set_option maxHeartbeats 4000000 in
theorem op_apart (k : Inv XP h) {v0 v1 v2 v3 v4 : Int32} : opS XP (d + 6) mX11_apart mX12_apart [.ref 0, .int v0, .int v1, .int v2, .int v3, .int v4] [.ref 126, .int v0, .int v1, .int v2, .int v3, .int v4] h := by
  have hC := k.1.1
  have hR := k.1.2.1
  by_cases c : inn v0 0 60 = true ∧ inn v1 0 60 = true ∧ inn v2 1 99 = true ∧ inn v3 0 99 = true ∧ ¬ v4 < -1
  · obtain ⟨c2, c3, c4, c5, c6⟩ := c
    obtain ⟨a, x5, x6, rfl⟩ := inn_n c2 (a := 0) (b := 60) rfl rfl (by omega) (by omega)
    obtain ⟨b, x7, x8, rfl⟩ := inn_n c3 (a := 0) (b := 60) rfl rfl (by omega) (by omega)
    obtain ⟨L, x9, x10, rfl⟩ := inn_n c4 (a := 1) (b := 99) rfl rfl (by omega) (by omega)
    obtain ⟨S, x11, x12, rfl⟩ := inn_n c5 (a := 0) (b := 99) rfl rfl (by omega) (by omega)
    obtain ⟨q, y0, e0, k0, q1, q2, i0⟩ := q_X11_pairNow (d := d + 4) k
    obtain ⟨z2, z3, z4, z5, z6⟩ := k0.pr q2
    obtain ⟨y1, e1, s1, l1, p1, p2, p3, p4, f1, u1⟩ := q_X6_set (d := d + 5) z5 (v1 := nI a) (v2 := nI b) (v3 := nI L) (v4 := nI S)
    have sP1 : shP (a_t y1) (a_r y1) q := by rw [s1.1, s1.2.1]; exact z5
    have ea : (1 : Int32) + nI a = nI (1 + a) := nI_a (a := 1)
    have eb : (1 : Int32) + nI b = nI (1 + b) := nI_a (a := 1)
    have ax1 := set_ap z6 p1 p2 p3 p4 f1 u1
    obtain ⟨y2, K, row, e2, g2, K2, i12, i15, fl⟩ := q_X6_findApart (d := d + 1) sP1 ax1 x6 x8 x9 x10 x12 (by rw [p1, ea]) (by rw [p2, eb]) p3 p4
    have io : ∀ p j, p = q + 2 ∨ (p = q ∧ (j = 2 ∨ j = 3)) → a_i y2 p j = a_i y1 p j := fun p j cc => g2.2.2 p j (fun z => by unfold pca pcl at z; omega)
    have k2 : Inv XP y2 := by
      refine Inv_prc k0 q2 (s1.tr g2.1) (g2.2.1.trans l1) (fun p j cc => by rw [g2.2.2 p j (fun z => by unfold pca pcl at z; omega), f1 p j (by omega) (by omega)]) ?_
      exact Or.inr ⟨a, b, L, S, K, row, x6, x8, x10, x12, by rw [io _ _ (by omega), p1, ea], by rw [io _ _ (by omega), p2, eb], by rw [io _ _ (by omega)]; exact p3, by rw [io _ _ (by omega)]; exact p4, K2, i12, i15, fl⟩
    have sP2 : shP (a_t y2) (a_r y2) q := by rw [g2.1.1, g2.1.2.1]; exact sP1
    have q11 : ∀ Q, Cal (d + 5) mX11_pairNow [.ref 0] h Q = Q (some (.ref q)) y0 := e0
    have e2' : ∀ Q, Cal (d + 5) mX6_findApart [.ref q] y1 Q = Q none y2 := e2
    -- the class's answer
    obtain ⟨R, hRR, eC⟩ : ∃ R, apR v4 K row R ∧ ∀ Q, Cal (d + 6) mX11_apart [.ref 0, .int (nI a), .int (nI b), .int (nI L), .int (nI S), .int v4] h Q = Q (some (.int R)) y2 := by
      have sP3 := sP2
      unfold shP at sP3
      by_cases v1 : v4 = -1
      · refine ⟨nI K, ⟨fun x hx ev => ?_, fun _ => by rw [if_pos v1]⟩, fun Q => ?_⟩
        · rw [v1] at ev
          have := nI_n1 (a := x) (by omega)
          rw [← ev] at this
          exact absurd rfl (of_eq_false this)
        · rw [v1]
          unfold Cal
          rw [l_X11_apart]
          simp only [am_en, am_ag, ct_i, ct_r, ct_l, List.length_cons, List.length_nil, List.replicate]
          simp [w_iload_n1 (M := mX11_apart) dX11_apart_0, w_iload_n2 (M := mX11_apart) dX11_apart_1, w_iload_n3 (M := mX11_apart) dX11_apart_2, w_iload4 (M := mX11_apart) dX11_apart_3, c_11_331 (M := mX11_apart) dX11_apart_5 rfl, w_if_eq (M := mX11_apart) (tgt := 17) dX11_apart_8 (by decide), w_iload5 (M := mX11_apart) dX11_apart_11, w_iconst (M := mX11_apart) (v := (-1)) dX11_apart_13 rfl, w_ic_ge (M := mX11_apart) (tgt := 19) dX11_apart_14 (by decide), w_iconst (M := mX11_apart) (v := (-1)) dX11_apart_17 rfl, w_iret (M := mX11_apart) dX11_apart_18 rfl, w_aload_n0 (M := mX11_apart) dX11_apart_19, c_11_335 (M := mX11_apart) dX11_apart_20 rfl, w_astore (M := mX11_apart) dX11_apart_23 (by decide), w_aload6 (M := mX11_apart) dX11_apart_25, w_iload_n1 (M := mX11_apart) dX11_apart_27, w_iload_n2 (M := mX11_apart) dX11_apart_28, w_iload_n3 (M := mX11_apart) dX11_apart_29, w_iload4 (M := mX11_apart) dX11_apart_30, c_11_339 (M := mX11_apart) dX11_apart_32 rfl, w_aload6 (M := mX11_apart) dX11_apart_35, c_11_348 (M := mX11_apart) dX11_apart_37 rfl, w_iload5 (M := mX11_apart) dX11_apart_40, w_iconst (M := mX11_apart) (v := (-1)) dX11_apart_42 rfl, w_ic_ne (M := mX11_apart) (tgt := 52) dX11_apart_43 (by decide), w_aload6 (M := mX11_apart) dX11_apart_46, w_getI (M := mX11_apart) dX11_apart_48 f_11_351 rfl (by decide) (by decide), w_iret (M := mX11_apart) dX11_apart_51 rfl, w_iload5 (M := mX11_apart) dX11_apart_52, w_aload6 (M := mX11_apart) dX11_apart_54, w_getI (M := mX11_apart) dX11_apart_56 f_11_351 rfl (by decide) (by decide), w_ic_ge (M := mX11_apart) (tgt := 73) dX11_apart_59 (by decide), w_aload6 (M := mX11_apart) dX11_apart_62, w_getA (M := mX11_apart) dX11_apart_64 f_11_354 rfl (by decide) (by decide), w_iload5 (M := mX11_apart) dX11_apart_67, w_iaload (M := mX11_apart) dX11_apart_69, w_goto (M := mX11_apart) (tgt := 74) dX11_apart_70 (by decide), w_iconst (M := mX11_apart) (v := (-1)) dX11_apart_73 rfl, w_iret (M := mX11_apart) dX11_apart_74 rfl, Kn_v_, Kn_n_, kl_i_, kl_a_, kl_l_, kl_n_, s1_0_, s2_0_, s1_1, s1_2, s1_3, s1_4, s1_5, s1_6, s1_7, s1_8, s1_9, s1_10, s1_11, s1_12, s1_13, s1_14, s2_1, s2_2, s2_3, s2_4, s2_5, s2_6, s2_7, s2_8, s2_9, s2_10, s2_11, s2_12, s2_13, s2_14, List.map_nil, List.map_cons, List.sum_nil, List.sum_cons, ct_i_, ct_r_, ct_l_, t_si_, t_sl_, t_sr_, n_si_, n_sl_, n_sr_, i_si_, i_sl_, i_sr_, l_si_, l_sl_, l_sr_, r_si_, r_sl_, r_sr_, vr_s_, vr_n_, nz_0_, nz_1_, q_X11_arePairNumbers, hC.e.1, c2, c3, c4, c5, q11, z5.1, e1, sP1.1, e2', sP2.1, i12]
      · by_cases lt : v4 < nI K
        · have v0 : 0 ≤ v4.toInt := by
            have z1 : ¬ v4.toInt < -1 := fun z => c6 (by rw [i_lt]; exact z)
            have z2 : ¬ v4.toInt = -1 := fun z => v1 (Int32.toInt_inj.mp z)
            omega
          obtain ⟨x, ex, ex2⟩ : ∃ x : Nat, v4 = nI x ∧ x < K := by
            rw [i_lt, nI_i (by omega)] at lt
            refine ⟨v4.toInt.toNat, Int32.toInt_inj.mp ?_, by omega⟩
            rw [nI_i (by omega)]
            omega
          refine ⟨nI (row x), ⟨fun x' hx' ev => ?_, fun z => absurd ex (z x ex2)⟩, fun Q => ?_⟩
          · rw [ex, nI_inj (by omega) (by omega)] at ev
            rw [ev]
          · rw [ex] at lt c6 ⊢
            have n1 : (nI x = -1) = False := nI_n1 (by omega)
            unfold Cal
            rw [l_X11_apart]
            simp only [am_en, am_ag, ct_i, ct_r, ct_l, List.length_cons, List.length_nil, List.replicate]
            simp [w_iload_n1 (M := mX11_apart) dX11_apart_0, w_iload_n2 (M := mX11_apart) dX11_apart_1, w_iload_n3 (M := mX11_apart) dX11_apart_2, w_iload4 (M := mX11_apart) dX11_apart_3, c_11_331 (M := mX11_apart) dX11_apart_5 rfl, w_if_eq (M := mX11_apart) (tgt := 17) dX11_apart_8 (by decide), w_iload5 (M := mX11_apart) dX11_apart_11, w_iconst (M := mX11_apart) (v := (-1)) dX11_apart_13 rfl, w_ic_ge (M := mX11_apart) (tgt := 19) dX11_apart_14 (by decide), w_iconst (M := mX11_apart) (v := (-1)) dX11_apart_17 rfl, w_iret (M := mX11_apart) dX11_apart_18 rfl, w_aload_n0 (M := mX11_apart) dX11_apart_19, c_11_335 (M := mX11_apart) dX11_apart_20 rfl, w_astore (M := mX11_apart) dX11_apart_23 (by decide), w_aload6 (M := mX11_apart) dX11_apart_25, w_iload_n1 (M := mX11_apart) dX11_apart_27, w_iload_n2 (M := mX11_apart) dX11_apart_28, w_iload_n3 (M := mX11_apart) dX11_apart_29, w_iload4 (M := mX11_apart) dX11_apart_30, c_11_339 (M := mX11_apart) dX11_apart_32 rfl, w_aload6 (M := mX11_apart) dX11_apart_35, c_11_348 (M := mX11_apart) dX11_apart_37 rfl, w_iload5 (M := mX11_apart) dX11_apart_40, w_iconst (M := mX11_apart) (v := (-1)) dX11_apart_42 rfl, w_ic_ne (M := mX11_apart) (tgt := 52) dX11_apart_43 (by decide), w_aload6 (M := mX11_apart) dX11_apart_46, w_getI (M := mX11_apart) dX11_apart_48 f_11_351 rfl (by decide) (by decide), w_iret (M := mX11_apart) dX11_apart_51 rfl, w_iload5 (M := mX11_apart) dX11_apart_52, w_aload6 (M := mX11_apart) dX11_apart_54, w_getI (M := mX11_apart) dX11_apart_56 f_11_351 rfl (by decide) (by decide), w_ic_ge (M := mX11_apart) (tgt := 73) dX11_apart_59 (by decide), w_aload6 (M := mX11_apart) dX11_apart_62, w_getA (M := mX11_apart) dX11_apart_64 f_11_354 rfl (by decide) (by decide), w_iload5 (M := mX11_apart) dX11_apart_67, w_iaload (M := mX11_apart) dX11_apart_69, w_goto (M := mX11_apart) (tgt := 74) dX11_apart_70 (by decide), w_iconst (M := mX11_apart) (v := (-1)) dX11_apart_73 rfl, w_iret (M := mX11_apart) dX11_apart_74 rfl, Kn_v_, Kn_n_, kl_i_, kl_a_, kl_l_, kl_n_, s1_0_, s2_0_, s1_1, s1_2, s1_3, s1_4, s1_5, s1_6, s1_7, s1_8, s1_9, s1_10, s1_11, s1_12, s1_13, s1_14, s2_1, s2_2, s2_3, s2_4, s2_5, s2_6, s2_7, s2_8, s2_9, s2_10, s2_11, s2_12, s2_13, s2_14, List.map_nil, List.map_cons, List.sum_nil, List.sum_cons, ct_i_, ct_r_, ct_l_, t_si_, t_sl_, t_sr_, n_si_, n_sl_, n_sr_, i_si_, i_sl_, i_sr_, l_si_, l_sl_, l_sr_, r_si_, r_sl_, r_sr_, vr_s_, vr_n_, nz_0_, nz_1_, q_X11_arePairNumbers, hC.e.1, c2, c3, c4, c5, c6, q11, z5.1, e1, sP1.1, e2', sP3, i12, n1, lt, in1_n (k := x) (n := 625) (by omega), show x < 625 by omega, nI_c (a := x) (by omega), i15 x ex2]
        · refine ⟨-1, ⟨fun x hx ev => ?_, fun _ => by rw [if_neg v1]⟩, fun Q => ?_⟩
          · rw [ev] at lt
            exact absurd (nI_lt hx (by omega)) lt
          · unfold Cal
            rw [l_X11_apart]
            simp only [am_en, am_ag, ct_i, ct_r, ct_l, List.length_cons, List.length_nil, List.replicate]
            simp [w_iload_n1 (M := mX11_apart) dX11_apart_0, w_iload_n2 (M := mX11_apart) dX11_apart_1, w_iload_n3 (M := mX11_apart) dX11_apart_2, w_iload4 (M := mX11_apart) dX11_apart_3, c_11_331 (M := mX11_apart) dX11_apart_5 rfl, w_if_eq (M := mX11_apart) (tgt := 17) dX11_apart_8 (by decide), w_iload5 (M := mX11_apart) dX11_apart_11, w_iconst (M := mX11_apart) (v := (-1)) dX11_apart_13 rfl, w_ic_ge (M := mX11_apart) (tgt := 19) dX11_apart_14 (by decide), w_iconst (M := mX11_apart) (v := (-1)) dX11_apart_17 rfl, w_iret (M := mX11_apart) dX11_apart_18 rfl, w_aload_n0 (M := mX11_apart) dX11_apart_19, c_11_335 (M := mX11_apart) dX11_apart_20 rfl, w_astore (M := mX11_apart) dX11_apart_23 (by decide), w_aload6 (M := mX11_apart) dX11_apart_25, w_iload_n1 (M := mX11_apart) dX11_apart_27, w_iload_n2 (M := mX11_apart) dX11_apart_28, w_iload_n3 (M := mX11_apart) dX11_apart_29, w_iload4 (M := mX11_apart) dX11_apart_30, c_11_339 (M := mX11_apart) dX11_apart_32 rfl, w_aload6 (M := mX11_apart) dX11_apart_35, c_11_348 (M := mX11_apart) dX11_apart_37 rfl, w_iload5 (M := mX11_apart) dX11_apart_40, w_iconst (M := mX11_apart) (v := (-1)) dX11_apart_42 rfl, w_ic_ne (M := mX11_apart) (tgt := 52) dX11_apart_43 (by decide), w_aload6 (M := mX11_apart) dX11_apart_46, w_getI (M := mX11_apart) dX11_apart_48 f_11_351 rfl (by decide) (by decide), w_iret (M := mX11_apart) dX11_apart_51 rfl, w_iload5 (M := mX11_apart) dX11_apart_52, w_aload6 (M := mX11_apart) dX11_apart_54, w_getI (M := mX11_apart) dX11_apart_56 f_11_351 rfl (by decide) (by decide), w_ic_ge (M := mX11_apart) (tgt := 73) dX11_apart_59 (by decide), w_aload6 (M := mX11_apart) dX11_apart_62, w_getA (M := mX11_apart) dX11_apart_64 f_11_354 rfl (by decide) (by decide), w_iload5 (M := mX11_apart) dX11_apart_67, w_iaload (M := mX11_apart) dX11_apart_69, w_goto (M := mX11_apart) (tgt := 74) dX11_apart_70 (by decide), w_iconst (M := mX11_apart) (v := (-1)) dX11_apart_73 rfl, w_iret (M := mX11_apart) dX11_apart_74 rfl, Kn_v_, Kn_n_, kl_i_, kl_a_, kl_l_, kl_n_, s1_0_, s2_0_, s1_1, s1_2, s1_3, s1_4, s1_5, s1_6, s1_7, s1_8, s1_9, s1_10, s1_11, s1_12, s1_13, s1_14, s2_1, s2_2, s2_3, s2_4, s2_5, s2_6, s2_7, s2_8, s2_9, s2_10, s2_11, s2_12, s2_13, s2_14, List.map_nil, List.map_cons, List.sum_nil, List.sum_cons, ct_i_, ct_r_, ct_l_, t_si_, t_sl_, t_sr_, n_si_, n_sl_, n_sr_, i_si_, i_sl_, i_sr_, l_si_, l_sl_, l_sr_, r_si_, r_sl_, r_sr_, vr_s_, vr_n_, nz_0_, nz_1_, q_X11_arePairNumbers, hC.e.1, c2, c3, c4, c5, c6, q11, z5.1, e1, sP1.1, e2', sP2.1, i12, v1, lt]
    obtain ⟨y3, e3, f3⟩ := q_X12_apart (d := d) k2.1.2.1 x6 x8 x9 x10 x12 K2 fl hRR 25 0 y2 0 none (by omega) rlf.refl (by omega) (fun j hj => by omega) (fun j h1 h2 => by omega) (fun x hx => by omega)
    refine ⟨R, y2, y3, eC, fun Q => ?_, rlf.sc k2 f3⟩
    have e3' : WP (d + 6) mX12_apart 43 [some (.ref 126), some (.int (nI a)), some (.int (nI b)), some (.int (nI L)), some (.int (nI S)), some (.int v4), some (.int 0), some (.int 0), none] [] y2 Q = _ := e3 Q
    unfold Cal
    rw [l_X12_apart]
    simp only [am_en, am_ag, ct_i, ct_r, ct_l, List.length_cons, List.length_nil, List.replicate]
    simp [w_iload_n1 (M := mX12_apart) dX12_apart_0, w_iload_n2 (M := mX12_apart) dX12_apart_1, c_12_595 (M := mX12_apart) dX12_apart_2 rfl, w_if_eq (M := mX12_apart) (tgt := 35) dX12_apart_5 (by decide), w_iload_n3 (M := mX12_apart) dX12_apart_8, w_iconst (M := mX12_apart) (v := 1) dX12_apart_9 rfl, w_bipush (M := mX12_apart) (v := 99) dX12_apart_10 rfl, c_12_173 (M := mX12_apart) dX12_apart_12 rfl, w_if_eq (M := mX12_apart) (tgt := 35) dX12_apart_15 (by decide), w_iload4 (M := mX12_apart) dX12_apart_18, w_iconst (M := mX12_apart) (v := 0) dX12_apart_20 rfl, w_bipush (M := mX12_apart) (v := 99) dX12_apart_21 rfl, c_12_173 (M := mX12_apart) dX12_apart_23 rfl, w_if_eq (M := mX12_apart) (tgt := 35) dX12_apart_26 (by decide), w_iload5 (M := mX12_apart) dX12_apart_29, w_iconst (M := mX12_apart) (v := (-1)) dX12_apart_31 rfl, w_ic_ge (M := mX12_apart) (tgt := 37) dX12_apart_32 (by decide), w_iconst (M := mX12_apart) (v := (-1)) dX12_apart_35 rfl, w_iret (M := mX12_apart) dX12_apart_36 rfl, w_iconst (M := mX12_apart) (v := 0) dX12_apart_37 rfl, w_istore (M := mX12_apart) dX12_apart_38 (by decide), w_iconst (M := mX12_apart) (v := 0) dX12_apart_40 rfl, w_istore (M := mX12_apart) dX12_apart_41 (by decide), Kn_v_, Kn_n_, kl_i_, kl_a_, kl_l_, kl_n_, s1_0_, s2_0_, s1_1, s1_2, s1_3, s1_4, s1_5, s1_6, s1_7, s1_8, s1_9, s1_10, s1_11, s1_12, s1_13, s1_14, s2_1, s2_2, s2_3, s2_4, s2_5, s2_6, s2_7, s2_8, s2_9, s2_10, s2_11, s2_12, s2_13, s2_14, List.map_nil, List.map_cons, List.sum_nil, List.sum_cons, ct_i_, ct_r_, ct_l_, t_si_, t_sl_, t_sr_, n_si_, n_sl_, n_sr_, i_si_, i_sl_, i_sr_, l_si_, l_sl_, l_sr_, r_si_, r_sl_, r_sr_, vr_s_, vr_n_, nz_0_, nz_1_, bI_0, bI_n, bI_t, bI_f, q_X12_in, q_X12_isLine, k2.1.2.1, c2, c3, c4, c5, c6, e3']
  · refine both0.S ⟨-1, fun Q => ?_, fun Q => ?_⟩ k
    · unfold Cal
      rw [l_X11_apart]
      simp only [am_en, am_ag, ct_i, ct_r, ct_l, List.length_cons, List.length_nil, List.replicate]
      by_cases c2 : inn v0 0 60 = true <;> by_cases c3 : inn v1 0 60 = true <;> by_cases c4 : inn v2 1 99 = true <;> by_cases c5 : inn v3 0 99 = true <;> by_cases c6 : v4 < -1 <;> simp [c2, c3, c4, c5, c6] at c <;> simp [w_iload_n1 (M := mX11_apart) dX11_apart_0, w_iload_n2 (M := mX11_apart) dX11_apart_1, w_iload_n3 (M := mX11_apart) dX11_apart_2, w_iload4 (M := mX11_apart) dX11_apart_3, c_11_331 (M := mX11_apart) dX11_apart_5 rfl, w_if_eq (M := mX11_apart) (tgt := 17) dX11_apart_8 (by decide), w_iload5 (M := mX11_apart) dX11_apart_11, w_iconst (M := mX11_apart) (v := (-1)) dX11_apart_13 rfl, w_ic_ge (M := mX11_apart) (tgt := 19) dX11_apart_14 (by decide), w_iconst (M := mX11_apart) (v := (-1)) dX11_apart_17 rfl, w_iret (M := mX11_apart) dX11_apart_18 rfl, Kn_v_, Kn_n_, kl_i_, kl_a_, kl_l_, kl_n_, s1_0_, s2_0_, s1_1, s1_2, s1_3, s1_4, s1_5, s1_6, s1_7, s1_8, s1_9, s1_10, s1_11, s1_12, s1_13, s1_14, s2_1, s2_2, s2_3, s2_4, s2_5, s2_6, s2_7, s2_8, s2_9, s2_10, s2_11, s2_12, s2_13, s2_14, List.map_nil, List.map_cons, List.sum_nil, List.sum_cons, ct_i_, ct_r_, ct_l_, t_si_, t_sl_, t_sr_, n_si_, n_sl_, n_sr_, i_si_, i_sl_, i_sr_, l_si_, l_sl_, l_sr_, r_si_, r_sl_, r_sr_, vr_s_, vr_n_, nz_0_, nz_1_, q_X11_arePairNumbers, c2, c3, c4, c5, c6]
    · unfold Cal
      rw [l_X12_apart]
      simp only [am_en, am_ag, ct_i, ct_r, ct_l, List.length_cons, List.length_nil, List.replicate]
      by_cases c2 : inn v0 0 60 = true <;> by_cases c3 : inn v1 0 60 = true <;> by_cases c4 : inn v2 1 99 = true <;> by_cases c5 : inn v3 0 99 = true <;> by_cases c6 : v4 < -1 <;> simp [c2, c3, c4, c5, c6] at c <;> simp [w_iload_n1 (M := mX12_apart) dX12_apart_0, w_iload_n2 (M := mX12_apart) dX12_apart_1, c_12_595 (M := mX12_apart) dX12_apart_2 rfl, w_if_eq (M := mX12_apart) (tgt := 35) dX12_apart_5 (by decide), w_iload_n3 (M := mX12_apart) dX12_apart_8, w_iconst (M := mX12_apart) (v := 1) dX12_apart_9 rfl, w_bipush (M := mX12_apart) (v := 99) dX12_apart_10 rfl, c_12_173 (M := mX12_apart) dX12_apart_12 rfl, w_if_eq (M := mX12_apart) (tgt := 35) dX12_apart_15 (by decide), w_iload4 (M := mX12_apart) dX12_apart_18, w_iconst (M := mX12_apart) (v := 0) dX12_apart_20 rfl, w_bipush (M := mX12_apart) (v := 99) dX12_apart_21 rfl, c_12_173 (M := mX12_apart) dX12_apart_23 rfl, w_if_eq (M := mX12_apart) (tgt := 35) dX12_apart_26 (by decide), w_iload5 (M := mX12_apart) dX12_apart_29, w_iconst (M := mX12_apart) (v := (-1)) dX12_apart_31 rfl, w_ic_ge (M := mX12_apart) (tgt := 37) dX12_apart_32 (by decide), w_iconst (M := mX12_apart) (v := (-1)) dX12_apart_35 rfl, w_iret (M := mX12_apart) dX12_apart_36 rfl, Kn_v_, Kn_n_, kl_i_, kl_a_, kl_l_, kl_n_, s1_0_, s2_0_, s1_1, s1_2, s1_3, s1_4, s1_5, s1_6, s1_7, s1_8, s1_9, s1_10, s1_11, s1_12, s1_13, s1_14, s2_1, s2_2, s2_3, s2_4, s2_5, s2_6, s2_7, s2_8, s2_9, s2_10, s2_11, s2_12, s2_13, s2_14, List.map_nil, List.map_cons, List.sum_nil, List.sum_cons, ct_i_, ct_r_, ct_l_, t_si_, t_sl_, t_sr_, n_si_, n_sl_, n_sr_, i_si_, i_sl_, i_sr_, l_si_, l_sl_, l_sr_, r_si_, r_sl_, r_sr_, vr_s_, vr_n_, nz_0_, nz_1_, bI_0, bI_n, bI_t, bI_f, q_X12_in, q_X12_isLine, hR, c2, c3, c4, c5, c6]
end OPAPART
