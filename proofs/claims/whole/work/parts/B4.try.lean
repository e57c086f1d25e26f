/-! a rule that is tried: both sides -/
section TRY
variable {X : PX} {e n m j i T r c d K Z t : Nat} {s x : TS} {h0 h h1 y : am_h} {b0 v0 : Int32} {u : Nat → Int32} {VW VS VL : (Nat → Int32) → Int32 → Int32} {g : Nat → Int32} {Q : Option Value → am_h → Prop}
/-- near: but for scratch -/
def near (h y : am_h) : Prop := a_t y = a_t h ∧ y.1 = h.1 ∧ (∀ q j, ¬ (q = 91 ∧ j = 0) → a_r y q j = a_r h q j) ∧ (∀ q j, ¬ scr q j → a_i y q j = a_i h q j) ∧ ∀ q, q < 67 ∨ 177 ≤ q → a_l y q 13 = a_l h q 13
theorem near.refl : near h h := ⟨rfl, rfl, fun _ _ _ => rfl, fun _ _ _ => rfl, fun _ _ => rfl⟩
theorem near.tr {z : am_h} (a : near h y) (b : near y z) : near h z := ⟨b.1.trans a.1, b.2.1.trans a.2.1, fun q j c => (b.2.2.1 q j c).trans (a.2.2.1 q j c), fun q j c => (b.2.2.2.1 q j c).trans (a.2.2.2.1 q j c), fun q c => (b.2.2.2.2 q c).trans (a.2.2.2.2 q c)⟩
theorem near.Iv (k : Inv X h) (a : near h y) : Inv X y := Inv_scr k a.1 a.2.1 a.2.2.1 a.2.2.2.1 a.2.2.2.2
/-- what rules, by the numbers -/
def rlO (g : Nat → Int32) : Option Nat := if g 2 = -1 then none else some (94 + 8 * Nn (g 2))
theorem near.sC (hC : sh_C (a_t h) (a_r h)) (a : near h y) : sh_C (a_t y) (a_r y) := sh_C_fr (fun q _ => by rw [a.1]) (fun q j _ c => a.2.2.1 q j (by omega)) hC
theorem near.sR (hR : sh_R (a_t h) (a_r h)) (a : near h y) : sh_R (a_t y) (a_r y) := sh_R_fr (fun q _ => by rw [a.1]) (fun q j _ c => a.2.2.1 q j (by omega)) hR
theorem near.LX (a : near h y) {w : Nat} {V : (Nat → Int32) → Int32 → Int32} (hr : a_r h 91 0 = a_r y 91 0) (L : LX h w V) : LX y w V := by
  have rr : a_r y = a_r h := by
    funext q j
    by_cases c : q = 91 ∧ j = 0
    · rw [c.1, c.2]; exact hr.symm
    · exact a.2.2.1 q j c
  exact LX_fr a.1 rr (fun q j c => a.2.2.2.1 q j (by unfold scr; omega)) (a.2.2.2.1 127 2 (by unfold scr; omega)) L
set_option maxRecDepth 20000 in
theorem q_total (hr : a_t h r = (20, 16)) : Cal d mX11_total [.ref r] h Q = Q (some (.int (itr (fun k a => a + a_i h r k) 0 16 0))) h := by
  have st : ∀ (i : Nat) (z : Int32 × Option Value), i < 16 → z.1 = itr (fun k a => a + a_i h r k) 0 i 0 → ∃ z' : Int32 × Option Value, (∀ Q, WP d mX11_total 10 [some (.ref r), some (.int z.1), some (.ref r), some (.int 16), some (.int (nI i)), z.2] [] h Q = WP d mX11_total 10 [some (.ref r), some (.int z'.1), some (.ref r), some (.int 16), some (.int (nI (i + 1))), z'.2] [] h Q) ∧ z'.1 = itr (fun k a => a + a_i h r k) 0 (i + 1) 0 := by
    intro i z hi hz
    refine ⟨(z.1 + a_i h r i, some (.int (a_i h r i))), fun Q => ?_, ?_⟩
    · rw [w_iload4 (M := mX11_total) dX11_total_10]
      simp [w_iload_n3 (M := mX11_total) dX11_total_12, w_ic_ge (M := mX11_total) (tgt := 33) dX11_total_13 (by decide), w_aload_n2 (M := mX11_total) dX11_total_16, w_iload4 (M := mX11_total) dX11_total_17, w_iaload (M := mX11_total) dX11_total_19, w_istore (M := mX11_total) dX11_total_20 (by decide), w_iload_n1 (M := mX11_total) dX11_total_22, w_iload5 (M := mX11_total) dX11_total_23, w_iadd (M := mX11_total) dX11_total_25, w_istore_n (M := mX11_total) (i := 1) dX11_total_26 rfl (by decide), w_iinc4 (M := mX11_total) (v := 1) dX11_total_27 rfl (by decide), w_goto (M := mX11_total) (tgt := 10) dX11_total_30 (by decide), Kn_v_, Kn_n_, kl_i_, kl_a_, kl_l_, kl_n_, s1_0_, s2_0_, s1_1, s1_2, s1_3, s1_4, s1_5, s1_6, s1_7, s1_8, s1_9, s1_10, s1_11, s1_12, s1_13, s1_14, s2_1, s2_2, s2_3, s2_4, s2_5, s2_6, s2_7, s2_8, s2_9, s2_10, s2_11, s2_12, s2_13, s2_14, List.map_nil, List.map_cons, List.sum_nil, List.sum_cons, ct_i_, ct_r_, ct_l_, t_si_, t_sl_, t_sr_, n_si_, n_sl_, n_sr_, i_si_, i_sl_, i_sr_, l_si_, l_sl_, l_sr_, r_si_, r_sl_, r_sr_, vr_s_, vr_n_, nz_0_, nz_1_, hr, show (nI i < 16) = True from nI_ltT (b := 16) hi (by omega), in1_n (k := i) (n := 16) (by omega), hi, nI_c (a := i) (by omega), nI_s]
    · rw [itr_snoc, ← hz, Nat.zero_add]
  obtain ⟨⟨z, o⟩, a1, a2⟩ := lp (W := fun i (z : Int32 × Option Value) Q => WP d mX11_total 10 [some (.ref r), some (.int z.1), some (.ref r), some (.int 16), some (.int (nI i)), z.2] [] h Q) (P := fun i z => z.1 = itr (fun k a => a + a_i h r k) 0 i 0) st 16 0 (0, none) (by omega) rfl
  have e1 := a1 Q
  simp only [] at a2
  have e0 : (0 : Int32) = nI 0 := rfl
  unfold Cal
  rw [l_X11_total]
  simp only [am_en, am_ag, ct_i, ct_r, ct_l, List.length_cons, List.length_nil, List.replicate]
  simp [w_iconst (M := mX11_total) (v := 0) dX11_total_0 rfl, w_istore_n (M := mX11_total) (i := 1) dX11_total_1 rfl (by decide), w_aload_n0 (M := mX11_total) dX11_total_2, w_astore_n (M := mX11_total) (i := 2) dX11_total_3 rfl (by decide), w_aload_n2 (M := mX11_total) dX11_total_4, w_alen (M := mX11_total) dX11_total_5, w_istore_n (M := mX11_total) (i := 3) dX11_total_6 rfl (by decide), w_iconst (M := mX11_total) (v := 0) dX11_total_7 rfl, w_istore (M := mX11_total) dX11_total_8 (by decide), Kn_v_, Kn_n_, kl_i_, kl_a_, kl_l_, kl_n_, s1_0_, s2_0_, s1_1, s1_2, s1_3, s1_4, s1_5, s1_6, s1_7, s1_8, s1_9, s1_10, s1_11, s1_12, s1_13, s1_14, s2_1, s2_2, s2_3, s2_4, s2_5, s2_6, s2_7, s2_8, s2_9, s2_10, s2_11, s2_12, s2_13, s2_14, List.map_nil, List.map_cons, List.sum_nil, List.sum_cons, ct_i_, ct_r_, ct_l_, t_si_, t_sl_, t_sr_, n_si_, n_sl_, n_sr_, i_si_, i_sl_, i_sr_, l_si_, l_sl_, l_sr_, r_si_, r_sl_, r_sr_, vr_s_, vr_n_, nz_0_, nz_1_, hr, show Int32.ofNat 16 = 16 from rfl]
  refine Eq.to_iff (Eq.trans e1 ?_)
  show WP d mX11_total 10 _ _ _ _ = _
  rw [w_iload4 (M := mX11_total) dX11_total_10]
  simp [w_iload_n3 (M := mX11_total) dX11_total_12, w_ic_ge (M := mX11_total) (tgt := 33) dX11_total_13 (by decide), w_aload_n2 (M := mX11_total) dX11_total_16, w_iload4 (M := mX11_total) dX11_total_17, w_iaload (M := mX11_total) dX11_total_19, w_istore (M := mX11_total) dX11_total_20 (by decide), w_iload_n1 (M := mX11_total) dX11_total_22, w_iload5 (M := mX11_total) dX11_total_23, w_iadd (M := mX11_total) dX11_total_25, w_istore_n (M := mX11_total) (i := 1) dX11_total_26 rfl (by decide), w_iinc4 (M := mX11_total) (v := 1) dX11_total_27 rfl (by decide), w_goto (M := mX11_total) (tgt := 10) dX11_total_30 (by decide), w_iload_n1 (M := mX11_total) dX11_total_33, w_iret (M := mX11_total) dX11_total_34 rfl, Kn_v_, Kn_n_, kl_i_, kl_a_, kl_l_, kl_n_, s1_0_, s2_0_, s1_1, s1_2, s1_3, s1_4, s1_5, s1_6, s1_7, s1_8, s1_9, s1_10, s1_11, s1_12, s1_13, s1_14, s2_1, s2_2, s2_3, s2_4, s2_5, s2_6, s2_7, s2_8, s2_9, s2_10, s2_11, s2_12, s2_13, s2_14, List.map_nil, List.map_cons, List.sum_nil, List.sum_cons, ct_i_, ct_r_, ct_l_, t_si_, t_sl_, t_sr_, n_si_, n_sl_, n_sr_, i_si_, i_sl_, i_sr_, l_si_, l_sl_, l_sr_, r_si_, r_sl_, r_sr_, vr_s_, vr_n_, nz_0_, nz_1_, show (nI 16 < 16) = False from eq_false (by decide), a2]
set_option maxRecDepth 20000 in
set_option maxHeartbeats 1000000 in
theorem q_forget (hp : shL (a_t h) (a_r h) 67) : ∃ h', (∀ Q, Cal d mX5_forgetCounts [.ref 67] h Q = Q none h') ∧ sm h h' ∧ a_l h' = a_l h ∧ (∀ k, k < 16 → a_i h' 69 k = 0 ∧ a_i h' 70 k = 0) ∧ ∀ q j, ¬ q = 69 → ¬ q = 70 → a_i h' q j = a_i h q j := by
  obtain ⟨p1, p2, p3, p4, p5, p6, p7, p8, p9, p10⟩ := hp
  have st : ∀ (i : Nat) (z : am_h), i < 16 → (sm h z ∧ a_l z = a_l h ∧ (∀ k, k < i → a_i z 69 k = 0 ∧ a_i z 70 k = 0) ∧ ∀ q j, ¬ q = 69 → ¬ q = 70 → a_i z q j = a_i h q j) → ∃ z', (∀ Q, WP d mX5_forgetCounts 2 [some (.ref 67), some (.int (nI i))] [] z Q = WP d mX5_forgetCounts 2 [some (.ref 67), some (.int (nI (i + 1)))] [] z' Q) ∧ (sm h z' ∧ a_l z' = a_l h ∧ (∀ k, k < i + 1 → a_i z' 69 k = 0 ∧ a_i z' 70 k = 0) ∧ ∀ q j, ¬ q = 69 → ¬ q = 70 → a_i z' q j = a_i h q j) := by
    intro i z hi ⟨z1, z2, z3, z4⟩
    have t0 : a_t z 67 = (5, 9) := by rw [z1.1]; exact p1
    have t2 : a_t z 69 = (20, 16) := by rw [z1.1]; exact p3
    have t3 : a_t z 70 = (20, 16) := by rw [z1.1]; exact p4
    have r2 : a_r z 67 6 = some 69 := by rw [z1.2.1]; exact p8
    have r3 : a_r z 67 7 = some 70 := by rw [z1.2.1]; exact p9
    refine ⟨s_i (s_i z 69 i 0) 70 i 0, fun Q => ?_, z1.tr ⟨rfl, rfl, rfl⟩, z2, fun k hk => ?_, fun q j h1 h2 => by rw [ine (by omega), ine (by omega)]; exact z4 q j h1 h2⟩
    · rw [w_iload_n1 (M := mX5_forgetCounts) dX5_forgetCounts_2]
      simp [w_aload_n0 (M := mX5_forgetCounts) dX5_forgetCounts_3, w_getA (M := mX5_forgetCounts) dX5_forgetCounts_4 f_5_19 rfl (by decide) (by decide), w_alen (M := mX5_forgetCounts) dX5_forgetCounts_7, w_ic_ge (M := mX5_forgetCounts) (tgt := 31) dX5_forgetCounts_8 (by decide), w_aload_n0 (M := mX5_forgetCounts) dX5_forgetCounts_11, w_getA (M := mX5_forgetCounts) dX5_forgetCounts_12 f_5_19 rfl (by decide) (by decide), w_iload_n1 (M := mX5_forgetCounts) dX5_forgetCounts_15, w_iconst (M := mX5_forgetCounts) (v := 0) dX5_forgetCounts_16 rfl, w_iastore (M := mX5_forgetCounts) dX5_forgetCounts_17, w_aload_n0 (M := mX5_forgetCounts) dX5_forgetCounts_18, w_getA (M := mX5_forgetCounts) dX5_forgetCounts_19 f_5_22 rfl (by decide) (by decide), w_iload_n1 (M := mX5_forgetCounts) dX5_forgetCounts_22, w_iconst (M := mX5_forgetCounts) (v := 0) dX5_forgetCounts_23 rfl, w_iastore (M := mX5_forgetCounts) dX5_forgetCounts_24, w_iinc1 (M := mX5_forgetCounts) (v := 1) dX5_forgetCounts_25 rfl (by decide), w_goto (M := mX5_forgetCounts) (tgt := 2) dX5_forgetCounts_28 (by decide), Kn_v_, Kn_n_, kl_i_, kl_a_, kl_l_, kl_n_, s1_0_, s2_0_, s1_1, s1_2, s1_3, s1_4, s1_5, s1_6, s1_7, s1_8, s1_9, s1_10, s1_11, s1_12, s1_13, s1_14, s2_1, s2_2, s2_3, s2_4, s2_5, s2_6, s2_7, s2_8, s2_9, s2_10, s2_11, s2_12, s2_13, s2_14, List.map_nil, List.map_cons, List.sum_nil, List.sum_cons, ct_i_, ct_r_, ct_l_, t_si_, t_sl_, t_sr_, n_si_, n_sl_, n_sr_, i_si_, i_sl_, i_sr_, l_si_, l_sl_, l_sr_, r_si_, r_sl_, r_sr_, vr_s_, vr_n_, nz_0_, nz_1_, t0, t2, t3, r2, r3, show Int32.ofNat 16 = 16 from rfl, show (nI i < 16) = True from nI_ltT (b := 16) hi (by omega), in1_n (k := i) (n := 16) (by omega), hi, nI_c (a := i) (by omega), nI_s]
    · by_cases q : k = i
      · subst q
        exact ⟨by rw [ine (by omega), ieq rfl rfl], ieq rfl rfl⟩
      · obtain ⟨a1, a2⟩ := z3 k (by omega)
        exact ⟨by rw [ine (by omega), ine (by omega)]; exact a1, by rw [ine (by omega), ine (by omega)]; exact a2⟩
  obtain ⟨z, a1, a2, a3, a4, a5⟩ := lp (W := fun i (z : am_h) Q => WP d mX5_forgetCounts 2 [some (.ref 67), some (.int (nI i))] [] z Q) (P := fun i z => sm h z ∧ a_l z = a_l h ∧ (∀ k, k < i → a_i z 69 k = 0 ∧ a_i z 70 k = 0) ∧ ∀ q j, ¬ q = 69 → ¬ q = 70 → a_i z q j = a_i h q j) st 16 0 h (by omega) ⟨⟨rfl, rfl, rfl⟩, rfl, fun k hk => absurd hk (by omega), fun _ _ _ _ => rfl⟩
  refine ⟨z, fun Q => ?_, a2, a3, a4, a5⟩
  have t0 : a_t z 67 = (5, 9) := by rw [a2.1]; exact p1
  have t2 : a_t z 69 = (20, 16) := by rw [a2.1]; exact p3
  have r2 : a_r z 67 6 = some 69 := by rw [a2.2.1]; exact p8
  have e1 := a1 Q
  have e0 : (0 : Int32) = nI 0 := rfl
  unfold Cal
  rw [l_X5_forgetCounts]
  simp only [am_en, am_ag, ct_i, ct_r, ct_l, List.length_cons, List.length_nil, List.replicate]
  simp [w_iconst (M := mX5_forgetCounts) (v := 0) dX5_forgetCounts_0 rfl, w_istore_n (M := mX5_forgetCounts) (i := 1) dX5_forgetCounts_1 rfl (by decide), Kn_v_, Kn_n_, kl_i_, kl_a_, kl_l_, kl_n_, s1_0_, s2_0_, s1_1, s1_2, s1_3, s1_4, s1_5, s1_6, s1_7, s1_8, s1_9, s1_10, s1_11, s1_12, s1_13, s1_14, s2_1, s2_2, s2_3, s2_4, s2_5, s2_6, s2_7, s2_8, s2_9, s2_10, s2_11, s2_12, s2_13, s2_14, List.map_nil, List.map_cons, List.sum_nil, List.sum_cons, ct_i_, ct_r_, ct_l_, t_si_, t_sl_, t_sr_, n_si_, n_sl_, n_sr_, i_si_, i_sl_, i_sr_, l_si_, l_sl_, l_sr_, r_si_, r_sl_, r_sr_, vr_s_, vr_n_, nz_0_, nz_1_]
  rw [e0]
  refine Eq.to_iff (Eq.trans e1 ?_)
  show WP d mX5_forgetCounts 2 _ _ _ _ = _
  rw [w_iload_n1 (M := mX5_forgetCounts) dX5_forgetCounts_2]
  simp [w_aload_n0 (M := mX5_forgetCounts) dX5_forgetCounts_3, w_getA (M := mX5_forgetCounts) dX5_forgetCounts_4 f_5_19 rfl (by decide) (by decide), w_alen (M := mX5_forgetCounts) dX5_forgetCounts_7, w_ic_ge (M := mX5_forgetCounts) (tgt := 31) dX5_forgetCounts_8 (by decide), w_vret (M := mX5_forgetCounts) dX5_forgetCounts_31 rfl, Kn_v_, Kn_n_, kl_i_, kl_a_, kl_l_, kl_n_, s1_0_, s2_0_, s1_1, s1_2, s1_3, s1_4, s1_5, s1_6, s1_7, s1_8, s1_9, s1_10, s1_11, s1_12, s1_13, s1_14, s2_1, s2_2, s2_3, s2_4, s2_5, s2_6, s2_7, s2_8, s2_9, s2_10, s2_11, s2_12, s2_13, s2_14, List.map_nil, List.map_cons, List.sum_nil, List.sum_cons, ct_i_, ct_r_, ct_l_, t_si_, t_sl_, t_sr_, n_si_, n_sl_, n_sr_, i_si_, i_sl_, i_sr_, l_si_, l_sl_, l_sr_, r_si_, r_sl_, r_sr_, vr_s_, vr_n_, nz_0_, nz_1_, t0, t2, r2, show Int32.ofNat 16 = 16 from rfl, show (nI 16 < 16) = False from eq_false (by decide)]
/-- the line that is tried -/
def tryS (x : TS) (v0 : Int32) : TS := fun c i => if c = 0 ∧ i = 0 then v0 else if c = 8 ∨ c = 9 then 0 else x c i
/-- what is known ahead of a try -/
def TB (X : PX) (n T : Nat) (g : Nat → Int32) (VW VS VL : (Nat → Int32) → Int32 → Int32) (x : TS) (h : am_h) : Prop :=
  Inv X h ∧ LX h 0 VW ∧ LX h 1 VS ∧ LX h 2 VL ∧ gB g n ∧ a_i h 127 = g ∧ x 0 1 = nI T ∧ T ≤ 9000 ∧ wS n x ∧ D1 (fun _ => x 0 1 + 1) x ∧ Dh x (x 0 1).toInt ∧ (∀ c i, c < 18 → x c i = dec g 90 c i) ∧ rM (a_i h) (a_l h) 7 x ∧ a_r h 91 0 = rlO g
set_option maxHeartbeats 1000000 in
theorem TB_ex (k : Inv X h) (ol : rOl h) : ∃ n T g VW VS VL x, TB X n T g VW VS VL x (s_r h 91 0 (rlO (a_i h 127))) := by
  obtain ⟨h1, eh1⟩ : ∃ h1, h1 = s_r h 91 0 (rlO (a_i h 127)) := ⟨_, rfl⟩
  rw [← eh1]
  have k1 : Inv X h1 := by
    rw [eh1]
    exact Inv_scr k rfl rfl (fun q j hq => rne (by omega)) (fun q j _ => rfl) (fun q _ => rfl)
  have o1 : rOl h1 := by rw [eh1]; exact ol
  have i1 : a_i h1 = a_i h := by rw [eh1]; rfl
  have hr : a_r h1 91 0 = if a_i h1 127 2 = -1 then none else some (94 + 8 * Nn (a_i h1 127 2)) := by
    rw [i1, eh1]
    exact req rfl rfl
  obtain ⟨VW, x0⟩ := LX_ex X k1 o1 (w := 0) (by omega) hr
  obtain ⟨VS, x1⟩ := LX_ex X k1 o1 (w := 1) (by omega) hr
  obtain ⟨VL, x2⟩ := LX_ex X k1 o1 (w := 2) (by omega) hr
  have w := k1.2.1.2.2.2.2.1
  obtain ⟨n, e1, e2, e3⟩ := k1.N
  rw [e3] at w
  have w91 : bt 0 (a_i h1 127 91) 9000 := w.2.1
  obtain ⟨T, T1, T2, T3⟩ := btn w91 (by omega) (by omega)
  have r6 := k1.2.1.2.1
  obtain ⟨xs, xm, xd, xh⟩ := rLn_M r6
  have x01 : ext (a_i h1) (a_l h1) (7 + 0) (dec (a_i h1 127) 90) 0 1 = dec (a_i h1 127) 90 0 1 := xs 0 1 (by omega)
  rw [← x01] at xd xh
  refine ⟨n, T, a_i h1 127, VW, VS, VL, _, k1, x0, x1, x2, ⟨e2, e1, fun e he => ?_⟩, rfl, x01.trans T1, by unfold bt at w91; omega, wS_c xs w, xd, xh, xs, xm, by rw [i1, eh1]; exact req rfl rfl⟩
  exact k1.2.1.1.2.2.2.2.2.2.2.2.2.2.2.2.2.1 e (by rw [e3]; exact he)
end TRY
