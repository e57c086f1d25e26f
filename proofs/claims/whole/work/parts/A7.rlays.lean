/-! all laid out, to go on from: the other side -/
section RLAYS
variable {e n m j i T r c d K Z t I : Nat} {s x : TS} {h0 h h1 : am_h} {b0 v z kd b l : Int32} {u : Nat → Int32} {F W : Nat → Bool} {S : Nat → Nat → Bool} {Q : Option Value → am_h → Prop}
/-- who spoke in the tenths behind, laid out so far -/
def SPI (y : am_h) (T : Nat) (S : Nat → Nat → Bool) : Prop := ∀ t, T < t + 63 → t ≤ T → a_i y 166 (t % 64) = nI (bN (S t))
set_option maxRecDepth 20000 in
set_option maxHeartbeats 4000000 in
theorem r_laysIn (hR : sh_R (a_t h) (a_r h)) (h44 : a_i h 126 44 = nI T) (hT : T ≤ 100000) (he : e < 4) {bg la : Nat} (hbg : bg ≤ 100000) (hla : la ≤ 100000) (hl : la ≤ T + 1) (hS : SPI h T S) {vi lv : Int32} (hlv : lv = nI la - 1) : ∃ h', (∀ Q, WP (d + 2) mX12_laysTurn 139 [some (.ref 126), some (.int vi), some (.int (nI e)), some (.int lv), some (.int (nI bg))] [] h Q = Q none h') ∧ sm h h' ∧ a_l h' = a_l h ∧ (∀ q j, ¬ q = 166 → a_i h' q j = a_i h q j) ∧ SPI h' T (fun t f => S t f || decide (f = e ∧ bg ≤ t ∧ t < la)) := by
  have lt : ∀ k, k ≤ 200000 → (nI k ≤ lv ↔ k < la) := by
    intro k hk
    rw [hlv, Int32.le_iff_toInt_le, Int32.toInt_sub, nI_i (by omega), nI_i (by omega)]
    rw [show (1 : Int32).toInt = 1 from rfl, Int.bmod_eq_of_le (by omega) (by omega)]
    omega
  have st : ∀ (i : Nat) (y : am_h), i < la - bg → (sm h y ∧ a_l y = a_l h ∧ (∀ q j, ¬ q = 166 → a_i y q j = a_i h q j) ∧ SPI y T (fun t f => S t f || decide (f = e ∧ bg ≤ t ∧ t < bg + i))) → ∃ y', (∀ Q, WP (d + 2) mX12_laysTurn 139 [some (.ref 126), some (.int vi), some (.int (nI e)), some (.int lv), some (.int (nI (bg + i)))] [] y Q = WP (d + 2) mX12_laysTurn 139 [some (.ref 126), some (.int vi), some (.int (nI e)), some (.int lv), some (.int (nI (bg + (i + 1))))] [] y' Q) ∧ (sm h y' ∧ a_l y' = a_l h ∧ (∀ q j, ¬ q = 166 → a_i y' q j = a_i h q j) ∧ SPI y' T (fun t f => S t f || decide (f = e ∧ bg ≤ t ∧ t < bg + (i + 1)))) := by
    intro i y hi ⟨y1, y2, y3, y4⟩
    have yR : sh_R (a_t y) (a_r y) := by rw [y1.1, y1.2.1]; exact hR
    have y44 : a_i y 126 44 = nI T := by rw [y3 _ _ (by omega)]; exact h44
    have le1 : (lv < nI (bg + i)) = False := eq_false (Int32.not_lt.mpr ((lt _ (by omega)).mpr (by omega)))
    by_cases c : T < bg + i + 63
    · have c1 : (nI T - 63 < nI (bg + i)) = True := by
        apply eq_true
        rw [i_lt, Int32.toInt_sub, nI_i (by omega), nI_i (by omega), show (63 : Int32).toInt = 63 from rfl, Int.bmod_eq_of_le (by omega) (by omega)]
        omega
      have cell := y4 (bg + i) c (by omega)
      refine ⟨s_i y 166 ((bg + i) % 64) (nI (bN (fun f => (S (bg + i) f || decide (f = e ∧ bg ≤ bg + i ∧ bg + i < bg + i)) || decide (f = e)))), fun Q => ?_, y1.tr ⟨rfl, rfl, rfl⟩, y2, fun q j hq => by rw [ine (by omega)]; exact y3 q j hq, fun t ht1 ht2 => ?_⟩
      · rw [w_iload4 (M := mX12_laysTurn) dX12_laysTurn_139]
        simp [w_iload_n3 (M := mX12_laysTurn) dX12_laysTurn_141, w_ic_gt (M := mX12_laysTurn) (tgt := 187) dX12_laysTurn_142 (by decide), w_iload4 (M := mX12_laysTurn) dX12_laysTurn_145, w_aload_n0 (M := mX12_laysTurn) dX12_laysTurn_147, w_getI (M := mX12_laysTurn) dX12_laysTurn_148 f_12_424 rfl (by decide) (by decide), w_bipush (M := mX12_laysTurn) (v := 63) dX12_laysTurn_151 rfl, w_isub (M := mX12_laysTurn) dX12_laysTurn_153, w_ic_le (M := mX12_laysTurn) (tgt := 181) dX12_laysTurn_154 (by decide), w_aload_n0 (M := mX12_laysTurn) dX12_laysTurn_157, w_getA (M := mX12_laysTurn) dX12_laysTurn_158 f_12_136 rfl (by decide) (by decide), w_iload4 (M := mX12_laysTurn) dX12_laysTurn_161, w_bipush (M := mX12_laysTurn) (v := 63) dX12_laysTurn_163 rfl, w_iand (M := mX12_laysTurn) dX12_laysTurn_165, w_aload_n0 (M := mX12_laysTurn) dX12_laysTurn_166, w_getA (M := mX12_laysTurn) dX12_laysTurn_167 f_12_136 rfl (by decide) (by decide), w_iload4 (M := mX12_laysTurn) dX12_laysTurn_170, w_bipush (M := mX12_laysTurn) (v := 63) dX12_laysTurn_172 rfl, w_iand (M := mX12_laysTurn) dX12_laysTurn_174, w_iaload (M := mX12_laysTurn) dX12_laysTurn_175, w_iconst (M := mX12_laysTurn) (v := 1) dX12_laysTurn_176 rfl, w_iload_n2 (M := mX12_laysTurn) dX12_laysTurn_177, w_ishl (M := mX12_laysTurn) dX12_laysTurn_178, w_ior (M := mX12_laysTurn) dX12_laysTurn_179, w_iastore (M := mX12_laysTurn) dX12_laysTurn_180, w_iinc4 (M := mX12_laysTurn) (v := 1) dX12_laysTurn_181 rfl (by decide), w_goto (M := mX12_laysTurn) (tgt := 139) dX12_laysTurn_184 (by decide), Kn_v_, Kn_n_, kl_i_, kl_a_, kl_l_, kl_n_, s1_0_, s2_0_, s1_1, s1_2, s1_3, s1_4, s1_5, s1_6, s1_7, s1_8, s1_9, s1_10, s1_11, s1_12, s1_13, s1_14, s2_1, s2_2, s2_3, s2_4, s2_5, s2_6, s2_7, s2_8, s2_9, s2_10, s2_11, s2_12, s2_13, s2_14, List.map_nil, List.map_cons, List.sum_nil, List.sum_cons, ct_i_, ct_r_, ct_l_, t_si_, t_sl_, t_sr_, n_si_, n_sl_, n_sr_, i_si_, i_sl_, i_sr_, l_si_, l_sl_, l_sr_, r_si_, r_sl_, r_sr_, vr_s_, vr_n_, nz_0_, nz_1_, yR.e, le1, y44, c1, and63 (t := bg + i) (by omega), in1_n (k := (bg + i) % 64) (n := 64) (by omega), show (bg + i) % 64 < 64 by omega, nI_c (a := (bg + i) % 64) (by omega), cell, nI_s, Nat.add_assoc]
        rw [bN_or he]
      · by_cases q : t = bg + i
        · subst q
          rw [ieq rfl rfl]
          congr 1
          refine bN_c (fun f hf => ?_)
          by_cases qf : f = e
          · subst qf; simp
          · simp [qf]
        · rw [ine (by omega), y4 t ht1 ht2]
          congr 1
          refine bN_c (fun f hf => ?_)
          exact congrArg (fun b => S t f || b) (decide_eq_decide.mpr ⟨fun _ => by omega, fun _ => by omega⟩)
    · have c1 : (nI T - 63 < nI (bg + i)) = False := by
        apply eq_false
        rw [i_lt, Int32.toInt_sub, nI_i (by omega), nI_i (by omega), show (63 : Int32).toInt = 63 from rfl, Int.bmod_eq_of_le (by omega) (by omega)]
        omega
      refine ⟨y, fun Q => ?_, y1, y2, y3, fun t ht1 ht2 => ?_⟩
      · rw [w_iload4 (M := mX12_laysTurn) dX12_laysTurn_139]
        simp [w_iload_n3 (M := mX12_laysTurn) dX12_laysTurn_141, w_ic_gt (M := mX12_laysTurn) (tgt := 187) dX12_laysTurn_142 (by decide), w_iload4 (M := mX12_laysTurn) dX12_laysTurn_145, w_aload_n0 (M := mX12_laysTurn) dX12_laysTurn_147, w_getI (M := mX12_laysTurn) dX12_laysTurn_148 f_12_424 rfl (by decide) (by decide), w_bipush (M := mX12_laysTurn) (v := 63) dX12_laysTurn_151 rfl, w_isub (M := mX12_laysTurn) dX12_laysTurn_153, w_ic_le (M := mX12_laysTurn) (tgt := 181) dX12_laysTurn_154 (by decide), w_aload_n0 (M := mX12_laysTurn) dX12_laysTurn_157, w_getA (M := mX12_laysTurn) dX12_laysTurn_158 f_12_136 rfl (by decide) (by decide), w_iload4 (M := mX12_laysTurn) dX12_laysTurn_161, w_bipush (M := mX12_laysTurn) (v := 63) dX12_laysTurn_163 rfl, w_iand (M := mX12_laysTurn) dX12_laysTurn_165, w_aload_n0 (M := mX12_laysTurn) dX12_laysTurn_166, w_getA (M := mX12_laysTurn) dX12_laysTurn_167 f_12_136 rfl (by decide) (by decide), w_iload4 (M := mX12_laysTurn) dX12_laysTurn_170, w_bipush (M := mX12_laysTurn) (v := 63) dX12_laysTurn_172 rfl, w_iand (M := mX12_laysTurn) dX12_laysTurn_174, w_iaload (M := mX12_laysTurn) dX12_laysTurn_175, w_iconst (M := mX12_laysTurn) (v := 1) dX12_laysTurn_176 rfl, w_iload_n2 (M := mX12_laysTurn) dX12_laysTurn_177, w_ishl (M := mX12_laysTurn) dX12_laysTurn_178, w_ior (M := mX12_laysTurn) dX12_laysTurn_179, w_iastore (M := mX12_laysTurn) dX12_laysTurn_180, w_iinc4 (M := mX12_laysTurn) (v := 1) dX12_laysTurn_181 rfl (by decide), w_goto (M := mX12_laysTurn) (tgt := 139) dX12_laysTurn_184 (by decide), Kn_v_, Kn_n_, kl_i_, kl_a_, kl_l_, kl_n_, s1_0_, s2_0_, s1_1, s1_2, s1_3, s1_4, s1_5, s1_6, s1_7, s1_8, s1_9, s1_10, s1_11, s1_12, s1_13, s1_14, s2_1, s2_2, s2_3, s2_4, s2_5, s2_6, s2_7, s2_8, s2_9, s2_10, s2_11, s2_12, s2_13, s2_14, List.map_nil, List.map_cons, List.sum_nil, List.sum_cons, ct_i_, ct_r_, ct_l_, t_si_, t_sl_, t_sr_, n_si_, n_sl_, n_sr_, i_si_, i_sl_, i_sr_, l_si_, l_sl_, l_sr_, r_si_, r_sl_, r_sr_, vr_s_, vr_n_, nz_0_, nz_1_, yR.e, le1, y44, c1, nI_s, Nat.add_assoc]
      · rw [y4 t ht1 ht2]
        congr 1
        refine bN_c (fun f hf => ?_)
        exact congrArg (fun b => S t f || b) (decide_eq_decide.mpr ⟨fun _ => by omega, fun _ => by omega⟩)
  obtain ⟨y, a1, a2, a3, a4, a5⟩ := lp (W := fun i (y : am_h) Q => WP (d + 2) mX12_laysTurn 139 [some (.ref 126), some (.int vi), some (.int (nI e)), some (.int lv), some (.int (nI (bg + i)))] [] y Q) (P := fun i y => sm h y ∧ a_l y = a_l h ∧ (∀ q j, ¬ q = 166 → a_i y q j = a_i h q j) ∧ SPI y T (fun t f => S t f || decide (f = e ∧ bg ≤ t ∧ t < bg + i))) st (la - bg) 0 h (by omega) ⟨⟨rfl, rfl, rfl⟩, rfl, fun _ _ _ => rfl, fun t h1 h2 => by
      rw [hS t h1 h2]
      congr 1
      exact bN_c (fun f hf => by
        show S t f = (S t f || decide (f = e ∧ bg ≤ t ∧ t < bg + 0))
        rw [decide_eq_false (by omega), Bool.or_false])⟩
  refine ⟨y, fun Q => ?_, a2, a3, a4, fun t h1 h2 => ?_⟩
  · have yR : sh_R (a_t y) (a_r y) := by rw [a2.1, a2.2.1]; exact hR
    have le1 : (lv < nI (bg + (la - bg))) = True := eq_true (Int32.not_le.mp (fun w => absurd ((lt _ (by omega)).mp w) (by omega)))
    have e1 := a1 Q
    simp only [Nat.add_zero] at e1
    rw [e1, w_iload4 (M := mX12_laysTurn) dX12_laysTurn_139]
    simp [w_iload_n3 (M := mX12_laysTurn) dX12_laysTurn_141, w_ic_gt (M := mX12_laysTurn) (tgt := 187) dX12_laysTurn_142 (by decide), w_iload4 (M := mX12_laysTurn) dX12_laysTurn_145, w_aload_n0 (M := mX12_laysTurn) dX12_laysTurn_147, w_getI (M := mX12_laysTurn) dX12_laysTurn_148 f_12_424 rfl (by decide) (by decide), w_bipush (M := mX12_laysTurn) (v := 63) dX12_laysTurn_151 rfl, w_isub (M := mX12_laysTurn) dX12_laysTurn_153, w_ic_le (M := mX12_laysTurn) (tgt := 181) dX12_laysTurn_154 (by decide), w_aload_n0 (M := mX12_laysTurn) dX12_laysTurn_157, w_getA (M := mX12_laysTurn) dX12_laysTurn_158 f_12_136 rfl (by decide) (by decide), w_iload4 (M := mX12_laysTurn) dX12_laysTurn_161, w_bipush (M := mX12_laysTurn) (v := 63) dX12_laysTurn_163 rfl, w_iand (M := mX12_laysTurn) dX12_laysTurn_165, w_aload_n0 (M := mX12_laysTurn) dX12_laysTurn_166, w_getA (M := mX12_laysTurn) dX12_laysTurn_167 f_12_136 rfl (by decide) (by decide), w_iload4 (M := mX12_laysTurn) dX12_laysTurn_170, w_bipush (M := mX12_laysTurn) (v := 63) dX12_laysTurn_172 rfl, w_iand (M := mX12_laysTurn) dX12_laysTurn_174, w_iaload (M := mX12_laysTurn) dX12_laysTurn_175, w_iconst (M := mX12_laysTurn) (v := 1) dX12_laysTurn_176 rfl, w_iload_n2 (M := mX12_laysTurn) dX12_laysTurn_177, w_ishl (M := mX12_laysTurn) dX12_laysTurn_178, w_ior (M := mX12_laysTurn) dX12_laysTurn_179, w_iastore (M := mX12_laysTurn) dX12_laysTurn_180, w_iinc4 (M := mX12_laysTurn) (v := 1) dX12_laysTurn_181 rfl (by decide), w_goto (M := mX12_laysTurn) (tgt := 139) dX12_laysTurn_184 (by decide), w_vret (M := mX12_laysTurn) dX12_laysTurn_187 rfl, Kn_v_, Kn_n_, kl_i_, kl_a_, kl_l_, kl_n_, s1_0_, s2_0_, s1_1, s1_2, s1_3, s1_4, s1_5, s1_6, s1_7, s1_8, s1_9, s1_10, s1_11, s1_12, s1_13, s1_14, s2_1, s2_2, s2_3, s2_4, s2_5, s2_6, s2_7, s2_8, s2_9, s2_10, s2_11, s2_12, s2_13, s2_14, List.map_nil, List.map_cons, List.sum_nil, List.sum_cons, ct_i_, ct_r_, ct_l_, t_si_, t_sl_, t_sr_, n_si_, n_sl_, n_sr_, i_si_, i_sl_, i_sr_, l_si_, l_sl_, l_sr_, r_si_, r_sl_, r_sr_, vr_s_, vr_n_, nz_0_, nz_1_, yR.e, le1]
  · rw [a5 t h1 h2]
    congr 1
    refine bN_c (fun f hf => ?_)
    exact congrArg (fun b => S t f || b) (decide_eq_decide.mpr ⟨fun _ => by omega, fun _ => by omega⟩)
/-- what is laid out of the first i turns -/
def LY (h y : am_h) (x : TS) (i : Nat) : Prop :=
  sm h y ∧ a_l y = a_l h ∧ (∀ q j, ¬ (158 ≤ q ∧ q ≤ 163) → ¬ q = 166 → a_i y q j = a_i h q j)
  ∧ (∀ e, e < 4 → a_i y 161 e = itr (fun i a => a + (if x 10 i = nI e ∧ (-1 = (-1 : Int32) ∨ x 14 i = -1) then 1 else 0)) 0 i 0 ∧ a_i y 162 e = itr (fun i a => a + (if x 10 i = nI e ∧ (2 = (-1 : Int32) ∨ x 14 i = 2) then 1 else 0)) 0 i 0 ∧ a_i y 160 e = itr (fun i a => if x 10 i = nI e ∧ ¬ x 13 i = -1 ∧ x 11 i < x 13 i then x 13 i else a) 0 i (-1)
    ∧ ∀ i', i' < i → x 10 i' = nI e → x 13 i' = -1 → a_i y 163 e = nI i' ∧ a_i y 158 e = x 11 i' ∧ a_i y 159 e = x 12 i')
  ∧ SPI y (Nn (x 0 1)) (fun t f => decide (∃ i', i' < i ∧ x 10 i' = nI f ∧ (x 11 i').toInt ≤ t ∧ (x 13 i' = -1 ∨ (t : Int) < (x 13 i').toInt)))
set_option maxRecDepth 20000 in
set_option maxHeartbeats 4000000 in
theorem r_laysTurn (hR : sh_R (a_t h) (a_r h)) (w : wS n x) (n4 : n ≤ 4) {y : am_h} (h44 : a_i h 126 44 = x 0 1) (hr : ∀ c i, 10 ≤ c ∧ c < 15 → dec (a_i h 127) 90 c i = x c i) (hi : i < Nn (x 0 3)) (L : LY h y x i) : ∃ y', (∀ Q, Cal (d + 2) mX12_laysTurn [.ref 126, .int (nI i)] y Q = Q none y') ∧ LY h y' x (i + 1) := by
  obtain ⟨L1, L2, L3, L4, L5⟩ := L
  have w0 := w
  obtain ⟨k1, k2, k3, k4, k5, k6, k7, k8, k9, k10⟩ := w
  have b3 := bt_n (m := 90) k3 (by omega) (by omega)
  obtain ⟨t1, t2, t3, t4⟩ := k7 i hi
  obtain ⟨e, e1, e2, e3⟩ := btn t1 (by omega) (by omega)
  have e4 : e < 4 := by unfold bt at t1; omega
  obtain ⟨T, T1, T2, T3⟩ := btn k2 (by omega) (by omega)
  have T9 : T ≤ 9000 := by unfold bt at k2; omega
  rw [T3] at L5
  obtain ⟨bg, g1, g2, g3⟩ := btn t2 (by omega) (by unfold bt at k2; omega)
  have bgT : bg ≤ T + 1 := by unfold bt at t2; omega
  have yR : sh_R (a_t y) (a_r y) := by rw [L1.1, L1.2.1]; exact hR
  have i90 : i < 90 := by omega
  have e127 : a_i y 127 = a_i h 127 := funext fun j => L3 _ _ (by omega) (by omega)
  have d10 : a_i y 127 (166 + 5 * i) = nI e := by rw [e127, ← e1, ← hr 10 i (by omega), dec_c10 i90]
  have d11 : a_i y 127 (166 + 5 * i + 1) = nI bg := by rw [e127, ← g1, ← hr 11 i (by omega), dec_c11 i90]
  have d12 : a_i y 127 (166 + 5 * i + 2) = x 12 i := by rw [e127, ← hr 12 i (by omega), dec_c12 i90]
  have d13 : a_i y 127 (166 + 5 * i + 3) = x 13 i := by rw [e127, ← hr 13 i (by omega), dec_c13 i90]
  have d14 : a_i y 127 (166 + 5 * i + 4) = x 14 i := by rw [e127, ← hr 14 i (by omega), dec_c14 i90]
  have y44 : a_i y 126 44 = nI T := by rw [L3 _ _ (by omega) (by omega), h44, T1]
  have ie : am_in1 (nI e) 4 = True := by rw [in1_n (by omega)]; exact eq_true e4
  have ce : (nI e).toNatClampNeg = e := nI_c (by omega)
  have pe : (0 ≤ nI e) = True := nI_p (by omega)
  have u0 : (166 + 5 * nI i).toNatClampNeg = 166 + 5 * i := ixT0 (by omega)
  have l0 : (0 ≤ 166 + 5 * nI i) = True := ipT0 (by omega)
  have u1 : (166 + 5 * nI i + 1).toNatClampNeg = 166 + 5 * i + 1 := ixT1 (by omega)
  have l1 : (0 ≤ 166 + 5 * nI i + 1) = True := ipT1 (by omega)
  have u2 : (166 + 5 * nI i + 2).toNatClampNeg = 166 + 5 * i + 2 := ixT2 (by omega)
  have l2 : (0 ≤ 166 + 5 * nI i + 2) = True := ipT2 (by omega)
  have u3 : (166 + 5 * nI i + 3).toNatClampNeg = 166 + 5 * i + 3 := ixT3 (by omega)
  have l3 : (0 ≤ 166 + 5 * nI i + 3) = True := ipT3 (by omega)
  have u4 : (166 + 5 * nI i + 4).toNatClampNeg = 166 + 5 * i + 4 := ixT4 (by omega)
  have l4 : (0 ≤ 166 + 5 * nI i + 4) = True := ipT4 (by omega)
  have nn : ∀ e', e' < 4 → (x 10 i = nI e') = (e' = e) := fun e' he' => by
    rw [e1, nI_inj (by omega) (by omega)]
    exact propext ⟨Eq.symm, Eq.symm⟩
  obtain ⟨A, hA⟩ : ∃ A, A = a_i y 161 e + 1 := ⟨_, rfl⟩
  obtain ⟨C, hC⟩ : ∃ C, C = a_i y 162 e + (if x 14 i = 2 then 1 else 0) := ⟨_, rfl⟩
  -- behind the cells, the tenths
  have fin : ∀ (y1 : am_h) (lv : Int32) (la : Nat), sm y y1 → a_l y1 = a_l y → (∀ q j, ¬ (j = e ∧ 158 ≤ q ∧ q ≤ 163) → a_i y1 q j = a_i y q j) → a_i y1 161 e = A → a_i y1 162 e = C → (a_i y1 160 e = if ¬ x 13 i = -1 ∧ x 11 i < x 13 i then x 13 i else a_i y 160 e) → (x 13 i = -1 → a_i y1 163 e = nI i ∧ a_i y1 158 e = x 11 i ∧ a_i y1 159 e = x 12 i) → lv = nI la - 1 → la ≤ T + 1 → (∀ t : Nat, t ≤ T → ((t < la) ↔ (x 13 i = -1 ∨ (t : Int) < (x 13 i).toInt))) → (∀ Q, Cal (d + 2) mX12_laysTurn [.ref 126, .int (nI i)] y Q = WP (d + 2) mX12_laysTurn 139 [some (.ref 126), some (.int (nI i)), some (.int (nI e)), some (.int lv), some (.int (nI bg))] [] y1 Q) → ∃ y', (∀ Q, Cal (d + 2) mX12_laysTurn [.ref 126, .int (nI i)] y Q = Q none y') ∧ LY h y' x (i + 1) := by
    intro y1 lv la f1 f2 f3 f4 f5 f6 f7 f8 f9 f10 f11
    have R1 : sh_R (a_t y1) (a_r y1) := by rw [f1.1, f1.2.1]; exact yR
    obtain ⟨y2, p1, p2, p3, p4, p5⟩ := r_laysIn (d := d) (S := fun t f => decide (∃ i', i' < i ∧ x 10 i' = nI f ∧ (x 11 i').toInt ≤ t ∧ (x 13 i' = -1 ∨ (t : Int) < (x 13 i').toInt))) (vi := nI i) R1 (by rw [f3 _ _ (by omega)]; exact y44) (by omega) e4 (bg := bg) (la := la) (by omega) (by omega) f9 (fun t h1 h2 => by
      rw [f3 _ _ (by omega)]
      exact L5 t h1 h2) f8
    have fr : ∀ q j, ¬ (j = e ∧ 158 ≤ q ∧ q ≤ 163) → ¬ q = 166 → a_i y2 q j = a_i y q j := fun q j c1 c2 => by rw [p4 q j c2]; exact f3 q j c1
    refine ⟨y2, fun Q => (f11 Q).trans (p1 Q), (L1.tr f1).tr p2, by rw [p3, f2]; exact L2, fun q j c1 c2 => by rw [fr q j (by omega) c2]; exact L3 q j c1 c2, fun e' he' => ?_, ?_⟩
    · obtain ⟨v1, v2, v3, v4⟩ := L4 e' he'
      refine ⟨?_, ?_, ?_, fun i' hi' h10 h13 => ?_⟩
      · rw [itr_snoc, Nat.zero_add]
        by_cases q : e' = e
        · subst q
          rw [p4 _ _ (by omega), f4, hA, v1, if_pos ⟨e1, Or.inl rfl⟩]
        · rw [fr _ _ (by omega) (by omega), v1, if_neg (fun w => q (Eq.mp (nn e' he') w.1)), Int32.add_zero]
      · rw [itr_snoc, Nat.zero_add]
        by_cases q : e' = e
        · subst q
          rw [p4 _ _ (by omega), f5, hC, v2]
          by_cases h14 : x 14 i = 2
          · rw [if_pos h14, if_pos ⟨e1, Or.inr h14⟩]
          · rw [if_neg h14, if_neg (fun w => w.2.elim (fun z => absurd z (by decide)) h14)]
        · rw [fr _ _ (by omega) (by omega), v2, if_neg (fun w => q (Eq.mp (nn e' he') w.1)), Int32.add_zero]
      · rw [itr_snoc, Nat.zero_add]
        by_cases q : e' = e
        · subst q
          rw [p4 _ _ (by omega), f6]
          by_cases hh : ¬ x 13 i = -1 ∧ x 11 i < x 13 i
          · rw [if_pos hh, if_pos ⟨e1, hh⟩]
          · rw [if_neg hh, if_neg (fun w => hh w.2), v3]
        · rw [fr _ _ (by omega) (by omega), v3, if_neg (fun w => q (Eq.mp (nn e' he') w.1))]
      · by_cases q : e' = e
        · subst q
          by_cases q2 : i' = i
          · subst q2
            obtain ⟨g1, g2, g3⟩ := f7 h13
            exact ⟨by rw [p4 _ _ (by omega)]; exact g1, by rw [p4 _ _ (by omega)]; exact g2, by rw [p4 _ _ (by omega)]; exact g3⟩
          · exact absurd h13 (k9 i' i (by omega) hi (by rw [h10, e1])).1
        · have q2 : ¬ i' = i := fun z => by rw [z, nn e' he'] at h10; exact q h10
          rw [fr _ _ (by omega) (by omega), fr _ _ (by omega) (by omega), fr _ _ (by omega) (by omega)]
          exact v4 i' (by omega) h10 h13
    · rw [T3]
      intro t h1 h2
      rw [p5 t h1 h2]
      congr 1
      refine bN_c (fun f hf => ?_)
      show (decide _ || decide _) = decide _
      rw [← Bool.decide_or]
      refine decide_eq_decide.mpr ⟨fun w => ?_, fun w => ?_⟩
      · rcases w with ⟨i', w1, w2, w3, w4⟩ | ⟨w1, w2, w3⟩
        · exact ⟨i', by omega, w2, w3, w4⟩
        · refine ⟨i, by omega, by rw [e1, w1], ?_, (f10 t h2).mp w3⟩
          rw [g1, nI_i (by omega)]; omega
      · obtain ⟨i', w1, w2, w3, w4⟩ := w
        by_cases q : i' = i
        · subst q
          refine Or.inr ⟨(nn f hf ▸ w2), ?_, (f10 t h2).mpr w4⟩
          rw [g1, nI_i (by omega)] at w3; omega
        · exact Or.inl ⟨i', by omega, w2, w3, w4⟩
  have T13 : x 13 i = -1 ∨ ∃ en, x 13 i = nI en ∧ bg ≤ en ∧ en ≤ T + 1 := by
    rcases t4 with z | ⟨z, -⟩
    · exact Or.inl z.1
    · obtain ⟨en, z1, z2, z3⟩ := btn (⟨by have := z.1; unfold bt at t2; omega, z.2⟩ : bt 0 (x 13 i) ((x 0 1).toInt + 1)) (by omega) (by omega)
      exact Or.inr ⟨en, z1, by unfold bt at z; omega, by unfold bt at z; omega⟩
  rcases T13 with z | ⟨en, z1, z2, z3⟩
  · refine fin (s_i (s_i (s_i (s_i (s_i y 161 e A) 162 e C) 163 e (nI i)) 158 e (nI bg)) 159 e (x 12 i)) (nI T) (T + 1) ⟨rfl, rfl, rfl⟩ rfl (fun q j c => by simp (disch := omega) only [ine]) (by simp (disch := omega) only [ine, ieq]) (by simp (disch := omega) only [ine, ieq]) ?_ (fun _ => ?_) ?_ (by omega) (fun t ht => ⟨fun _ => Or.inl z, fun _ => by omega⟩) (fun Q => ?_)
    · simp (disch := omega) only [ine]
      rw [if_neg (fun w => w.1 z)]
    · refine ⟨?_, ?_, ?_⟩
      · simp (disch := omega) only [ine, ieq]
      · simp (disch := omega) only [ine, ieq]
        exact g1.symm
      · simp (disch := omega) only [ine, ieq]
    · exact (nI_sb (a := T + 1) (b := 1) (by omega)).symm
    · rw [hA, hC]
      unfold Cal
      rw [l_X12_laysTurn]
      simp only [am_en, am_ag, ct_i, ct_r, ct_l, List.length_cons, List.length_nil, List.replicate]
      by_cases c14 : x 14 i = 2 <;> simp [w_aload_n0 (M := mX12_laysTurn) dX12_laysTurn_0, w_iload_n1 (M := mX12_laysTurn) dX12_laysTurn_1, w_iconst (M := mX12_laysTurn) (v := 0) dX12_laysTurn_2 rfl, c_12_415 (M := mX12_laysTurn) dX12_laysTurn_3 rfl, w_istore_n (M := mX12_laysTurn) (i := 2) dX12_laysTurn_6 rfl (by decide), w_aload_n0 (M := mX12_laysTurn) dX12_laysTurn_7, w_getA (M := mX12_laysTurn) dX12_laysTurn_8 f_12_121 rfl (by decide) (by decide), w_iload_n2 (M := mX12_laysTurn) dX12_laysTurn_11, w_dup2 (M := mX12_laysTurn) dX12_laysTurn_12, w_iaload (M := mX12_laysTurn) dX12_laysTurn_13, w_iconst (M := mX12_laysTurn) (v := 1) dX12_laysTurn_14 rfl, w_iadd (M := mX12_laysTurn) dX12_laysTurn_15, w_iastore (M := mX12_laysTurn) dX12_laysTurn_16, w_aload_n0 (M := mX12_laysTurn) dX12_laysTurn_17, w_getA (M := mX12_laysTurn) dX12_laysTurn_18 f_12_124 rfl (by decide) (by decide), w_iload_n2 (M := mX12_laysTurn) dX12_laysTurn_21, w_dup2 (M := mX12_laysTurn) dX12_laysTurn_22, w_iaload (M := mX12_laysTurn) dX12_laysTurn_23, w_aload_n0 (M := mX12_laysTurn) dX12_laysTurn_24, w_iload_n1 (M := mX12_laysTurn) dX12_laysTurn_25, w_iconst (M := mX12_laysTurn) (v := 4) dX12_laysTurn_26 rfl, c_12_415 (M := mX12_laysTurn) dX12_laysTurn_27 rfl, w_iconst (M := mX12_laysTurn) (v := 2) dX12_laysTurn_30 rfl, w_ic_ne (M := mX12_laysTurn) (tgt := 38) dX12_laysTurn_31 (by decide), w_iconst (M := mX12_laysTurn) (v := 1) dX12_laysTurn_34 rfl, w_goto (M := mX12_laysTurn) (tgt := 39) dX12_laysTurn_35 (by decide), w_iconst (M := mX12_laysTurn) (v := 0) dX12_laysTurn_38 rfl, w_iadd (M := mX12_laysTurn) dX12_laysTurn_39, w_iastore (M := mX12_laysTurn) dX12_laysTurn_40, w_aload_n0 (M := mX12_laysTurn) dX12_laysTurn_41, w_iload_n1 (M := mX12_laysTurn) dX12_laysTurn_42, w_iconst (M := mX12_laysTurn) (v := 3) dX12_laysTurn_43 rfl, c_12_415 (M := mX12_laysTurn) dX12_laysTurn_44 rfl, w_iconst (M := mX12_laysTurn) (v := (-1)) dX12_laysTurn_47 rfl, w_ic_ne (M := mX12_laysTurn) (tgt := 58) dX12_laysTurn_48 (by decide), w_aload_n0 (M := mX12_laysTurn) dX12_laysTurn_51, w_getI (M := mX12_laysTurn) dX12_laysTurn_52 f_12_424 rfl (by decide) (by decide), w_goto (M := mX12_laysTurn) (tgt := 66) dX12_laysTurn_55 (by decide), w_aload_n0 (M := mX12_laysTurn) dX12_laysTurn_58, w_iload_n1 (M := mX12_laysTurn) dX12_laysTurn_59, w_iconst (M := mX12_laysTurn) (v := 3) dX12_laysTurn_60 rfl, c_12_415 (M := mX12_laysTurn) dX12_laysTurn_61 rfl, w_iconst (M := mX12_laysTurn) (v := 1) dX12_laysTurn_64 rfl, w_isub (M := mX12_laysTurn) dX12_laysTurn_65, w_istore_n (M := mX12_laysTurn) (i := 3) dX12_laysTurn_66 rfl (by decide), w_aload_n0 (M := mX12_laysTurn) dX12_laysTurn_67, w_iload_n1 (M := mX12_laysTurn) dX12_laysTurn_68, w_iconst (M := mX12_laysTurn) (v := 3) dX12_laysTurn_69 rfl, c_12_415 (M := mX12_laysTurn) dX12_laysTurn_70 rfl, w_iconst (M := mX12_laysTurn) (v := (-1)) dX12_laysTurn_73 rfl, w_ic_ne (M := mX12_laysTurn) (tgt := 111) dX12_laysTurn_74 (by decide), w_aload_n0 (M := mX12_laysTurn) dX12_laysTurn_77, w_getA (M := mX12_laysTurn) dX12_laysTurn_78 f_12_127 rfl (by decide) (by decide), w_iload_n2 (M := mX12_laysTurn) dX12_laysTurn_81, w_iload_n1 (M := mX12_laysTurn) dX12_laysTurn_82, w_iastore (M := mX12_laysTurn) dX12_laysTurn_83, w_aload_n0 (M := mX12_laysTurn) dX12_laysTurn_84, w_getA (M := mX12_laysTurn) dX12_laysTurn_85 f_12_112 rfl (by decide) (by decide), w_iload_n2 (M := mX12_laysTurn) dX12_laysTurn_88, w_aload_n0 (M := mX12_laysTurn) dX12_laysTurn_89, w_iload_n1 (M := mX12_laysTurn) dX12_laysTurn_90, w_iconst (M := mX12_laysTurn) (v := 1) dX12_laysTurn_91 rfl, c_12_415 (M := mX12_laysTurn) dX12_laysTurn_92 rfl, w_iastore (M := mX12_laysTurn) dX12_laysTurn_95, w_aload_n0 (M := mX12_laysTurn) dX12_laysTurn_96, w_getA (M := mX12_laysTurn) dX12_laysTurn_97 f_12_115 rfl (by decide) (by decide), w_iload_n2 (M := mX12_laysTurn) dX12_laysTurn_100, w_aload_n0 (M := mX12_laysTurn) dX12_laysTurn_101, w_iload_n1 (M := mX12_laysTurn) dX12_laysTurn_102, w_iconst (M := mX12_laysTurn) (v := 2) dX12_laysTurn_103 rfl, c_12_415 (M := mX12_laysTurn) dX12_laysTurn_104 rfl, w_iastore (M := mX12_laysTurn) dX12_laysTurn_107, w_goto (M := mX12_laysTurn) (tgt := 131) dX12_laysTurn_108 (by decide), w_aload_n0 (M := mX12_laysTurn) dX12_laysTurn_111, w_iload_n1 (M := mX12_laysTurn) dX12_laysTurn_112, c_12_445 (M := mX12_laysTurn) dX12_laysTurn_113 rfl, w_if_eq (M := mX12_laysTurn) (tgt := 131) dX12_laysTurn_116 (by decide), w_aload_n0 (M := mX12_laysTurn) dX12_laysTurn_119, w_getA (M := mX12_laysTurn) dX12_laysTurn_120 f_12_118 rfl (by decide) (by decide), w_iload_n2 (M := mX12_laysTurn) dX12_laysTurn_123, w_aload_n0 (M := mX12_laysTurn) dX12_laysTurn_124, w_iload_n1 (M := mX12_laysTurn) dX12_laysTurn_125, w_iconst (M := mX12_laysTurn) (v := 3) dX12_laysTurn_126 rfl, c_12_415 (M := mX12_laysTurn) dX12_laysTurn_127 rfl, w_iastore (M := mX12_laysTurn) dX12_laysTurn_130, w_aload_n0 (M := mX12_laysTurn) dX12_laysTurn_131, w_iload_n1 (M := mX12_laysTurn) dX12_laysTurn_132, w_iconst (M := mX12_laysTurn) (v := 1) dX12_laysTurn_133 rfl, c_12_415 (M := mX12_laysTurn) dX12_laysTurn_134 rfl, w_istore (M := mX12_laysTurn) dX12_laysTurn_137 (by decide), Kn_v_, Kn_n_, kl_i_, kl_a_, kl_l_, kl_n_, s1_0_, s2_0_, s1_1, s1_2, s1_3, s1_4, s1_5, s1_6, s1_7, s1_8, s1_9, s1_10, s1_11, s1_12, s1_13, s1_14, s2_1, s2_2, s2_3, s2_4, s2_5, s2_6, s2_7, s2_8, s2_9, s2_10, s2_11, s2_12, s2_13, s2_14, List.map_nil, List.map_cons, List.sum_nil, List.sum_cons, ct_i_, ct_r_, ct_l_, t_si_, t_sl_, t_sr_, n_si_, n_sl_, n_sr_, i_si_, i_sl_, i_sr_, l_si_, l_sl_, l_sr_, r_si_, r_sl_, r_sr_, vr_s_, vr_n_, nz_0_, nz_1_, yR.e, q_X12_ofTurn, yR, u0, u1, u2, u3, u4, l0, l1, l2, l3, l4, show 166 + 5 * i + 1 < 20150 by omega, show 166 + 5 * i + 2 < 20150 by omega, show 166 + 5 * i + 3 < 20150 by omega, show 166 + 5 * i + 4 < 20150 by omega, show 166 + 5 * i < 20150 by omega, show 166 + 5 * i < 20149 by omega, show 166 + 5 * i < 20148 by omega, show 166 + 5 * i < 20147 by omega, show 166 + 5 * i < 20146 by omega, d10, d11, d12, d13, d14, ie, ce, pe, e4, z, y44, c14]
  · have n1 : ¬ x 13 i = -1 := by rw [z1]; exact of_eq_false (nI_n1 (by omega))
    have lt1 : (x 11 i < x 13 i) = (bg < en) := by rw [g1, z1, nI_lI (by omega) (by omega)]
    have la : nI en - 1 = nI en - 1 := rfl
    by_cases c11 : bg < en
    · refine fin (s_i (s_i (s_i y 161 e A) 162 e C) 160 e (nI en)) (nI en - 1) en ⟨rfl, rfl, rfl⟩ rfl (fun q j c => by simp (disch := omega) only [ine]) (by simp (disch := omega) only [ine, ieq]) (by simp (disch := omega) only [ine, ieq]) ?_ (fun w => absurd w n1) rfl z3 (fun t ht => ?_) (fun Q => ?_)
      · rw [ieq rfl rfl, if_pos ⟨n1, Eq.mpr lt1 c11⟩, z1]
      · rw [z1, nI_i (by omega)]
        constructor
        · intro w; exact Or.inr (by omega)
        · intro w
          rcases w with w | w
          · exact absurd (z1.trans w) n1
          · omega
      · rw [hA, hC]
        have d13' : a_i y 127 (166 + 5 * i + 3) = nI en := d13.trans z1
        have n1' : ¬ nI en = -1 := by rw [← z1]; exact n1
        have ll : (nI bg < nI en) = True := by rw [nI_lI (by omega) (by omega)]; exact eq_true c11
        unfold Cal
        rw [l_X12_laysTurn]
        simp only [am_en, am_ag, ct_i, ct_r, ct_l, List.length_cons, List.length_nil, List.replicate]
        by_cases c14 : x 14 i = 2 <;> simp [w_aload_n0 (M := mX12_laysTurn) dX12_laysTurn_0, w_iload_n1 (M := mX12_laysTurn) dX12_laysTurn_1, w_iconst (M := mX12_laysTurn) (v := 0) dX12_laysTurn_2 rfl, c_12_415 (M := mX12_laysTurn) dX12_laysTurn_3 rfl, w_istore_n (M := mX12_laysTurn) (i := 2) dX12_laysTurn_6 rfl (by decide), w_aload_n0 (M := mX12_laysTurn) dX12_laysTurn_7, w_getA (M := mX12_laysTurn) dX12_laysTurn_8 f_12_121 rfl (by decide) (by decide), w_iload_n2 (M := mX12_laysTurn) dX12_laysTurn_11, w_dup2 (M := mX12_laysTurn) dX12_laysTurn_12, w_iaload (M := mX12_laysTurn) dX12_laysTurn_13, w_iconst (M := mX12_laysTurn) (v := 1) dX12_laysTurn_14 rfl, w_iadd (M := mX12_laysTurn) dX12_laysTurn_15, w_iastore (M := mX12_laysTurn) dX12_laysTurn_16, w_aload_n0 (M := mX12_laysTurn) dX12_laysTurn_17, w_getA (M := mX12_laysTurn) dX12_laysTurn_18 f_12_124 rfl (by decide) (by decide), w_iload_n2 (M := mX12_laysTurn) dX12_laysTurn_21, w_dup2 (M := mX12_laysTurn) dX12_laysTurn_22, w_iaload (M := mX12_laysTurn) dX12_laysTurn_23, w_aload_n0 (M := mX12_laysTurn) dX12_laysTurn_24, w_iload_n1 (M := mX12_laysTurn) dX12_laysTurn_25, w_iconst (M := mX12_laysTurn) (v := 4) dX12_laysTurn_26 rfl, c_12_415 (M := mX12_laysTurn) dX12_laysTurn_27 rfl, w_iconst (M := mX12_laysTurn) (v := 2) dX12_laysTurn_30 rfl, w_ic_ne (M := mX12_laysTurn) (tgt := 38) dX12_laysTurn_31 (by decide), w_iconst (M := mX12_laysTurn) (v := 1) dX12_laysTurn_34 rfl, w_goto (M := mX12_laysTurn) (tgt := 39) dX12_laysTurn_35 (by decide), w_iconst (M := mX12_laysTurn) (v := 0) dX12_laysTurn_38 rfl, w_iadd (M := mX12_laysTurn) dX12_laysTurn_39, w_iastore (M := mX12_laysTurn) dX12_laysTurn_40, w_aload_n0 (M := mX12_laysTurn) dX12_laysTurn_41, w_iload_n1 (M := mX12_laysTurn) dX12_laysTurn_42, w_iconst (M := mX12_laysTurn) (v := 3) dX12_laysTurn_43 rfl, c_12_415 (M := mX12_laysTurn) dX12_laysTurn_44 rfl, w_iconst (M := mX12_laysTurn) (v := (-1)) dX12_laysTurn_47 rfl, w_ic_ne (M := mX12_laysTurn) (tgt := 58) dX12_laysTurn_48 (by decide), w_aload_n0 (M := mX12_laysTurn) dX12_laysTurn_51, w_getI (M := mX12_laysTurn) dX12_laysTurn_52 f_12_424 rfl (by decide) (by decide), w_goto (M := mX12_laysTurn) (tgt := 66) dX12_laysTurn_55 (by decide), w_aload_n0 (M := mX12_laysTurn) dX12_laysTurn_58, w_iload_n1 (M := mX12_laysTurn) dX12_laysTurn_59, w_iconst (M := mX12_laysTurn) (v := 3) dX12_laysTurn_60 rfl, c_12_415 (M := mX12_laysTurn) dX12_laysTurn_61 rfl, w_iconst (M := mX12_laysTurn) (v := 1) dX12_laysTurn_64 rfl, w_isub (M := mX12_laysTurn) dX12_laysTurn_65, w_istore_n (M := mX12_laysTurn) (i := 3) dX12_laysTurn_66 rfl (by decide), w_aload_n0 (M := mX12_laysTurn) dX12_laysTurn_67, w_iload_n1 (M := mX12_laysTurn) dX12_laysTurn_68, w_iconst (M := mX12_laysTurn) (v := 3) dX12_laysTurn_69 rfl, c_12_415 (M := mX12_laysTurn) dX12_laysTurn_70 rfl, w_iconst (M := mX12_laysTurn) (v := (-1)) dX12_laysTurn_73 rfl, w_ic_ne (M := mX12_laysTurn) (tgt := 111) dX12_laysTurn_74 (by decide), w_aload_n0 (M := mX12_laysTurn) dX12_laysTurn_77, w_getA (M := mX12_laysTurn) dX12_laysTurn_78 f_12_127 rfl (by decide) (by decide), w_iload_n2 (M := mX12_laysTurn) dX12_laysTurn_81, w_iload_n1 (M := mX12_laysTurn) dX12_laysTurn_82, w_iastore (M := mX12_laysTurn) dX12_laysTurn_83, w_aload_n0 (M := mX12_laysTurn) dX12_laysTurn_84, w_getA (M := mX12_laysTurn) dX12_laysTurn_85 f_12_112 rfl (by decide) (by decide), w_iload_n2 (M := mX12_laysTurn) dX12_laysTurn_88, w_aload_n0 (M := mX12_laysTurn) dX12_laysTurn_89, w_iload_n1 (M := mX12_laysTurn) dX12_laysTurn_90, w_iconst (M := mX12_laysTurn) (v := 1) dX12_laysTurn_91 rfl, c_12_415 (M := mX12_laysTurn) dX12_laysTurn_92 rfl, w_iastore (M := mX12_laysTurn) dX12_laysTurn_95, w_aload_n0 (M := mX12_laysTurn) dX12_laysTurn_96, w_getA (M := mX12_laysTurn) dX12_laysTurn_97 f_12_115 rfl (by decide) (by decide), w_iload_n2 (M := mX12_laysTurn) dX12_laysTurn_100, w_aload_n0 (M := mX12_laysTurn) dX12_laysTurn_101, w_iload_n1 (M := mX12_laysTurn) dX12_laysTurn_102, w_iconst (M := mX12_laysTurn) (v := 2) dX12_laysTurn_103 rfl, c_12_415 (M := mX12_laysTurn) dX12_laysTurn_104 rfl, w_iastore (M := mX12_laysTurn) dX12_laysTurn_107, w_goto (M := mX12_laysTurn) (tgt := 131) dX12_laysTurn_108 (by decide), w_aload_n0 (M := mX12_laysTurn) dX12_laysTurn_111, w_iload_n1 (M := mX12_laysTurn) dX12_laysTurn_112, c_12_445 (M := mX12_laysTurn) dX12_laysTurn_113 rfl, w_if_eq (M := mX12_laysTurn) (tgt := 131) dX12_laysTurn_116 (by decide), w_aload_n0 (M := mX12_laysTurn) dX12_laysTurn_119, w_getA (M := mX12_laysTurn) dX12_laysTurn_120 f_12_118 rfl (by decide) (by decide), w_iload_n2 (M := mX12_laysTurn) dX12_laysTurn_123, w_aload_n0 (M := mX12_laysTurn) dX12_laysTurn_124, w_iload_n1 (M := mX12_laysTurn) dX12_laysTurn_125, w_iconst (M := mX12_laysTurn) (v := 3) dX12_laysTurn_126 rfl, c_12_415 (M := mX12_laysTurn) dX12_laysTurn_127 rfl, w_iastore (M := mX12_laysTurn) dX12_laysTurn_130, w_aload_n0 (M := mX12_laysTurn) dX12_laysTurn_131, w_iload_n1 (M := mX12_laysTurn) dX12_laysTurn_132, w_iconst (M := mX12_laysTurn) (v := 1) dX12_laysTurn_133 rfl, c_12_415 (M := mX12_laysTurn) dX12_laysTurn_134 rfl, w_istore (M := mX12_laysTurn) dX12_laysTurn_137 (by decide), Kn_v_, Kn_n_, kl_i_, kl_a_, kl_l_, kl_n_, s1_0_, s2_0_, s1_1, s1_2, s1_3, s1_4, s1_5, s1_6, s1_7, s1_8, s1_9, s1_10, s1_11, s1_12, s1_13, s1_14, s2_1, s2_2, s2_3, s2_4, s2_5, s2_6, s2_7, s2_8, s2_9, s2_10, s2_11, s2_12, s2_13, s2_14, List.map_nil, List.map_cons, List.sum_nil, List.sum_cons, ct_i_, ct_r_, ct_l_, t_si_, t_sl_, t_sr_, n_si_, n_sl_, n_sr_, i_si_, i_sl_, i_sr_, l_si_, l_sl_, l_sr_, r_si_, r_sl_, r_sr_, vr_s_, vr_n_, nz_0_, nz_1_, yR.e, q_X12_ofTurn, q_X12_wasSpoken, yR, u0, u1, u2, u3, u4, l0, l1, l2, l3, l4, show 166 + 5 * i + 1 < 20150 by omega, show 166 + 5 * i + 2 < 20150 by omega, show 166 + 5 * i + 3 < 20150 by omega, show 166 + 5 * i + 4 < 20150 by omega, show 166 + 5 * i < 20150 by omega, show 166 + 5 * i < 20149 by omega, show 166 + 5 * i < 20148 by omega, show 166 + 5 * i < 20147 by omega, show 166 + 5 * i < 20146 by omega, d10, d11, d12, d13', d14, ie, ce, pe, e4, n1', y44, c14, ll]
    · refine fin (s_i (s_i y 161 e A) 162 e C) (nI en - 1) en ⟨rfl, rfl, rfl⟩ rfl (fun q j c => by simp (disch := omega) only [ine]) (by simp (disch := omega) only [ine, ieq]) (by simp (disch := omega) only [ine, ieq]) ?_ (fun w => absurd w n1) rfl z3 (fun t ht => ?_) (fun Q => ?_)
      · rw [if_neg (fun w => c11 (Eq.mp lt1 w.2))]
        simp (disch := omega) only [ine]
      · rw [z1, nI_i (by omega)]
        constructor
        · intro w; exact Or.inr (by omega)
        · intro w
          rcases w with w | w
          · exact absurd (z1.trans w) n1
          · omega
      · rw [hA, hC]
        have d13' : a_i y 127 (166 + 5 * i + 3) = nI en := d13.trans z1
        have n1' : ¬ nI en = -1 := by rw [← z1]; exact n1
        have ll : (nI bg < nI en) = False := by rw [nI_lI (by omega) (by omega)]; exact eq_false c11
        unfold Cal
        rw [l_X12_laysTurn]
        simp only [am_en, am_ag, ct_i, ct_r, ct_l, List.length_cons, List.length_nil, List.replicate]
        by_cases c14 : x 14 i = 2 <;> simp [w_aload_n0 (M := mX12_laysTurn) dX12_laysTurn_0, w_iload_n1 (M := mX12_laysTurn) dX12_laysTurn_1, w_iconst (M := mX12_laysTurn) (v := 0) dX12_laysTurn_2 rfl, c_12_415 (M := mX12_laysTurn) dX12_laysTurn_3 rfl, w_istore_n (M := mX12_laysTurn) (i := 2) dX12_laysTurn_6 rfl (by decide), w_aload_n0 (M := mX12_laysTurn) dX12_laysTurn_7, w_getA (M := mX12_laysTurn) dX12_laysTurn_8 f_12_121 rfl (by decide) (by decide), w_iload_n2 (M := mX12_laysTurn) dX12_laysTurn_11, w_dup2 (M := mX12_laysTurn) dX12_laysTurn_12, w_iaload (M := mX12_laysTurn) dX12_laysTurn_13, w_iconst (M := mX12_laysTurn) (v := 1) dX12_laysTurn_14 rfl, w_iadd (M := mX12_laysTurn) dX12_laysTurn_15, w_iastore (M := mX12_laysTurn) dX12_laysTurn_16, w_aload_n0 (M := mX12_laysTurn) dX12_laysTurn_17, w_getA (M := mX12_laysTurn) dX12_laysTurn_18 f_12_124 rfl (by decide) (by decide), w_iload_n2 (M := mX12_laysTurn) dX12_laysTurn_21, w_dup2 (M := mX12_laysTurn) dX12_laysTurn_22, w_iaload (M := mX12_laysTurn) dX12_laysTurn_23, w_aload_n0 (M := mX12_laysTurn) dX12_laysTurn_24, w_iload_n1 (M := mX12_laysTurn) dX12_laysTurn_25, w_iconst (M := mX12_laysTurn) (v := 4) dX12_laysTurn_26 rfl, c_12_415 (M := mX12_laysTurn) dX12_laysTurn_27 rfl, w_iconst (M := mX12_laysTurn) (v := 2) dX12_laysTurn_30 rfl, w_ic_ne (M := mX12_laysTurn) (tgt := 38) dX12_laysTurn_31 (by decide), w_iconst (M := mX12_laysTurn) (v := 1) dX12_laysTurn_34 rfl, w_goto (M := mX12_laysTurn) (tgt := 39) dX12_laysTurn_35 (by decide), w_iconst (M := mX12_laysTurn) (v := 0) dX12_laysTurn_38 rfl, w_iadd (M := mX12_laysTurn) dX12_laysTurn_39, w_iastore (M := mX12_laysTurn) dX12_laysTurn_40, w_aload_n0 (M := mX12_laysTurn) dX12_laysTurn_41, w_iload_n1 (M := mX12_laysTurn) dX12_laysTurn_42, w_iconst (M := mX12_laysTurn) (v := 3) dX12_laysTurn_43 rfl, c_12_415 (M := mX12_laysTurn) dX12_laysTurn_44 rfl, w_iconst (M := mX12_laysTurn) (v := (-1)) dX12_laysTurn_47 rfl, w_ic_ne (M := mX12_laysTurn) (tgt := 58) dX12_laysTurn_48 (by decide), w_aload_n0 (M := mX12_laysTurn) dX12_laysTurn_51, w_getI (M := mX12_laysTurn) dX12_laysTurn_52 f_12_424 rfl (by decide) (by decide), w_goto (M := mX12_laysTurn) (tgt := 66) dX12_laysTurn_55 (by decide), w_aload_n0 (M := mX12_laysTurn) dX12_laysTurn_58, w_iload_n1 (M := mX12_laysTurn) dX12_laysTurn_59, w_iconst (M := mX12_laysTurn) (v := 3) dX12_laysTurn_60 rfl, c_12_415 (M := mX12_laysTurn) dX12_laysTurn_61 rfl, w_iconst (M := mX12_laysTurn) (v := 1) dX12_laysTurn_64 rfl, w_isub (M := mX12_laysTurn) dX12_laysTurn_65, w_istore_n (M := mX12_laysTurn) (i := 3) dX12_laysTurn_66 rfl (by decide), w_aload_n0 (M := mX12_laysTurn) dX12_laysTurn_67, w_iload_n1 (M := mX12_laysTurn) dX12_laysTurn_68, w_iconst (M := mX12_laysTurn) (v := 3) dX12_laysTurn_69 rfl, c_12_415 (M := mX12_laysTurn) dX12_laysTurn_70 rfl, w_iconst (M := mX12_laysTurn) (v := (-1)) dX12_laysTurn_73 rfl, w_ic_ne (M := mX12_laysTurn) (tgt := 111) dX12_laysTurn_74 (by decide), w_aload_n0 (M := mX12_laysTurn) dX12_laysTurn_77, w_getA (M := mX12_laysTurn) dX12_laysTurn_78 f_12_127 rfl (by decide) (by decide), w_iload_n2 (M := mX12_laysTurn) dX12_laysTurn_81, w_iload_n1 (M := mX12_laysTurn) dX12_laysTurn_82, w_iastore (M := mX12_laysTurn) dX12_laysTurn_83, w_aload_n0 (M := mX12_laysTurn) dX12_laysTurn_84, w_getA (M := mX12_laysTurn) dX12_laysTurn_85 f_12_112 rfl (by decide) (by decide), w_iload_n2 (M := mX12_laysTurn) dX12_laysTurn_88, w_aload_n0 (M := mX12_laysTurn) dX12_laysTurn_89, w_iload_n1 (M := mX12_laysTurn) dX12_laysTurn_90, w_iconst (M := mX12_laysTurn) (v := 1) dX12_laysTurn_91 rfl, c_12_415 (M := mX12_laysTurn) dX12_laysTurn_92 rfl, w_iastore (M := mX12_laysTurn) dX12_laysTurn_95, w_aload_n0 (M := mX12_laysTurn) dX12_laysTurn_96, w_getA (M := mX12_laysTurn) dX12_laysTurn_97 f_12_115 rfl (by decide) (by decide), w_iload_n2 (M := mX12_laysTurn) dX12_laysTurn_100, w_aload_n0 (M := mX12_laysTurn) dX12_laysTurn_101, w_iload_n1 (M := mX12_laysTurn) dX12_laysTurn_102, w_iconst (M := mX12_laysTurn) (v := 2) dX12_laysTurn_103 rfl, c_12_415 (M := mX12_laysTurn) dX12_laysTurn_104 rfl, w_iastore (M := mX12_laysTurn) dX12_laysTurn_107, w_goto (M := mX12_laysTurn) (tgt := 131) dX12_laysTurn_108 (by decide), w_aload_n0 (M := mX12_laysTurn) dX12_laysTurn_111, w_iload_n1 (M := mX12_laysTurn) dX12_laysTurn_112, c_12_445 (M := mX12_laysTurn) dX12_laysTurn_113 rfl, w_if_eq (M := mX12_laysTurn) (tgt := 131) dX12_laysTurn_116 (by decide), w_aload_n0 (M := mX12_laysTurn) dX12_laysTurn_119, w_getA (M := mX12_laysTurn) dX12_laysTurn_120 f_12_118 rfl (by decide) (by decide), w_iload_n2 (M := mX12_laysTurn) dX12_laysTurn_123, w_aload_n0 (M := mX12_laysTurn) dX12_laysTurn_124, w_iload_n1 (M := mX12_laysTurn) dX12_laysTurn_125, w_iconst (M := mX12_laysTurn) (v := 3) dX12_laysTurn_126 rfl, c_12_415 (M := mX12_laysTurn) dX12_laysTurn_127 rfl, w_iastore (M := mX12_laysTurn) dX12_laysTurn_130, w_aload_n0 (M := mX12_laysTurn) dX12_laysTurn_131, w_iload_n1 (M := mX12_laysTurn) dX12_laysTurn_132, w_iconst (M := mX12_laysTurn) (v := 1) dX12_laysTurn_133 rfl, c_12_415 (M := mX12_laysTurn) dX12_laysTurn_134 rfl, w_istore (M := mX12_laysTurn) dX12_laysTurn_137 (by decide), Kn_v_, Kn_n_, kl_i_, kl_a_, kl_l_, kl_n_, s1_0_, s2_0_, s1_1, s1_2, s1_3, s1_4, s1_5, s1_6, s1_7, s1_8, s1_9, s1_10, s1_11, s1_12, s1_13, s1_14, s2_1, s2_2, s2_3, s2_4, s2_5, s2_6, s2_7, s2_8, s2_9, s2_10, s2_11, s2_12, s2_13, s2_14, List.map_nil, List.map_cons, List.sum_nil, List.sum_cons, ct_i_, ct_r_, ct_l_, t_si_, t_sl_, t_sr_, n_si_, n_sl_, n_sr_, i_si_, i_sl_, i_sr_, l_si_, l_sl_, l_sr_, r_si_, r_sl_, r_sr_, vr_s_, vr_n_, nz_0_, nz_1_, yR.e, q_X12_ofTurn, q_X12_wasSpoken, yR, u0, u1, u2, u3, u4, l0, l1, l2, l3, l4, show 166 + 5 * i + 1 < 20150 by omega, show 166 + 5 * i + 2 < 20150 by omega, show 166 + 5 * i + 3 < 20150 by omega, show 166 + 5 * i + 4 < 20150 by omega, show 166 + 5 * i < 20150 by omega, show 166 + 5 * i < 20149 by omega, show 166 + 5 * i < 20148 by omega, show 166 + 5 * i < 20147 by omega, show 166 + 5 * i < 20146 by omega, d10, d11, d12, d13', d14, ie, ce, pe, e4, n1', y44, c14, ll]
end RLAYS
