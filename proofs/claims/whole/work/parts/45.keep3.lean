/-! a step kept: the one side's call -/
section KEEP3
variable {X : PX} {h : am_h} {d n k p : Nat}
theorem shL_7 {t : Nat → Nat × Nat} {r : Nat → Nat → Option Nat} (k : sh_C t r) : shL t r 7 := by
  have e : ∀ e, e < 4 → t (7 + 5 + e) = (3, 14) ∧ r (7 + 4) e = some (7 + 5 + e) := by
    intro e he
    unfold sh_C at k
    have : e = 0 ∨ e = 1 ∨ e = 2 ∨ e = 3 := by omega
    rcases this with rfl | rfl | rfl | rfl <;> simp [k]
  unfold sh_C at k
  refine ⟨?_, ?_, ?_, ?_, ?_, e, ?_, ?_, ?_, ?_⟩ <;> simp [k]
theorem nI_rm30 (hk : k < 2000000000) : nI k - nI k / 30 * 30 = nI (k % 30) := nI_rm (b := 30) hk (by omega)
set_option maxRecDepth 20000 in
set_option maxHeartbeats 4000000 in
theorem keepM {h0 : am_h} (kk : Inv X h0) (hn : a_i h0 127 3 = nI n) (hn2 : n ≤ 30) (hk : k < 30) (hk2 : a_i h0 1 5 = nI k) (hp : a_r h0 25 k = some p) (hC : sh_C (a_t h) (a_r h)) (h15 : a_i h 1 5 = nI k) (c : ∀ Q, Cal (d + 2) mX8_stepRow [.ref 1, .int (nI k)] h Q = Q (some (.ref p)) h0) : ∃ h1, (∀ Q, Cal (d + 3) mX8_keepStep [.ref 1] h Q = Q none h1) ∧ Inv X (s_w h1 127 (KS n (a_i h0 127))) ∧ (∀ q j, 2 ≤ q → q < 177 → a_i h1 q j = a_i h0 q j) ∧ (∀ j, 6 ≤ j → a_i h1 1 j = a_i h0 1 j) ∧ a_t h1 = a_t h0 ∧ a_r h1 = a_r h0 := by
  obtain ⟨⟨s1, s2, s3, s4, s5⟩, ⟨⟨r1, r2, r3, r4, r5⟩, r6, r7, r8, r9⟩, c1, tp, tn, tx⟩ := id kk
  obtain ⟨p1, p2, p3⟩ := s3.2.1 0 k p (Or.inl rfl) hk hp
  have hz : ∀ e, e < 4 → a_i h0 (7 + 5 + e) 0 = 0 ∨ a_i h0 (7 + 5 + e) 0 = 1 := by
    intro e he
    have z1 := (r6.2.2.2.2.2.2 e he).1
    have z2 := (r9.1.2.2.2.2.1 e he).1
    rw [show 7 + 0 + 5 + e = 7 + 5 + e by omega] at z1
    rw [z1]
    exact z2
  have e14 : a_i h0 1 4 = nI n := by
    have := r8.1
    rw [hn] at this
    exact this
  obtain ⟨h', w0, w⟩ := q_X5_copyFrom (d := d + 1) p3 (shL_7 s1) (Or.inr (by omega)) hz
  have wt := w.1.1
  have wr := w.1.2.1
  have wi := w.2.2.2.2.1
  refine ⟨s_i (s_i h' 1 5 (nI ((k + 1) % 30))) 1 4 (nI (if n = 30 then 30 else n + 1)), fun Q => ?_, Inv_keep kk hn hn2 hk hk2 hp w, fun q j h1 h2 => ?_, fun j hj => ?_, wt, wr⟩
  · unfold Cal
    rw [l_X8_keepStep]
    simp only [am_en, am_ag, ct_i, ct_r, ct_l, List.length_cons, List.length_nil, List.replicate]
    have y4 : a_i h' 1 4 = nI n := by rw [wi _ _ (by omega)]; exact e14
    have y5 : a_i h' 1 5 = nI k := by rw [wi _ _ (by omega)]; exact hk2
    have y6 : (if (30 : Int32) < nI (n + 1) then (30 : Int32) else nI (n + 1)) = nI (if n = 30 then 30 else n + 1) := by
      by_cases c : n = 30
      · rw [if_pos c]; subst c; rfl
      · rw [if_neg c]
        exact if_neg (by rw [show (30 : Int32) = nI 30 from rfl, nI_lI (by omega) (by omega)]; omega)
    have sC : sh_C (a_t h') (a_r h') := by rw [wt, wr]; exact s1
    simp [w_aload_n0 (M := mX8_keepStep) dX8_keepStep_0, w_aload_n0 (M := mX8_keepStep) dX8_keepStep_1, w_getI (M := mX8_keepStep) dX8_keepStep_2 f_8_77 rfl (by decide) (by decide), c_8_70 (M := mX8_keepStep) dX8_keepStep_5 rfl, w_aload_n0 (M := mX8_keepStep) dX8_keepStep_8, w_getO (M := mX8_keepStep) dX8_keepStep_9 f_8_21 rfl (by decide) (by decide), c_8_64 (M := mX8_keepStep) dX8_keepStep_12 rfl, w_aload_n0 (M := mX8_keepStep) dX8_keepStep_15, w_aload_n0 (M := mX8_keepStep) dX8_keepStep_16, w_getI (M := mX8_keepStep) dX8_keepStep_17 f_8_77 rfl (by decide) (by decide), w_iconst (M := mX8_keepStep) (v := 1) dX8_keepStep_20 rfl, w_iadd (M := mX8_keepStep) dX8_keepStep_21, w_bipush (M := mX8_keepStep) (v := 30) dX8_keepStep_22 rfl, w_irem (M := mX8_keepStep) dX8_keepStep_24, w_putI (M := mX8_keepStep) dX8_keepStep_25 f_8_77 rfl (Or.inl rfl), w_aload_n0 (M := mX8_keepStep) dX8_keepStep_28, w_aload_n0 (M := mX8_keepStep) dX8_keepStep_29, w_getI (M := mX8_keepStep) dX8_keepStep_30 f_8_74 rfl (by decide) (by decide), w_iconst (M := mX8_keepStep) (v := 1) dX8_keepStep_33 rfl, w_iadd (M := mX8_keepStep) dX8_keepStep_34, w_bipush (M := mX8_keepStep) (v := 30) dX8_keepStep_35 rfl, w_mn (M := mX8_keepStep) dX8_keepStep_37 lk_8_98, w_putI (M := mX8_keepStep) dX8_keepStep_40 f_8_74 rfl (Or.inl rfl), w_vret (M := mX8_keepStep) dX8_keepStep_43 rfl, Kn_v_, Kn_n_, kl_i_, kl_a_, kl_l_, kl_n_, s1_0_, s2_0_, s1_1, s1_2, s1_3, s1_4, s1_5, s1_6, s1_7, s1_8, s1_9, s1_10, s1_11, s1_12, s1_13, s1_14, s2_1, s2_2, s2_3, s2_4, s2_5, s2_6, s2_7, s2_8, s2_9, s2_10, s2_11, s2_12, s2_13, s2_14, List.map_nil, List.map_cons, List.sum_nil, List.sum_cons, ct_i_, ct_r_, ct_l_, t_si_, t_sl_, t_sr_, n_si_, n_sl_, n_sr_, i_si_, i_sl_, i_sr_, l_si_, l_sl_, l_sr_, r_si_, r_sl_, r_sr_, vr_s_, vr_n_, nz_0_, nz_1_, hC.e, h15, c, s1.e, w0, sC.e, y4, y5, nI_s, nI_rm30 (k := k + 1) (by omega), y6, p3.1]
  · rw [ine (by omega), ine (by omega)]
    exact wi _ _ (by omega)
  · rw [ine (by omega), ine (by omega)]
    exact wi _ _ (by omega)
theorem keepS (kk : Inv X h) : ∃ (n : Nat) (h1 : am_h), a_i h 127 3 = nI n ∧ n ≤ 30 ∧ (∀ Q, Cal (d + 3) mX8_keepStep [.ref 1] h Q = Q none h1) ∧ Inv X (s_w h1 127 (KS n (a_i h 127))) ∧ (∀ q j, 2 ≤ q → q < 177 → a_i h1 q j = a_i h q j) ∧ (∀ j, 6 ≤ j → a_i h1 1 j = a_i h 1 j) ∧ (∀ q, q < 177 → a_t h1 q = a_t h q) := by
  have hC := kk.1.1
  have s3 := kk.1.2.2.1
  have s5 := kk.1.2.2.2.2
  have r5 := kk.2.1.1.2.2.2.2
  have r8 := kk.2.1.2.2.2.1
  obtain ⟨n, n1, n2, n3⟩ := btn r5.2.2.2.1 (by omega) (by omega)
  have hn2 : n ≤ 30 := by have := r5.2.2.2.1; unfold bt at this; omega
  obtain ⟨k81, ⟨k, k82, k83, k84⟩, k85⟩ := r8
  rw [show 1 + 0 = 1 from rfl] at k83
  have hN : a_n h < 800000 := by unfold rRm at s5; omega
  cases hp : a_r h 25 k with
  | some p =>
    obtain ⟨h1, a1, a2, a3, a4, a5, a6⟩ := keepM (d := d) (h := h) kk n1 hn2 k82 k83 hp hC k83 (fun Q => q_X8_stepRow_has (by simp [hC.e]) (by simp [hC.e]) (by simp [hC.e]) k82 hp)
    exact ⟨n, h1, n1, hn2, a1, a2, a3, a4, fun q _ => by rw [a5]⟩
  | none =>
    obtain ⟨h0, c0, w⟩ := q_X8_stepRow_new (d := d) (h := h) (S := 1) (T := 25) (i := k) (by simp [hC.e]) (by simp [hC.e]) (by simp [hC.e]) k82 hp (by have := s3.1; omega) (by have := s3.1; omega) hN
    have kk0 := Inv_new (o := 0) kk (Or.inl rfl) k82 hp w
    have w6 := w.2.2.2.2.2
    have hi : ∀ q j, q < 177 → a_i h0 q j = a_i h q j := fun q j hq => ((w6 q (by have := s3.1; omega)).2 j).1
    have e127 : a_i h0 127 = a_i h 127 := funext fun j => hi 127 j (by omega)
    obtain ⟨h1, a1, a2, a3, a4, a5, a6⟩ := keepM (d := d) (h := h) kk0 (by rw [e127]; exact n1) hn2 k82 (by rw [hi _ _ (by omega)]; exact k83) w.2.2.2.2.1 hC k83 c0
    rw [e127] at a2
    refine ⟨n, h1, n1, hn2, a1, a2, fun q j h1 h2 => ?_, fun j hj => ?_, fun q hq => ?_⟩
    · rw [a3 q j h1 h2, hi q j h2]
    · rw [a4 j hj, hi 1 j (by omega)]
    · rw [a5]; exact (w6 q (by have := s3.1; omega)).1
end KEEP3
