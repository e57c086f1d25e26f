/-! a tenth: one that speaks goes on: the other side -/
section RSPK
variable {e n m j i T r c d K : Nat} {s : TS} {h0 h h1 x : am_h} {b0 v z kd b l : Int32} {u : Nat → Int32} {V VW VS VL : (Nat → Int32) → Int32 → Int32} {w : Nat} {g : Nat → Int32} {F W : Nat → Bool} {Q : Option Value → am_h → Prop}
theorem nmF_c {g g' : Nat → Int32} {rl tu cu : Int32} (h : ∀ j, j < 90 → ¬ j = 3 → g j = g' j) (he : e < 4) : nmF g e rl tu cu = nmF g' e rl tu cu := by
  funext a
  have : a = 0 ∨ a = 1 ∨ a = 2 ∨ a = 3 ∨ a = 4 ∨ a = 5 ∨ a = 6 ∨ a = 7 ∨ a = 8 ∨ 9 ≤ a := by omega
  rcases this with rfl | rfl | rfl | rfl | rfl | rfl | rfl | rfl | rfl | q
  · rfl
  · exact h 0 (by omega) (by omega)
  · rfl
  · rfl
  · rfl
  · exact h _ (by omega) (by omega)
  · exact h _ (by omega) (by omega)
  · exact h _ (by omega) (by omega)
  · exact h _ (by omega) (by omega)
  · unfold nmF
    split <;> first | omega | rfl
/-- a law asked in a heap that is near -/
theorem r_of (B : rBs m n g VW VS VL h0) (k : rJ m n b0 u h0 h s) (xs : sm h x) (xi : ∀ q j, ¬ (q = 127 ∧ 90 ≤ j) → ¬ (152 ≤ q ∧ q ≤ 160) → ¬ q = 163 → a_i x q j = a_i h q j) {w : Nat} (hx : LX h0 w V) (hw : w < 3) (he : e < n) (nb : ∀ b, b < 9 → inM (nmS g s e b)) {v : Int32} : ∃ h', (∀ Q, Cal (d + 3) mX12_lawOf [.ref 126, .int (nI w), .int (nI e), .int v, .int (lo5 w), .int (hi5 w)] x Q = Q (some (.int (V (nmS g s e) v))) h') ∧ lwr x h' := by
  obtain ⟨m1, x0, x1, x2, G, hg⟩ := B
  have n4 := G.1
  have X1 : LX x w V := LX_fr xs.1 xs.2.1 (fun q j c => xi q j (by omega) (by omega) (by omega)) (xi _ _ (by omega) (by omega) (by omega)) (k.X hx)
  obtain ⟨a1, a2, a3, a4, a5, a6⟩ := k.2.1
  obtain ⟨z1, z2, z3, z4, z5, z6, z7, z8, z9, z10⟩ := k.2.2.1 e (by omega)
  have gx : ∀ j, j < 90 → ¬ j = 3 → a_i x 127 j = g j := fun j h1 h2 => by rw [xi _ _ (by omega) (by omega) (by omega), k.gg h1]; exact hg j h1 h2
  have nm : nmF (a_i x 127) e (a_i x 126 45) (a_i x 161 e) (a_i x 162 e) = nmS g s e := by
    rw [xi 126 45 (by omega) (by omega) (by omega), xi 161 e (by omega) (by omega) (by omega), xi 162 e (by omega) (by omega) (by omega), a4, z8, z9]
    exact nmF_c gx (by omega)
  have := r_lawOf (d := d) X1 hw (e := e) (by omega) (v := v) (by rw [gx 0 (by omega) (by omega), G.2.1, xi _ _ (by omega) (by omega) (by omega)]; exact a2) (by rw [nm]; exact nb)
  rw [nm] at this
  exact this
theorem and63 {t : Nat} (ht : t < 2000000) : nI t &&& 63 = nI (t % 64) := by
  apply Int32.toBitVec_inj.mp
  rw [Int32.toBitVec_and]
  show BitVec.ofNat 32 t &&& BitVec.ofNat 32 63 = BitVec.ofNat 32 (t % 64)
  apply BitVec.eq_of_toNat_eq
  rw [BitVec.toNat_and, BitVec.toNat_ofNat, BitVec.toNat_ofNat, BitVec.toNat_ofNat]
  rw [Nat.mod_eq_of_lt (show t < 2 ^ 32 by omega), Nat.mod_eq_of_lt (show 63 < 2 ^ 32 by omega), Nat.mod_eq_of_lt (show t % 64 < 2 ^ 32 by omega)]
  exact Nat.and_two_pow_sub_one_eq_mod t 6
/-- who speaks in the tenth now: one more -/
theorem r_saysNow (hR : sh_R (a_t h) (a_r h)) (ht : a_i h 126 44 = nI T) (hT : T < 2000000) (he : e < 4) (hs : a_i h 166 (T % 64) = nI (bN W)) : Cal d mX12_saysNow [.ref 126, .int (nI e)] h Q = Q none (s_i h 166 (T % 64) (nI (bN (fun i => W i || decide (i = e))))) := by
  rw [q_X12_saysNow (eq_true hR), ht, and63 hT]
  rw [nI_c (a := T % 64) (by omega), nI_p (a := T % 64) (by omega), eq_true (show T % 64 < 64 by omega), hs, bN_or he]
  simp
theorem q_toldr (hR : sh_R (a_t h) (a_r h)) (he : e < 4) (hj : j < 4) : Cal d mX12_told [.ref 126, .int (nI e), .int (nI j)] h Q = Q (some (.int (a_i h 127 (12 + 4 * e + j)))) h := by
  rw [q_X12_told (eq_true hR)]
  have : 12 + 4 * nI e + nI j = nI (12 + 4 * e + j) := by
    rw [show (12 : Int32) = nI 12 from rfl, show (4 : Int32) = nI 4 from rfl, nI_m, nI_a, nI_a]
  rw [this, nI_c (by omega), nI_p (by omega), eq_true (show 12 + 4 * e + j < 20150 by omega)]
  simp
/-- what acts leave as it was, but for the one who spoke -/
def rKp (h h' : am_h) (T : Nat) : Prop := (∀ j, ¬ j = T % 64 → a_i h' 166 j = a_i h 166 j) ∧ ∀ j, a_i h' 164 j = a_i h 164 j
theorem rKp.tr {T : Nat} {x y z : am_h} (a : rKp x y T) (b : rKp y z T) : rKp x z T := ⟨fun j hj => (b.1 j hj).trans (a.1 j hj), fun j => (b.2 j).trans (a.2 j)⟩
set_option maxRecDepth 20000 in
set_option maxHeartbeats 2000000 in
theorem r_goesSpeaking (B : rBs m n g VW VS VL h0) (k : rJ m n b0 u h0 h s) (P : PA m n K s) (hK : K ≤ 100000) (he : e < n) (h1e : s 1 e = 1) (hu : u e = s 0 1) (h23 : bt 0 (s 23 e) 100000) (ht : s 0 1 = nI T) (hT : T ≤ 100000) (hh : a_i h 164 e = nI (bN F)) (hW : a_i h 166 (T % 64) = nI (bN W)) : ∃ h' W', (∀ Q, Cal (d + 5) mX12_goesSpeaking [.ref 126, .int (nI e)] h Q = Q none h') ∧ rJ m n b0 (fun e' => if e' = e then s 0 1 + 1 else u e') h0 h' (aS g VS (decide (¬ bN F = 0)) s e) ∧ rKp h h' T ∧ a_i h' 166 (T % 64) = nI (bN W') ∧ (∀ i, W' i = (W i || (decide (i = e) && decide (aS g VS (decide (¬ bN F = 0)) s e 1 e = 1)))) := by
  have B' := B
  obtain ⟨m1, x0, x1, x2, G, hg⟩ := B'
  have n4 := G.1
  have hR := k.R x0.2.1
  obtain ⟨a1, a2, a3, a4, a5, a6⟩ := k.2.1
  obtain ⟨z1, z2, z3, z4, z5, z6, z7, z8, z9, z10⟩ := k.2.2.1 e (by omega)
  have ie : am_in1 (nI e) 4 = True := by rw [in1_n (by omega)]; exact eq_true (by omega)
  have ce : (nI e).toNatClampNeg = e := nI_c (by omega)
  have pe : (0 ≤ nI e) = True := nI_p (by omega)
  have hz : (nI (bN F) = 0) = (bN F = 0) := nI_e0 (by have := bN_l (f := F); omega)
  obtain ⟨q, hq⟩ : ∃ q, q = (if (decide (¬ bN F = 0)) = true then s 4 e + 1 else 0) := ⟨_, rfl⟩
  have k1 : rJ m n b0 u h0 (s_i h 155 e q) (up s 4 e q) := k.uc (by omega) (by omega) rfl
  have nm1 : nmS g (up s 4 e q) e = nmS g s e := by
    unfold nmS
    rw [upn (by omega), upn (by omega), upn (by omega)]
  obtain ⟨h2, o1, o2⟩ := r_of (d := d) B k1 (x := s_i h 155 e q) ⟨rfl, rfl, rfl⟩ (fun _ _ _ _ _ => rfl) x1 (by omega) he (by rw [nm1]; exact nb_of G he P hK) (v := tw g 1 e)
  rw [nm1] at o1
  have k2 := k1.lw o2
  have hR2 := k2.R x0.2.1
  have tl : ∀ d Q, Cal d mX12_told [.ref 126, .int (nI e), .int 2] (s_i h 155 e q) Q = Q (some (.int (tw g 1 e))) (s_i h 155 e q) := by
    intro d Q
    have := q_toldr (d := d) (Q := Q) (h := s_i h 155 e q) (e := e) (j := 2) hR (by omega) (by omega)
    rw [show (2 : Int32) = nI 2 from rfl, this]
    rw [show a_i (s_i h 155 e q) 127 (12 + 4 * e + 2) = tw g 1 e by
      rw [k1.gg (by omega)]
      exact hg _ (by omega) (by omega)]
  obtain ⟨st, hst⟩ : ∃ st, st = VS (nmS g s e) (tw g 1 e) := ⟨_, rfl⟩
  rw [← hst] at o1
  have m2 : (nI m = 2) = False := by
    rw [show (2 : Int32) = nI 2 from rfl, nI_inj (by omega) (by omega)]
    exact eq_false (by omega)
  have sO : ∀ Q, Cal (d + 4) mX12_stopsOf [.ref 126, .int (nI e)] (s_i h 155 e q) Q = Q (some (.int st)) h2 := by
    intro Q
    have o1' := fun Q => o1 Q
    rw [show nI 1 = 1 from rfl, show lo5 1 = 0 from rfl, show hi5 1 = 99 from rfl] at o1'
    unfold Cal
    rw [l_X12_stopsOf]
    simp only [am_en, am_ag, ct_i, ct_r, ct_l, List.length_cons, List.length_nil, List.replicate]
    simp [w_aload_n0 (M := mX12_stopsOf) dX12_stopsOf_0, w_getI (M := mX12_stopsOf) dX12_stopsOf_1 f_12_418 rfl (by decide) (by decide), w_iconst (M := mX12_stopsOf) (v := 2) dX12_stopsOf_4 rfl, w_ic_ne (M := mX12_stopsOf) (tgt := 15) dX12_stopsOf_5 (by decide), w_aload_n0 (M := mX12_stopsOf) dX12_stopsOf_8, w_getI (M := mX12_stopsOf) dX12_stopsOf_9 f_12_465 rfl (by decide) (by decide), w_goto (M := mX12_stopsOf) (tgt := 30) dX12_stopsOf_12 (by decide), w_aload_n0 (M := mX12_stopsOf) dX12_stopsOf_15, w_iconst (M := mX12_stopsOf) (v := 1) dX12_stopsOf_16 rfl, w_iload_n1 (M := mX12_stopsOf) dX12_stopsOf_17, w_aload_n0 (M := mX12_stopsOf) dX12_stopsOf_18, w_iload_n1 (M := mX12_stopsOf) dX12_stopsOf_19, w_iconst (M := mX12_stopsOf) (v := 2) dX12_stopsOf_20 rfl, c_12_448 (M := mX12_stopsOf) dX12_stopsOf_21 rfl, w_iconst (M := mX12_stopsOf) (v := 0) dX12_stopsOf_24 rfl, w_bipush (M := mX12_stopsOf) (v := 99) dX12_stopsOf_25 rfl, c_12_468 (M := mX12_stopsOf) dX12_stopsOf_27 rfl, w_iret (M := mX12_stopsOf) dX12_stopsOf_30 rfl, Kn_v_, Kn_n_, kl_i_, kl_a_, kl_l_, kl_n_, s1_0_, s2_0_, s1_1, s1_2, s1_3, s1_4, s1_5, s1_6, s1_7, s1_8, s1_9, s1_10, s1_11, s1_12, s1_13, s1_14, s2_1, s2_2, s2_3, s2_4, s2_5, s2_6, s2_7, s2_8, s2_9, s2_10, s2_11, s2_12, s2_13, s2_14, List.map_nil, List.map_cons, List.sum_nil, List.sum_cons, ct_i_, ct_r_, ct_l_, t_si_, t_sl_, t_sr_, n_si_, n_sl_, n_sr_, i_si_, i_sl_, i_sr_, l_si_, l_sl_, l_sr_, r_si_, r_sl_, r_sr_, vr_s_, vr_n_, nz_0_, nz_1_, hR.e, a1, m2, tl, o1']
  have q2 : a_i h2 155 e = q := by rw [o2.2.2 _ _ (by omega)]; exact ieq rfl rfl
  have b44 : a_i h2 126 44 = s 0 1 := by rw [o2.2.2 _ _ (by omega), ine (by omega)]; exact a3
  have b158 : a_i h2 158 e = s 0 1 - s 23 e := by rw [o2.2.2 _ _ (by omega), ine (by omega), (z10 h1e).1, hu]
  have b159 : a_i h2 159 e = s 22 e := by rw [o2.2.2 _ _ (by omega), ine (by omega)]; exact (z10 h1e).2.1
  have kp2 : rKp h h2 T := ⟨fun j hj => by rw [o2.2.2 _ _ (by omega), ine (by omega)], fun j => by rw [o2.2.2 _ _ (by omega), ine (by omega)]⟩
  have w2 : a_i h2 166 (T % 64) = nI (bN W) := by rw [o2.2.2 _ _ (by omega), ine (by omega)]; exact hW
  have u1 : up s 4 e q 1 e = 1 := by rw [upn (by omega)]; exact h1e
  have en := fun kd (hk : kd = 1 ∨ kd = 2) => r_endsTurn (d := d + 4) (kd := kd) B k2 (e := e) (by omega) u1 (by rw [upn (by omega)]; exact hu) (by rw [upn (by omega)]; exact h23) (by rw [upn (by omega), ht]; unfold bt; rw [nI_i (by omega)]; omega) (fun z => by rw [upn (by omega)]; exact (P.2.2 e (by omega)).2.2.2.2.2 z h1e) hk
  have start : ∀ Q, Cal (d + 5) mX12_goesSpeaking [.ref 126, .int (nI e)] h Q = WP (d + 5) mX12_goesSpeaking 33 [some (.ref 126), some (.int (nI e)), some (.int st)] [] h2 Q := by
    intro Q
    unfold Cal
    rw [l_X12_goesSpeaking]
    simp only [am_en, am_ag, ct_i, ct_r, ct_l, List.length_cons, List.length_nil, List.replicate]
    by_cases c : bN F = 0
    · have q0 : q = 0 := by rw [hq, if_neg (by simp [c])]
      rw [q0] at sO
      simp [w_aload_n0 (M := mX12_goesSpeaking) dX12_goesSpeaking_0, w_getA (M := mX12_goesSpeaking) dX12_goesSpeaking_1 f_12_103 rfl (by decide) (by decide), w_iload_n1 (M := mX12_goesSpeaking) dX12_goesSpeaking_4, w_aload_n0 (M := mX12_goesSpeaking) dX12_goesSpeaking_5, w_getA (M := mX12_goesSpeaking) dX12_goesSpeaking_6 f_12_130 rfl (by decide) (by decide), w_iload_n1 (M := mX12_goesSpeaking) dX12_goesSpeaking_9, w_iaload (M := mX12_goesSpeaking) dX12_goesSpeaking_10, w_if_ne (M := mX12_goesSpeaking) (tgt := 18) dX12_goesSpeaking_11 (by decide), w_iconst (M := mX12_goesSpeaking) (v := 0) dX12_goesSpeaking_14 rfl, w_goto (M := mX12_goesSpeaking) (tgt := 26) dX12_goesSpeaking_15 (by decide), w_aload_n0 (M := mX12_goesSpeaking) dX12_goesSpeaking_18, w_getA (M := mX12_goesSpeaking) dX12_goesSpeaking_19 f_12_103 rfl (by decide) (by decide), w_iload_n1 (M := mX12_goesSpeaking) dX12_goesSpeaking_22, w_iaload (M := mX12_goesSpeaking) dX12_goesSpeaking_23, w_iconst (M := mX12_goesSpeaking) (v := 1) dX12_goesSpeaking_24 rfl, w_iadd (M := mX12_goesSpeaking) dX12_goesSpeaking_25, w_iastore (M := mX12_goesSpeaking) dX12_goesSpeaking_26, w_aload_n0 (M := mX12_goesSpeaking) dX12_goesSpeaking_27, w_iload_n1 (M := mX12_goesSpeaking) dX12_goesSpeaking_28, c_12_484 (M := mX12_goesSpeaking) dX12_goesSpeaking_29 rfl, w_istore_n (M := mX12_goesSpeaking) (i := 2) dX12_goesSpeaking_32 rfl (by decide), Kn_v_, Kn_n_, kl_i_, kl_a_, kl_l_, kl_n_, s1_0_, s2_0_, s1_1, s1_2, s1_3, s1_4, s1_5, s1_6, s1_7, s1_8, s1_9, s1_10, s1_11, s1_12, s1_13, s1_14, s2_1, s2_2, s2_3, s2_4, s2_5, s2_6, s2_7, s2_8, s2_9, s2_10, s2_11, s2_12, s2_13, s2_14, List.map_nil, List.map_cons, List.sum_nil, List.sum_cons, ct_i_, ct_r_, ct_l_, t_si_, t_sl_, t_sr_, n_si_, n_sl_, n_sr_, i_si_, i_sl_, i_sr_, l_si_, l_sl_, l_sr_, r_si_, r_sl_, r_sr_, vr_s_, vr_n_, nz_0_, nz_1_, hR.e, ie, ce, hh, hz, c, sO, show nI 0 = 0 from rfl]
    · have q0 : q = s 4 e + 1 := by rw [hq, if_pos (by simp [c])]
      rw [q0] at sO
      simp [w_aload_n0 (M := mX12_goesSpeaking) dX12_goesSpeaking_0, w_getA (M := mX12_goesSpeaking) dX12_goesSpeaking_1 f_12_103 rfl (by decide) (by decide), w_iload_n1 (M := mX12_goesSpeaking) dX12_goesSpeaking_4, w_aload_n0 (M := mX12_goesSpeaking) dX12_goesSpeaking_5, w_getA (M := mX12_goesSpeaking) dX12_goesSpeaking_6 f_12_130 rfl (by decide) (by decide), w_iload_n1 (M := mX12_goesSpeaking) dX12_goesSpeaking_9, w_iaload (M := mX12_goesSpeaking) dX12_goesSpeaking_10, w_if_ne (M := mX12_goesSpeaking) (tgt := 18) dX12_goesSpeaking_11 (by decide), w_iconst (M := mX12_goesSpeaking) (v := 0) dX12_goesSpeaking_14 rfl, w_goto (M := mX12_goesSpeaking) (tgt := 26) dX12_goesSpeaking_15 (by decide), w_aload_n0 (M := mX12_goesSpeaking) dX12_goesSpeaking_18, w_getA (M := mX12_goesSpeaking) dX12_goesSpeaking_19 f_12_103 rfl (by decide) (by decide), w_iload_n1 (M := mX12_goesSpeaking) dX12_goesSpeaking_22, w_iaload (M := mX12_goesSpeaking) dX12_goesSpeaking_23, w_iconst (M := mX12_goesSpeaking) (v := 1) dX12_goesSpeaking_24 rfl, w_iadd (M := mX12_goesSpeaking) dX12_goesSpeaking_25, w_iastore (M := mX12_goesSpeaking) dX12_goesSpeaking_26, w_aload_n0 (M := mX12_goesSpeaking) dX12_goesSpeaking_27, w_iload_n1 (M := mX12_goesSpeaking) dX12_goesSpeaking_28, c_12_484 (M := mX12_goesSpeaking) dX12_goesSpeaking_29 rfl, w_istore_n (M := mX12_goesSpeaking) (i := 2) dX12_goesSpeaking_32 rfl (by decide), Kn_v_, Kn_n_, kl_i_, kl_a_, kl_l_, kl_n_, s1_0_, s2_0_, s1_1, s1_2, s1_3, s1_4, s1_5, s1_6, s1_7, s1_8, s1_9, s1_10, s1_11, s1_12, s1_13, s1_14, s2_1, s2_2, s2_3, s2_4, s2_5, s2_6, s2_7, s2_8, s2_9, s2_10, s2_11, s2_12, s2_13, s2_14, List.map_nil, List.map_cons, List.sum_nil, List.sum_cons, ct_i_, ct_r_, ct_l_, t_si_, t_sl_, t_sr_, n_si_, n_sl_, n_sr_, i_si_, i_sl_, i_sr_, l_si_, l_sl_, l_sr_, r_si_, r_sl_, r_sr_, vr_s_, vr_n_, nz_0_, nz_1_, hR.e, ie, ce, hh, hz, c, z4, sO]
  have ue : ∀ y : TS, ∀ H, rJ m n b0 u h0 H y → y 1 e = 0 → rJ m n b0 (fun e' => if e' = e then s 0 1 + 1 else u e') h0 H y := by
    intro y H r r1
    refine r.uu (fun e' he' h1 => ?_)
    by_cases c : e' = e
    · rw [c, r1] at h1
      exact absurd h1 (by decide)
    · rw [if_neg c]
  by_cases c1 : ¬ st = 0 ∧ q = st
  · obtain ⟨h3, e1, e2, e3, e4⟩ := en 2 (Or.inr rfl)
    rw [upn (by omega), upn (by omega)] at e2
    have eS : aS g VS (decide (¬ bN F = 0)) s e = cls (up s 4 e q) e (Nn (s 21 e)) (s 0 1) 2 := by
      unfold aS
      rw [← hst, ← hq, if_pos c1]
    have n1 : cls (up s 4 e q) e (Nn (s 21 e)) (s 0 1) 2 1 e = 0 := by rw [cls_1, if_pos rfl]
    rw [eS]
    refine ⟨h3, W, fun Q => ?_, ue _ _ e2 n1, kp2.tr ⟨fun j _ => e3 j, e4⟩, (e3 _).trans w2, fun i => ?_⟩
    · rw [start Q]
      simp [w_iload_n2 (M := mX12_goesSpeaking) dX12_goesSpeaking_33, w_if_eq (M := mX12_goesSpeaking) (tgt := 56) dX12_goesSpeaking_34 (by decide), w_aload_n0 (M := mX12_goesSpeaking) dX12_goesSpeaking_37, w_getA (M := mX12_goesSpeaking) dX12_goesSpeaking_38 f_12_103 rfl (by decide) (by decide), w_iload_n1 (M := mX12_goesSpeaking) dX12_goesSpeaking_41, w_iaload (M := mX12_goesSpeaking) dX12_goesSpeaking_42, w_iload_n2 (M := mX12_goesSpeaking) dX12_goesSpeaking_43, w_ic_ne (M := mX12_goesSpeaking) (tgt := 56) dX12_goesSpeaking_44 (by decide), w_aload_n0 (M := mX12_goesSpeaking) dX12_goesSpeaking_47, w_iload_n1 (M := mX12_goesSpeaking) dX12_goesSpeaking_48, w_iconst (M := mX12_goesSpeaking) (v := 2) dX12_goesSpeaking_49 rfl, c_12_487 (M := mX12_goesSpeaking) dX12_goesSpeaking_50 rfl, w_goto (M := mX12_goesSpeaking) (tgt := 90) dX12_goesSpeaking_53 (by decide), w_aload_n0 (M := mX12_goesSpeaking) dX12_goesSpeaking_56, w_getI (M := mX12_goesSpeaking) dX12_goesSpeaking_57 f_12_424 rfl (by decide) (by decide), w_aload_n0 (M := mX12_goesSpeaking) dX12_goesSpeaking_60, w_getA (M := mX12_goesSpeaking) dX12_goesSpeaking_61 f_12_112 rfl (by decide) (by decide), w_iload_n1 (M := mX12_goesSpeaking) dX12_goesSpeaking_64, w_iaload (M := mX12_goesSpeaking) dX12_goesSpeaking_65, w_isub (M := mX12_goesSpeaking) dX12_goesSpeaking_66, w_aload_n0 (M := mX12_goesSpeaking) dX12_goesSpeaking_67, w_getA (M := mX12_goesSpeaking) dX12_goesSpeaking_68 f_12_115 rfl (by decide) (by decide), w_iload_n1 (M := mX12_goesSpeaking) dX12_goesSpeaking_71, w_iaload (M := mX12_goesSpeaking) dX12_goesSpeaking_72, w_ic_lt (M := mX12_goesSpeaking) (tgt := 85) dX12_goesSpeaking_73 (by decide), w_aload_n0 (M := mX12_goesSpeaking) dX12_goesSpeaking_76, w_iload_n1 (M := mX12_goesSpeaking) dX12_goesSpeaking_77, w_iconst (M := mX12_goesSpeaking) (v := 1) dX12_goesSpeaking_78 rfl, c_12_487 (M := mX12_goesSpeaking) dX12_goesSpeaking_79 rfl, w_goto (M := mX12_goesSpeaking) (tgt := 90) dX12_goesSpeaking_82 (by decide), w_aload_n0 (M := mX12_goesSpeaking) dX12_goesSpeaking_85, w_iload_n1 (M := mX12_goesSpeaking) dX12_goesSpeaking_86, c_12_490 (M := mX12_goesSpeaking) dX12_goesSpeaking_87 rfl, w_vret (M := mX12_goesSpeaking) dX12_goesSpeaking_90 rfl, Kn_v_, Kn_n_, kl_i_, kl_a_, kl_l_, kl_n_, s1_0_, s2_0_, s1_1, s1_2, s1_3, s1_4, s1_5, s1_6, s1_7, s1_8, s1_9, s1_10, s1_11, s1_12, s1_13, s1_14, s2_1, s2_2, s2_3, s2_4, s2_5, s2_6, s2_7, s2_8, s2_9, s2_10, s2_11, s2_12, s2_13, s2_14, List.map_nil, List.map_cons, List.sum_nil, List.sum_cons, ct_i_, ct_r_, ct_l_, t_si_, t_sl_, t_sr_, n_si_, n_sl_, n_sr_, i_si_, i_sl_, i_sr_, l_si_, l_sl_, l_sr_, r_si_, r_sl_, r_sr_, vr_s_, vr_n_, nz_0_, nz_1_, hR2.e, c1.1, ie, ce, q2, c1.2, e1]
      try (rw [← c1.2] at *; simp [e1])
    · rw [n1]
      simp
  · by_cases c2 : s 23 e < s 22 e
    · have sn := fun d Q => r_saysNow (d := d) (Q := Q) (h := h2) (T := T) (W := W) hR2 (b44.trans ht) (by omega) (e := e) (by omega) w2
      have eS : aS g VS (decide (¬ bN F = 0)) s e = up (up s 4 e q) 23 e (s 23 e + 1) := by
        unfold aS
        rw [← hst, ← hq, if_neg c1, if_pos c2]
      have n1 : up (up s 4 e q) 23 e (s 23 e + 1) 1 e = 1 := by rw [upn (by omega)]; exact u1
      rw [eS]
      refine ⟨s_i h2 166 (T % 64) (nI (bN fun i => W i || decide (i = e))), (fun i => W i || decide (i = e)), fun Q => ?_, ?_, kp2.tr ⟨fun j hj => ine (by omega), fun j => ine (by omega)⟩, ieq rfl rfl, fun i => ?_⟩
      · rw [start Q]
        have cc : s 0 1 - (s 0 1 - s 23 e) = s 23 e := sub_sub32
        by_cases y1 : st = 0
        · simp [w_iload_n2 (M := mX12_goesSpeaking) dX12_goesSpeaking_33, w_if_eq (M := mX12_goesSpeaking) (tgt := 56) dX12_goesSpeaking_34 (by decide), w_aload_n0 (M := mX12_goesSpeaking) dX12_goesSpeaking_37, w_getA (M := mX12_goesSpeaking) dX12_goesSpeaking_38 f_12_103 rfl (by decide) (by decide), w_iload_n1 (M := mX12_goesSpeaking) dX12_goesSpeaking_41, w_iaload (M := mX12_goesSpeaking) dX12_goesSpeaking_42, w_iload_n2 (M := mX12_goesSpeaking) dX12_goesSpeaking_43, w_ic_ne (M := mX12_goesSpeaking) (tgt := 56) dX12_goesSpeaking_44 (by decide), w_aload_n0 (M := mX12_goesSpeaking) dX12_goesSpeaking_47, w_iload_n1 (M := mX12_goesSpeaking) dX12_goesSpeaking_48, w_iconst (M := mX12_goesSpeaking) (v := 2) dX12_goesSpeaking_49 rfl, c_12_487 (M := mX12_goesSpeaking) dX12_goesSpeaking_50 rfl, w_goto (M := mX12_goesSpeaking) (tgt := 90) dX12_goesSpeaking_53 (by decide), w_aload_n0 (M := mX12_goesSpeaking) dX12_goesSpeaking_56, w_getI (M := mX12_goesSpeaking) dX12_goesSpeaking_57 f_12_424 rfl (by decide) (by decide), w_aload_n0 (M := mX12_goesSpeaking) dX12_goesSpeaking_60, w_getA (M := mX12_goesSpeaking) dX12_goesSpeaking_61 f_12_112 rfl (by decide) (by decide), w_iload_n1 (M := mX12_goesSpeaking) dX12_goesSpeaking_64, w_iaload (M := mX12_goesSpeaking) dX12_goesSpeaking_65, w_isub (M := mX12_goesSpeaking) dX12_goesSpeaking_66, w_aload_n0 (M := mX12_goesSpeaking) dX12_goesSpeaking_67, w_getA (M := mX12_goesSpeaking) dX12_goesSpeaking_68 f_12_115 rfl (by decide) (by decide), w_iload_n1 (M := mX12_goesSpeaking) dX12_goesSpeaking_71, w_iaload (M := mX12_goesSpeaking) dX12_goesSpeaking_72, w_ic_lt (M := mX12_goesSpeaking) (tgt := 85) dX12_goesSpeaking_73 (by decide), w_aload_n0 (M := mX12_goesSpeaking) dX12_goesSpeaking_76, w_iload_n1 (M := mX12_goesSpeaking) dX12_goesSpeaking_77, w_iconst (M := mX12_goesSpeaking) (v := 1) dX12_goesSpeaking_78 rfl, c_12_487 (M := mX12_goesSpeaking) dX12_goesSpeaking_79 rfl, w_goto (M := mX12_goesSpeaking) (tgt := 90) dX12_goesSpeaking_82 (by decide), w_aload_n0 (M := mX12_goesSpeaking) dX12_goesSpeaking_85, w_iload_n1 (M := mX12_goesSpeaking) dX12_goesSpeaking_86, c_12_490 (M := mX12_goesSpeaking) dX12_goesSpeaking_87 rfl, w_vret (M := mX12_goesSpeaking) dX12_goesSpeaking_90 rfl, Kn_v_, Kn_n_, kl_i_, kl_a_, kl_l_, kl_n_, s1_0_, s2_0_, s1_1, s1_2, s1_3, s1_4, s1_5, s1_6, s1_7, s1_8, s1_9, s1_10, s1_11, s1_12, s1_13, s1_14, s2_1, s2_2, s2_3, s2_4, s2_5, s2_6, s2_7, s2_8, s2_9, s2_10, s2_11, s2_12, s2_13, s2_14, List.map_nil, List.map_cons, List.sum_nil, List.sum_cons, ct_i_, ct_r_, ct_l_, t_si_, t_sl_, t_sr_, n_si_, n_sl_, n_sr_, i_si_, i_sl_, i_sr_, l_si_, l_sl_, l_sr_, r_si_, r_sl_, r_sr_, vr_s_, vr_n_, nz_0_, nz_1_, hR2.e, y1, ie, ce, b44, b158, b159, cc, c2, sn]
        · have y2 : ¬ q = st := fun z => c1 ⟨y1, z⟩
          simp [w_iload_n2 (M := mX12_goesSpeaking) dX12_goesSpeaking_33, w_if_eq (M := mX12_goesSpeaking) (tgt := 56) dX12_goesSpeaking_34 (by decide), w_aload_n0 (M := mX12_goesSpeaking) dX12_goesSpeaking_37, w_getA (M := mX12_goesSpeaking) dX12_goesSpeaking_38 f_12_103 rfl (by decide) (by decide), w_iload_n1 (M := mX12_goesSpeaking) dX12_goesSpeaking_41, w_iaload (M := mX12_goesSpeaking) dX12_goesSpeaking_42, w_iload_n2 (M := mX12_goesSpeaking) dX12_goesSpeaking_43, w_ic_ne (M := mX12_goesSpeaking) (tgt := 56) dX12_goesSpeaking_44 (by decide), w_aload_n0 (M := mX12_goesSpeaking) dX12_goesSpeaking_47, w_iload_n1 (M := mX12_goesSpeaking) dX12_goesSpeaking_48, w_iconst (M := mX12_goesSpeaking) (v := 2) dX12_goesSpeaking_49 rfl, c_12_487 (M := mX12_goesSpeaking) dX12_goesSpeaking_50 rfl, w_goto (M := mX12_goesSpeaking) (tgt := 90) dX12_goesSpeaking_53 (by decide), w_aload_n0 (M := mX12_goesSpeaking) dX12_goesSpeaking_56, w_getI (M := mX12_goesSpeaking) dX12_goesSpeaking_57 f_12_424 rfl (by decide) (by decide), w_aload_n0 (M := mX12_goesSpeaking) dX12_goesSpeaking_60, w_getA (M := mX12_goesSpeaking) dX12_goesSpeaking_61 f_12_112 rfl (by decide) (by decide), w_iload_n1 (M := mX12_goesSpeaking) dX12_goesSpeaking_64, w_iaload (M := mX12_goesSpeaking) dX12_goesSpeaking_65, w_isub (M := mX12_goesSpeaking) dX12_goesSpeaking_66, w_aload_n0 (M := mX12_goesSpeaking) dX12_goesSpeaking_67, w_getA (M := mX12_goesSpeaking) dX12_goesSpeaking_68 f_12_115 rfl (by decide) (by decide), w_iload_n1 (M := mX12_goesSpeaking) dX12_goesSpeaking_71, w_iaload (M := mX12_goesSpeaking) dX12_goesSpeaking_72, w_ic_lt (M := mX12_goesSpeaking) (tgt := 85) dX12_goesSpeaking_73 (by decide), w_aload_n0 (M := mX12_goesSpeaking) dX12_goesSpeaking_76, w_iload_n1 (M := mX12_goesSpeaking) dX12_goesSpeaking_77, w_iconst (M := mX12_goesSpeaking) (v := 1) dX12_goesSpeaking_78 rfl, c_12_487 (M := mX12_goesSpeaking) dX12_goesSpeaking_79 rfl, w_goto (M := mX12_goesSpeaking) (tgt := 90) dX12_goesSpeaking_82 (by decide), w_aload_n0 (M := mX12_goesSpeaking) dX12_goesSpeaking_85, w_iload_n1 (M := mX12_goesSpeaking) dX12_goesSpeaking_86, c_12_490 (M := mX12_goesSpeaking) dX12_goesSpeaking_87 rfl, w_vret (M := mX12_goesSpeaking) dX12_goesSpeaking_90 rfl, Kn_v_, Kn_n_, kl_i_, kl_a_, kl_l_, kl_n_, s1_0_, s2_0_, s1_1, s1_2, s1_3, s1_4, s1_5, s1_6, s1_7, s1_8, s1_9, s1_10, s1_11, s1_12, s1_13, s1_14, s2_1, s2_2, s2_3, s2_4, s2_5, s2_6, s2_7, s2_8, s2_9, s2_10, s2_11, s2_12, s2_13, s2_14, List.map_nil, List.map_cons, List.sum_nil, List.sum_cons, ct_i_, ct_r_, ct_l_, t_si_, t_sl_, t_sr_, n_si_, n_sl_, n_sr_, i_si_, i_sl_, i_sr_, l_si_, l_sl_, l_sr_, r_si_, r_sl_, r_sr_, vr_s_, vr_n_, nz_0_, nz_1_, hR2.e, y1, y2, ie, ce, q2, b44, b158, b159, cc, c2, sn]
      · have k3 : rJ m n b0 u h0 (s_i h2 166 (T % 64) (nI (bN fun i => W i || decide (i = e)))) (up s 4 e q) := k2.fr ⟨rfl, rfl, rfl⟩ (fun q j _ _ h6 => ine (by omega)) (fun _ _ _ => rfl)
        have := k3.sp (e := e) (u' := fun e' => if e' = e then s 0 1 + 1 else u e') (fun e' => by
          by_cases c : e' = e
          · rw [if_pos c, if_pos c, hu]
          · rw [if_neg c, if_neg c])
        rw [upn (by omega)] at this
        exact this
      · rw [n1]
        simp
    · obtain ⟨h3, e1, e2, e3, e4⟩ := en 1 (Or.inl rfl)
      rw [upn (by omega), upn (by omega)] at e2
      have eS : aS g VS (decide (¬ bN F = 0)) s e = cls (up s 4 e q) e (Nn (s 21 e)) (s 0 1) 1 := by
        unfold aS
        rw [← hst, ← hq, if_neg c1, if_neg c2]
      have n1 : cls (up s 4 e q) e (Nn (s 21 e)) (s 0 1) 1 1 e = 0 := by rw [cls_1, if_pos rfl]
      rw [eS]
      refine ⟨h3, W, fun Q => ?_, ue _ _ e2 n1, kp2.tr ⟨fun j _ => e3 j, e4⟩, (e3 _).trans w2, fun i => ?_⟩
      · rw [start Q]
        have cc : s 0 1 - (s 0 1 - s 23 e) = s 23 e := sub_sub32
        by_cases y1 : st = 0
        · simp [w_iload_n2 (M := mX12_goesSpeaking) dX12_goesSpeaking_33, w_if_eq (M := mX12_goesSpeaking) (tgt := 56) dX12_goesSpeaking_34 (by decide), w_aload_n0 (M := mX12_goesSpeaking) dX12_goesSpeaking_37, w_getA (M := mX12_goesSpeaking) dX12_goesSpeaking_38 f_12_103 rfl (by decide) (by decide), w_iload_n1 (M := mX12_goesSpeaking) dX12_goesSpeaking_41, w_iaload (M := mX12_goesSpeaking) dX12_goesSpeaking_42, w_iload_n2 (M := mX12_goesSpeaking) dX12_goesSpeaking_43, w_ic_ne (M := mX12_goesSpeaking) (tgt := 56) dX12_goesSpeaking_44 (by decide), w_aload_n0 (M := mX12_goesSpeaking) dX12_goesSpeaking_47, w_iload_n1 (M := mX12_goesSpeaking) dX12_goesSpeaking_48, w_iconst (M := mX12_goesSpeaking) (v := 2) dX12_goesSpeaking_49 rfl, c_12_487 (M := mX12_goesSpeaking) dX12_goesSpeaking_50 rfl, w_goto (M := mX12_goesSpeaking) (tgt := 90) dX12_goesSpeaking_53 (by decide), w_aload_n0 (M := mX12_goesSpeaking) dX12_goesSpeaking_56, w_getI (M := mX12_goesSpeaking) dX12_goesSpeaking_57 f_12_424 rfl (by decide) (by decide), w_aload_n0 (M := mX12_goesSpeaking) dX12_goesSpeaking_60, w_getA (M := mX12_goesSpeaking) dX12_goesSpeaking_61 f_12_112 rfl (by decide) (by decide), w_iload_n1 (M := mX12_goesSpeaking) dX12_goesSpeaking_64, w_iaload (M := mX12_goesSpeaking) dX12_goesSpeaking_65, w_isub (M := mX12_goesSpeaking) dX12_goesSpeaking_66, w_aload_n0 (M := mX12_goesSpeaking) dX12_goesSpeaking_67, w_getA (M := mX12_goesSpeaking) dX12_goesSpeaking_68 f_12_115 rfl (by decide) (by decide), w_iload_n1 (M := mX12_goesSpeaking) dX12_goesSpeaking_71, w_iaload (M := mX12_goesSpeaking) dX12_goesSpeaking_72, w_ic_lt (M := mX12_goesSpeaking) (tgt := 85) dX12_goesSpeaking_73 (by decide), w_aload_n0 (M := mX12_goesSpeaking) dX12_goesSpeaking_76, w_iload_n1 (M := mX12_goesSpeaking) dX12_goesSpeaking_77, w_iconst (M := mX12_goesSpeaking) (v := 1) dX12_goesSpeaking_78 rfl, c_12_487 (M := mX12_goesSpeaking) dX12_goesSpeaking_79 rfl, w_goto (M := mX12_goesSpeaking) (tgt := 90) dX12_goesSpeaking_82 (by decide), w_aload_n0 (M := mX12_goesSpeaking) dX12_goesSpeaking_85, w_iload_n1 (M := mX12_goesSpeaking) dX12_goesSpeaking_86, c_12_490 (M := mX12_goesSpeaking) dX12_goesSpeaking_87 rfl, w_vret (M := mX12_goesSpeaking) dX12_goesSpeaking_90 rfl, Kn_v_, Kn_n_, kl_i_, kl_a_, kl_l_, kl_n_, s1_0_, s2_0_, s1_1, s1_2, s1_3, s1_4, s1_5, s1_6, s1_7, s1_8, s1_9, s1_10, s1_11, s1_12, s1_13, s1_14, s2_1, s2_2, s2_3, s2_4, s2_5, s2_6, s2_7, s2_8, s2_9, s2_10, s2_11, s2_12, s2_13, s2_14, List.map_nil, List.map_cons, List.sum_nil, List.sum_cons, ct_i_, ct_r_, ct_l_, t_si_, t_sl_, t_sr_, n_si_, n_sl_, n_sr_, i_si_, i_sl_, i_sr_, l_si_, l_sl_, l_sr_, r_si_, r_sl_, r_sr_, vr_s_, vr_n_, nz_0_, nz_1_, hR2.e, y1, ie, ce, b44, b158, b159, cc, c2, e1]
        · have y2 : ¬ q = st := fun z => c1 ⟨y1, z⟩
          simp [w_iload_n2 (M := mX12_goesSpeaking) dX12_goesSpeaking_33, w_if_eq (M := mX12_goesSpeaking) (tgt := 56) dX12_goesSpeaking_34 (by decide), w_aload_n0 (M := mX12_goesSpeaking) dX12_goesSpeaking_37, w_getA (M := mX12_goesSpeaking) dX12_goesSpeaking_38 f_12_103 rfl (by decide) (by decide), w_iload_n1 (M := mX12_goesSpeaking) dX12_goesSpeaking_41, w_iaload (M := mX12_goesSpeaking) dX12_goesSpeaking_42, w_iload_n2 (M := mX12_goesSpeaking) dX12_goesSpeaking_43, w_ic_ne (M := mX12_goesSpeaking) (tgt := 56) dX12_goesSpeaking_44 (by decide), w_aload_n0 (M := mX12_goesSpeaking) dX12_goesSpeaking_47, w_iload_n1 (M := mX12_goesSpeaking) dX12_goesSpeaking_48, w_iconst (M := mX12_goesSpeaking) (v := 2) dX12_goesSpeaking_49 rfl, c_12_487 (M := mX12_goesSpeaking) dX12_goesSpeaking_50 rfl, w_goto (M := mX12_goesSpeaking) (tgt := 90) dX12_goesSpeaking_53 (by decide), w_aload_n0 (M := mX12_goesSpeaking) dX12_goesSpeaking_56, w_getI (M := mX12_goesSpeaking) dX12_goesSpeaking_57 f_12_424 rfl (by decide) (by decide), w_aload_n0 (M := mX12_goesSpeaking) dX12_goesSpeaking_60, w_getA (M := mX12_goesSpeaking) dX12_goesSpeaking_61 f_12_112 rfl (by decide) (by decide), w_iload_n1 (M := mX12_goesSpeaking) dX12_goesSpeaking_64, w_iaload (M := mX12_goesSpeaking) dX12_goesSpeaking_65, w_isub (M := mX12_goesSpeaking) dX12_goesSpeaking_66, w_aload_n0 (M := mX12_goesSpeaking) dX12_goesSpeaking_67, w_getA (M := mX12_goesSpeaking) dX12_goesSpeaking_68 f_12_115 rfl (by decide) (by decide), w_iload_n1 (M := mX12_goesSpeaking) dX12_goesSpeaking_71, w_iaload (M := mX12_goesSpeaking) dX12_goesSpeaking_72, w_ic_lt (M := mX12_goesSpeaking) (tgt := 85) dX12_goesSpeaking_73 (by decide), w_aload_n0 (M := mX12_goesSpeaking) dX12_goesSpeaking_76, w_iload_n1 (M := mX12_goesSpeaking) dX12_goesSpeaking_77, w_iconst (M := mX12_goesSpeaking) (v := 1) dX12_goesSpeaking_78 rfl, c_12_487 (M := mX12_goesSpeaking) dX12_goesSpeaking_79 rfl, w_goto (M := mX12_goesSpeaking) (tgt := 90) dX12_goesSpeaking_82 (by decide), w_aload_n0 (M := mX12_goesSpeaking) dX12_goesSpeaking_85, w_iload_n1 (M := mX12_goesSpeaking) dX12_goesSpeaking_86, c_12_490 (M := mX12_goesSpeaking) dX12_goesSpeaking_87 rfl, w_vret (M := mX12_goesSpeaking) dX12_goesSpeaking_90 rfl, Kn_v_, Kn_n_, kl_i_, kl_a_, kl_l_, kl_n_, s1_0_, s2_0_, s1_1, s1_2, s1_3, s1_4, s1_5, s1_6, s1_7, s1_8, s1_9, s1_10, s1_11, s1_12, s1_13, s1_14, s2_1, s2_2, s2_3, s2_4, s2_5, s2_6, s2_7, s2_8, s2_9, s2_10, s2_11, s2_12, s2_13, s2_14, List.map_nil, List.map_cons, List.sum_nil, List.sum_cons, ct_i_, ct_r_, ct_l_, t_si_, t_sl_, t_sr_, n_si_, n_sl_, n_sr_, i_si_, i_sl_, i_sr_, l_si_, l_sl_, l_sr_, r_si_, r_sl_, r_sr_, vr_s_, vr_n_, nz_0_, nz_1_, hR2.e, y1, y2, ie, ce, q2, b44, b158, b159, cc, c2, e1]
      · rw [n1]
        simp
end RSPK
