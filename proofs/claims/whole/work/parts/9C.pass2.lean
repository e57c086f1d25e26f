/-! so many tenths: the class -/
section PASS2
variable {p e n m B d j K t : Nat} {s : TS} {h0 h : am_h} {g : Nat → Int32} {H : Nat → Nat → Bool} {VW VS VL : (Nat → Int32) → Int32 → Int32} {b1 : Int32}
theorem aS_c (g : Nat → Int32) (VS : (Nat → Int32) → Int32 → Int32) (hr : Bool) (s : TS) (e : Nat) : ∃ q, aS g VS hr s e = cls (up s 4 e q) e (Nn (s 21 e)) (s 0 1) 2 ∨ (s 23 e < s 22 e ∧ aS g VS hr s e = up (up s 4 e q) 23 e (s 23 e + 1)) ∨ (¬ s 23 e < s 22 e ∧ aS g VS hr s e = cls (up s 4 e q) e (Nn (s 21 e)) (s 0 1) 1) := by
  unfold aS
  generalize VS (nmS g s e) (tw g 1 e) = st
  generalize (if hr = true then s 4 e + 1 else 0) = q
  refine ⟨q, ?_⟩
  by_cases c1 : ¬ st = 0 ∧ q = st
  · rw [if_pos c1]; exact Or.inl rfl
  · rw [if_neg c1]
    by_cases c2 : s 23 e < s 22 e
    · rw [if_pos c2]; exact Or.inr (Or.inl ⟨c2, rfl⟩)
    · rw [if_neg c2]; exact Or.inr (Or.inr ⟨c2, rfl⟩)
/-- columns that acts leave -/
theorem ACT_o {c i : Nat} (hc : (c = 0 ∧ ¬ i = 2 ∧ ¬ i = 3) ∨ (5 ≤ c ∧ c ≤ 9) ∨ (15 ≤ c ∧ c ≤ 17) ∨ 24 ≤ c) : ACT g VW VS VL m n H e s c i = s c i := by
  have cl : ∀ (y : TS) q z kd, cls y e q z kd c i = y c i := by
    intro y q z kd
    unfold cls
    simp (disch := omega) only [upn]
  have op : ∀ (y : TS) T b l sp, opn y e T b l sp c i = y c i := by
    intro y T b l sp
    unfold opn
    simp (disch := omega) only [upn]
  have h1 : ∀ v hr y, aS g v hr y e c i = y c i := by
    intro v hr y
    obtain ⟨q, w | ⟨-, w⟩ | ⟨-, w⟩⟩ := aS_c g v hr y e
    · rw [w, cl, upn (by omega)]
    · rw [w, upn (by omega), upn (by omega)]
    · rw [w, cl, upn (by omega)]
  have h2 : ∀ hr y, aQ g VW VL m n hr y e c i = y c i := by
    intro hr y
    unfold aQ
    split
    · rw [upn (by omega)]
    · split
      · split
        · rw [aP_o (by omega)]
        · rw [op, upn (by omega), aP_o (by omega)]
      · rw [upn (by omega), aP_o (by omega)]
  unfold ACT
  split
  · split
    · rw [h1]
    · rw [h2, h1]
  · rw [h2]
theorem acts_o {c i : Nat} (hc : (c = 0 ∧ ¬ i = 2 ∧ ¬ i = 3) ∨ (5 ≤ c ∧ c ≤ 9) ∨ (15 ≤ c ∧ c ≤ 17) ∨ 24 ≤ c) : ∀ k, itr (ACT g VW VS VL m n H) 0 k s c i = s c i := by
  intro k
  induction k with
  | zero => rfl
  | succ k ih => rw [itr_snoc, ACT_o hc, ih]
theorem TK_0 : TK g VW VS VL m n s 0 1 = s 0 1 + 1 ∧ TK g VW VS VL m n s 0 0 = s 0 0 ∧ TK g VW VS VL m n s 0 4 = s 0 4 := by
  unfold TK
  refine ⟨?_, ?_, ?_⟩
  · unfold CNT
    rw [if_neg (by omega), if_neg (by omega), if_neg (by omega), acts_o (by omega)]
    rfl
  · unfold CNT
    rw [if_neg (by omega), if_neg (by omega), if_neg (by omega), acts_o (by omega)]
    rfl
  · unfold CNT
    rw [if_neg (by omega), if_neg (by omega), if_neg (by omega), acts_o (by omega)]
    rfl
theorem TK_7 {k : Nat} : TK g VW VS VL m n s 7 k = s 7 k := by
  unfold TK CNT
  rw [if_neg (by omega), if_neg (by omega), if_neg (by omega), acts_o (by omega)]
  unfold LIS
  rw [if_neg (by omega), if_neg (by omega), if_neg (by omega)]
/-- so many tenths -/
def TKS (g : Nat → Int32) (VW VS VL : (Nat → Int32) → Int32 → Int32) (m n : Nat) (t : Nat) (s : TS) : TS := itr (fun _ => TK g VW VS VL m n) 0 t s
theorem TKS_s : TKS g VW VS VL m n (t + 1) s = TK g VW VS VL m n (TKS g VW VS VL m n t s) := by
  unfold TKS
  rw [itr_snoc]
/-- all that stands between two tenths -/
def WA (m n K Z : Nat) (s : TS) : Prop := PA m n K s ∧ dB s ∧ bt 0 (s 0 1) Z
theorem WA.tk {Z : Nat} (w : WA m n K Z s) (hn : n ≤ 4) (hK : K + 8 ≤ 100000) (hZ : Z + 1 ≤ 100000) : WA m n (K + 8) (Z + 1) (TK g VW VS VL m n s) := by
  obtain ⟨w1, w2, w3⟩ := w
  obtain ⟨k, k1, k2, k3⟩ := btn w3 (by omega) (by omega)
  have hk : k ≤ Z := by unfold bt at w3; omega
  have e : bt 0 (s 0 1 + 1) (Z + 1 : Nat) := by
    rw [k1, nI_s]
    unfold bt
    rw [nI_i (by omega)]
    omega
  refine ⟨w1.tk hn ?_ hK, fun k hk => by rw [TK_7]; exact w2 k hk, by rw [TK_0.1]; exact e⟩
  unfold bt at e ⊢
  omega
theorem WA.tks {Z : Nat} (w : WA m n K Z s) (hn : n ≤ 4) : ∀ t, K + 8 * t ≤ 100000 → Z + t ≤ 100000 → WA m n (K + 8 * t) (Z + t) (TKS g VW VS VL m n t s) := by
  intro t
  induction t with
  | zero => intro _ _; exact w
  | succ t ih =>
    intro h1 h2
    rw [TKS_s]
    have := (ih (by omega) (by omega)).tk (g := g) (VW := VW) (VS := VS) (VL := VL) hn (by omega) (by omega)
    rw [show K + 8 * (t + 1) = K + 8 * t + 8 by omega, show Z + (t + 1) = Z + t + 1 by omega]
    exact this
set_option maxRecDepth 20000 in
set_option maxHeartbeats 2000000 in
theorem c_tick {Z i : Nat} {o7 : Option Value} (b : cBs m p B n g VW VS VL h0) (w : WA m n K Z s) (hK : K + 8 ≤ 100000) (hZ : Z + 1 ≤ 100000) (Kc : cK m p h0 h s) (hi : i < t) (ht : t < 100000) : ∃ h', (∀ Q, WP (d + 4) mX5_pass 9 [some (.ref p), some (.int (nI t)), some (.ref 2), some (.ref 91), some (.ref B), some (.int b1), some (.int (nI i)), o7] [] h Q = WP (d + 4) mX5_pass 9 [some (.ref p), some (.int (nI t)), some (.ref 2), some (.ref 91), some (.ref B), some (.int b1), some (.int (nI (i + 1))), some (.int (nI n))] [] h' Q) ∧ cK m p h0 h' (TK g VW VS VL m n s) := by
  have b' := b
  obtain ⟨hm, x0, x1, x2, G, gn, td⟩ := b'
  obtain ⟨P, hd, hz⟩ := w
  have n4 := G.1
  obtain ⟨k, k1, k2, k3⟩ := btn hz (by omega) (by omega)
  have hk : k ≤ Z := by unfold bt at hz; omega
  have P1 := P.lis n4 (by
    rw [k1, nI_s]
    unfold bt
    rw [nI_i (by omega)]
    omega) n
  have hC := Kc.C x0.1
  have p1 := (shL_m hm hC).1
  have a0 : a_i h p 0 = s 0 1 := (Kc.en (e := 0) (by omega)).1
  obtain ⟨y1, u1, v1, w1⟩ := c_pass1 (d := d) (t1 := nI t) (b1 := b1) (i1 := nI i) b hd (Kc.ut hm)
  obtain ⟨y2, u2, v2, w2⟩ := c_pass2 (d := d) (t1 := nI t) (b1 := b1) (i1 := nI i) b P1 hK v1 w1
  obtain ⟨y3, u3, v3⟩ := c_pass3 (d := d) (t1 := nI t) (b1 := b1) (i1 := nI i) b (P1.acts n4 hK n (Nat.le_refl _) (g := g) (VW := VW) (VS := VS) (VL := VL) (H := hB s n)) (fun e f hf => by unfold hB; exact decide_eq_false (fun w => absurd w.1 (by omega))) v2 w2
  refine ⟨y3, fun Q => ?_, v3⟩
  have e0 : (0 : Int32) = nI 0 := rfl
  rw [w_iload6 (M := mX5_pass) dX5_pass_9]
  simp [w_iload_n1 (M := mX5_pass) dX5_pass_11, w_ic_ge (M := mX5_pass) (tgt := 192) dX5_pass_12 (by decide), w_aload_n0 (M := mX5_pass) dX5_pass_15, w_dup_int (M := mX5_pass) dX5_pass_16, w_dup_ref (M := mX5_pass) dX5_pass_16, w_getI (M := mX5_pass) dX5_pass_17 f_5_32 rfl (by decide) (by decide), w_iconst (M := mX5_pass) (v := 1) dX5_pass_20 rfl, w_iadd (M := mX5_pass) dX5_pass_21, w_putI (M := mX5_pass) dX5_pass_22 f_5_32 rfl (Or.inl rfl), w_iconst (M := mX5_pass) (v := 0) dX5_pass_25 rfl, w_istore (M := mX5_pass) dX5_pass_26 (by decide), Kn_v_, Kn_n_, kl_i_, kl_a_, kl_l_, kl_n_, s1_0_, s2_0_, s1_1, s1_2, s1_3, s1_4, s1_5, s1_6, s1_7, s1_8, s1_9, s1_10, s1_11, s1_12, s1_13, s1_14, s2_1, s2_2, s2_3, s2_4, s2_5, s2_6, s2_7, s2_8, s2_9, s2_10, s2_11, s2_12, s2_13, s2_14, List.map_nil, List.map_cons, List.sum_nil, List.sum_cons, ct_i_, ct_r_, ct_l_, t_si_, t_sl_, t_sr_, n_si_, n_sl_, n_sr_, i_si_, i_sl_, i_sr_, l_si_, l_sl_, l_sr_, r_si_, r_sl_, r_sr_, vr_s_, vr_n_, nz_0_, nz_1_, show (nI i < nI t) = True from nI_ltT hi (by omega), p1, a0]
  rw [e0, u1 Q]
  simp [w_iconst (M := mX5_pass) (v := 0) dX5_pass_53 rfl, w_istore (M := mX5_pass) dX5_pass_54 (by decide), Kn_v_, Kn_n_, kl_i_, kl_a_, kl_l_, kl_n_, s1_0_, s2_0_, s1_1, s1_2, s1_3, s1_4, s1_5, s1_6, s1_7, s1_8, s1_9, s1_10, s1_11, s1_12, s1_13, s1_14, s2_1, s2_2, s2_3, s2_4, s2_5, s2_6, s2_7, s2_8, s2_9, s2_10, s2_11, s2_12, s2_13, s2_14, List.map_nil, List.map_cons, List.sum_nil, List.sum_cons, ct_i_, ct_r_, ct_l_, t_si_, t_sl_, t_sr_, n_si_, n_sl_, n_sr_, i_si_, i_sl_, i_sr_, l_si_, l_sl_, l_sr_, r_si_, r_sl_, r_sr_, vr_s_, vr_n_, nz_0_, nz_1_]
  rw [e0, u2 Q]
  simp [w_iconst (M := mX5_pass) (v := 0) dX5_pass_117 rfl, w_istore (M := mX5_pass) dX5_pass_118 (by decide), Kn_v_, Kn_n_, kl_i_, kl_a_, kl_l_, kl_n_, s1_0_, s2_0_, s1_1, s1_2, s1_3, s1_4, s1_5, s1_6, s1_7, s1_8, s1_9, s1_10, s1_11, s1_12, s1_13, s1_14, s2_1, s2_2, s2_3, s2_4, s2_5, s2_6, s2_7, s2_8, s2_9, s2_10, s2_11, s2_12, s2_13, s2_14, List.map_nil, List.map_cons, List.sum_nil, List.sum_cons, ct_i_, ct_r_, ct_l_, t_si_, t_sl_, t_sr_, n_si_, n_sl_, n_sr_, i_si_, i_sl_, i_sr_, l_si_, l_sl_, l_sr_, r_si_, r_sl_, r_sr_, vr_s_, vr_n_, nz_0_, nz_1_]
  rw [e0, u3 Q]
  simp [w_iinc6 (M := mX5_pass) (v := 1) dX5_pass_186 rfl (by decide), w_goto (M := mX5_pass) (tgt := 9) dX5_pass_189 (by decide), Kn_v_, Kn_n_, kl_i_, kl_a_, kl_l_, kl_n_, s1_0_, s2_0_, s1_1, s1_2, s1_3, s1_4, s1_5, s1_6, s1_7, s1_8, s1_9, s1_10, s1_11, s1_12, s1_13, s1_14, s2_1, s2_2, s2_3, s2_4, s2_5, s2_6, s2_7, s2_8, s2_9, s2_10, s2_11, s2_12, s2_13, s2_14, List.map_nil, List.map_cons, List.sum_nil, List.sum_cons, ct_i_, ct_r_, ct_l_, t_si_, t_sl_, t_sr_, n_si_, n_sl_, n_sr_, i_si_, i_sl_, i_sr_, l_si_, l_sl_, l_sr_, r_si_, r_sl_, r_sr_, vr_s_, vr_n_, nz_0_, nz_1_, nI_s]
set_option maxRecDepth 20000 in
set_option maxHeartbeats 2000000 in
theorem c_passes {Z : Nat} (b : cBs m p B n g VW VS VL h0) (w : WA m n K Z s) (hK : K + 8 * t ≤ 100000) (hZ : Z + t ≤ 100000) (Kc : cK m p h0 h s) (ht : t < 100000) : ∃ h', (∀ Q, Cal (d + 4) mX5_pass [.ref p, .int (nI t), .ref 2, .ref 91, .ref B] h Q = Q (some (.int (TKS g VW VS VL m n t s 0 3 - s 0 3))) h') ∧ cK m p h0 h' (TKS g VW VS VL m n t s) := by
  have hm := b.1
  have n4 := b.2.2.2.2.1.1
  have x0 := b.2.1
  have hC := Kc.C x0.1
  have p1 := (shL_m hm hC).1
  have a3 : a_i h p 3 = s 0 3 := (Kc.en (e := 0) (by omega)).2.2.2.1
  have st : ∀ (i : Nat) (x : am_h × Option Value), i < t → cK m p h0 x.1 (TKS g VW VS VL m n i s) → ∃ x' : am_h × Option Value, (∀ Q, WP (d + 4) mX5_pass 9 [some (.ref p), some (.int (nI t)), some (.ref 2), some (.ref 91), some (.ref B), some (.int (s 0 3)), some (.int (nI i)), x.2] [] x.1 Q = WP (d + 4) mX5_pass 9 [some (.ref p), some (.int (nI t)), some (.ref 2), some (.ref 91), some (.ref B), some (.int (s 0 3)), some (.int (nI (i + 1))), x'.2] [] x'.1 Q) ∧ cK m p h0 x'.1 (TKS g VW VS VL m n (i + 1) s) := by
    intro i x hi hx
    obtain ⟨y, y1, y2⟩ := c_tick (d := d) (o7 := x.2) (b1 := s 0 3) (i := i) b (w.tks n4 i (by omega) (by omega) (g := g) (VW := VW) (VS := VS) (VL := VL)) (by omega) (by omega) hx hi ht
    refine ⟨(y, some (.int (nI n))), y1, ?_⟩
    rw [TKS_s]
    exact y2
  obtain ⟨⟨h', o⟩, a1, a2⟩ := lp (W := fun i (x : am_h × Option Value) Q => WP (d + 4) mX5_pass 9 [some (.ref p), some (.int (nI t)), some (.ref 2), some (.ref 91), some (.ref B), some (.int (s 0 3)), some (.int (nI i)), x.2] [] x.1 Q) (P := fun i x => cK m p h0 x.1 (TKS g VW VS VL m n i s)) st t 0 (h, none) (by omega) Kc
  refine ⟨h', fun Q => ?_, a2⟩
  have hC' := a2.C x0.1
  have q1 := (shL_m hm hC').1
  have b3 : a_i h' p 3 = TKS g VW VS VL m n t s 0 3 := (a2.en (e := 0) (by omega)).2.2.2.1
  have e1 := a1 Q
  have e0 : (0 : Int32) = nI 0 := rfl
  unfold Cal
  rw [l_X5_pass]
  simp only [am_en, am_ag, ct_i, ct_r, ct_l, List.length_cons, List.length_nil, List.replicate]
  simp [w_aload_n0 (M := mX5_pass) dX5_pass_0, w_getI (M := mX5_pass) dX5_pass_1 f_5_38 rfl (by decide) (by decide), w_istore (M := mX5_pass) dX5_pass_4 (by decide), w_iconst (M := mX5_pass) (v := 0) dX5_pass_6 rfl, w_istore (M := mX5_pass) dX5_pass_7 (by decide), Kn_v_, Kn_n_, kl_i_, kl_a_, kl_l_, kl_n_, s1_0_, s2_0_, s1_1, s1_2, s1_3, s1_4, s1_5, s1_6, s1_7, s1_8, s1_9, s1_10, s1_11, s1_12, s1_13, s1_14, s2_1, s2_2, s2_3, s2_4, s2_5, s2_6, s2_7, s2_8, s2_9, s2_10, s2_11, s2_12, s2_13, s2_14, List.map_nil, List.map_cons, List.sum_nil, List.sum_cons, ct_i_, ct_r_, ct_l_, t_si_, t_sl_, t_sr_, n_si_, n_sl_, n_sr_, i_si_, i_sl_, i_sr_, l_si_, l_sl_, l_sr_, r_si_, r_sl_, r_sr_, vr_s_, vr_n_, nz_0_, nz_1_, p1, a3]
  rw [e0]
  refine Eq.to_iff (Eq.trans e1 ?_)
  show WP (d + 4) mX5_pass 9 _ _ _ _ = _
  rw [w_iload6 (M := mX5_pass) dX5_pass_9]
  simp [w_iload_n1 (M := mX5_pass) dX5_pass_11, w_ic_ge (M := mX5_pass) (tgt := 192) dX5_pass_12 (by decide), w_aload_n0 (M := mX5_pass) dX5_pass_192, w_getI (M := mX5_pass) dX5_pass_193 f_5_38 rfl (by decide) (by decide), w_iload5 (M := mX5_pass) dX5_pass_196, w_isub (M := mX5_pass) dX5_pass_198, w_iret (M := mX5_pass) dX5_pass_199 rfl, Kn_v_, Kn_n_, kl_i_, kl_a_, kl_l_, kl_n_, s1_0_, s2_0_, s1_1, s1_2, s1_3, s1_4, s1_5, s1_6, s1_7, s1_8, s1_9, s1_10, s1_11, s1_12, s1_13, s1_14, s2_1, s2_2, s2_3, s2_4, s2_5, s2_6, s2_7, s2_8, s2_9, s2_10, s2_11, s2_12, s2_13, s2_14, List.map_nil, List.map_cons, List.sum_nil, List.sum_cons, ct_i_, ct_r_, ct_l_, t_si_, t_sl_, t_sr_, n_si_, n_sl_, n_sr_, i_si_, i_sl_, i_sr_, l_si_, l_sl_, l_sr_, r_si_, r_sl_, r_sr_, vr_s_, vr_n_, nz_0_, nz_1_, show (nI t < nI t) = False from nI_ltF (Nat.le_refl _) (by omega), q1, b3]
end PASS2
