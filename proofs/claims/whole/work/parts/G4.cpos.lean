/-! the one side: at a token, after a fault -/
section CPOS
variable {d q c k j w o y : Nat} {h h' h'' hb : am_h} {Q : Option Value → am_h → Prop} {f s a b : Int32} {T : List (Nat × Nat × Nat)} {x : Nat × Nat × Nat}
/-- the tokens lie in their rows -/
def tkk (T : List (Nat × Nat × Nat)) (h : am_h) : Prop := a_i h 86 9 = nI T.length ∧ T.length ≤ 301 ∧ ∀ i x, T[i]? = some x → a_i h 88 i = nI x.1 ∧ a_i h 89 i = nI x.2.1 ∧ a_i h 90 i = nI x.2.2
/-- it is at the j-th token, c words are made -/
def okC (q : Nat) (T : List (Nat × Nat × Nat)) (c j : Nat) (h : am_h) : Prop := tQ q h ∧ tkk T h ∧ a_i h 86 2 = 0 ∧ a_i h 86 13 = nI (j + 1) ∧ a_i h q 8 = nI c ∧ c ≤ j ∧ ∃ x, T[j]? = some x ∧ a_i h 86 10 = nI x.1 ∧ a_i h 86 11 = nI x.2.1 ∧ a_i h 86 12 = nI x.2.2
/-- what reading a law changes -/
def cF (q c : Nat) (h h' : am_h) : Prop := sm h h' ∧ a_l h' = a_l h ∧ ∀ p j, ¬ (p = 86 ∧ 10 ≤ j ∧ j ≤ 13) → ¬ (p = q ∧ j = 8) → ¬ (p = q + 7 ∧ c ≤ j) → a_i h' p j = a_i h p j
theorem sm.rf : sm h h := ⟨rfl, rfl, rfl⟩
theorem cF.rf : cF q c h h := ⟨sm.rf, rfl, fun _ _ _ _ _ => rfl⟩
theorem cF.tr (k1 : cF q c h h') (k2 : cF q k h' h'') (l : c ≤ k) : cF q c h h'' := ⟨k1.1.tr k2.1, k2.2.1.trans k1.2.1, fun p j n1 n2 n3 => (k2.2.2 p j n1 n2 (by omega)).trans (k1.2.2 p j n1 n2 n3)⟩
/-- after a fault -/
def flS (q : Nat) (f s : Int32) (hb h : am_h) : Prop := ¬ f = 0 ∧ sm hb h ∧ a_l h = a_l hb ∧ a_i h 86 2 = f ∧ a_i h 86 3 = s ∧ a_i h 86 10 = 1 ∧ (∃ c, c ≤ 300 ∧ a_i h q 8 = nI c) ∧ ∀ p j, ¬ (p = 86 ∧ (j = 2 ∨ j = 3 ∨ (10 ≤ j ∧ j ≤ 13))) → ¬ (p = q ∧ j = 8) → ¬ p = q + 7 → a_i h p j = a_i hb p j
theorem flS.re (k1 : cF q c h h') (k2 : flS q f s h' h'') : flS q f s h h'' := by
  obtain ⟨z1, z2, z3, z4, z5, z6, z7, z8⟩ := k2
  exact ⟨z1, k1.1.tr z2, z3.trans k1.2.1, z4, z5, z6, z7, fun p j n1 n2 n3 => (z8 p j n1 n2 n3).trans (k1.2.2 p j (by omega) n2 (by omega))⟩
theorem flS.en (K : okC q T c j h) (hx : T[j]? = some x) (hf : ¬ f = 0) (lc : c ≤ 300) : flS q f (nI x.2.2) h (flA h f) := by
  obtain ⟨Z, z2, z3, z4, z5, z6, x', e, y1, y2, y3⟩ := K
  have : x' = x := by rw [e] at hx; exact Option.some.inj hx
  subst this
  obtain ⟨-, l1, l2, -⟩ := Z
  unfold flA
  rw [if_pos z3]
  refine ⟨hf, sm.rf, rfl, ?_, ?_, ?_, ⟨c, lc, ?_⟩, fun p j n1 n2 n3 => ?_⟩
  · rw [ine (by omega), ine (by omega), ieq rfl rfl]
  · rw [ine (by omega), ieq rfl rfl]; exact y3
  · rw [ieq rfl rfl]
  · rw [ine (by omega), ine (by omega), ine (by omega)]; exact z5
  · rw [ine (by omega), ine (by omega), ine (by omega)]
theorem okC.len (K : okC q T c j h) : j < T.length ∧ T.length ≤ 301 := by
  obtain ⟨Z, z2, z3, z4, z5, z6, x', e, y1, y2, y3⟩ := K
  exact ⟨(List.getElem?_eq_some_iff.mp e).1, z2.2.1⟩
/-- to the next token -/
theorem cq_come (K : okC q T c j h) (l : j + 1 < T.length) : (∀ Q, Cal d mX7_come [.ref 86] h Q = Q none (cmA h (j + 1))) ∧ okC q T c (j + 1) (cmA h (j + 1)) ∧ cF q c h (cmA h (j + 1)) := by
  obtain ⟨Z, z2, z3, z4, z5, z6, x', e, y1, y2, y3⟩ := id K
  have l1 := Z.2.1
  have l2 := Z.2.2.1
  have ex : ∃ x, T[j + 1]? = some x := ⟨_, List.getElem?_eq_getElem l⟩
  obtain ⟨x, ex⟩ := ex
  obtain ⟨w1, w2, w3⟩ := z2.2.2 _ _ ex
  have fr : ∀ p i, ¬ (p = 86 ∧ 10 ≤ i ∧ i ≤ 13) → a_i (cmA h (j + 1)) p i = a_i h p i := fun p i n => by
    unfold cmA
    rw [ine (by omega), ine (by omega), ine (by omega), ine (by omega)]
  have s : sm h (cmA h (j + 1)) := sm.rf
  refine ⟨fun Q => q_X7_come Z.1 z3 z2.1 z4 l z2.2.1, ⟨Z.sm s, ⟨(fr _ _ (by omega)).trans z2.1, z2.2.1, fun i x e => ?_⟩, (fr _ _ (by omega)).trans z3, ?_, (fr _ _ (by omega)).trans z5, by omega, x, ex, ?_, ?_, ?_⟩, ⟨s, rfl, fun p i n1 _ _ => fr p i n1⟩⟩
  · rw [fr _ _ (by omega), fr _ _ (by omega), fr _ _ (by omega)]
    exact z2.2.2 i x e
  · unfold cmA
    rw [ieq rfl rfl]
  · unfold cmA
    rw [ine (by omega), ine (by omega), ine (by omega), ieq rfl rfl]; exact w1
  · unfold cmA
    rw [ine (by omega), ine (by omega), ieq rfl rfl]; exact w2
  · unfold cmA
    rw [ine (by omega), ieq rfl rfl]; exact w3
def isS (x : Nat × Nat × Nat) (y : Nat) : Prop := x.1 = 4 ∧ x.2.1 = y
def isW (x : Nat × Nat × Nat) (y : Nat) : Prop := x.1 = 3 ∧ x.2.1 = y
/-- a token's numbers are small -/
def sml (x : Nat × Nat × Nat) : Prop := x.1 < 5 ∧ (2 ≤ x.1 → x.2.1 ≤ 10000)
theorem okC.tk (K : okC q T c j h) (hx : T[j]? = some x) : a_i h 86 10 = nI x.1 ∧ a_i h 86 11 = nI x.2.1 ∧ a_i h 86 12 = nI x.2.2 := by
  obtain ⟨Z, z2, z3, z4, z5, z6, x', e, y1, y2, y3⟩ := K
  have : x' = x := by rw [e] at hx; exact Option.some.inj hx
  subst this
  exact ⟨y1, y2, y3⟩
theorem cq_sg {p : Prop} [Decidable p] (K : okC q T c j h) (hx : T[j]? = some x) (sx : sml x) (ly : y < 400) (hp : p ↔ isS x y) : Cal d mX7_isSign [.ref 86, .int (nI y)] h Q = Q (some (.int (if p then 1 else 0))) h := by
  obtain ⟨y1, y2, y3⟩ := K.tk hx
  rw [q_X7_isSign K.1.1, y1, y2]
  have e : (nI x.1 = 4 ∧ nI x.2.1 = nI y) ↔ p := by
    obtain ⟨s1, s2⟩ := sx
    rw [hp]
    unfold isS
    rw [show (4 : Int32) = nI 4 from rfl, nI_inj (by omega) (by omega)]
    by_cases z : x.1 = 4
    · rw [nI_inj (by have := s2 (by omega); omega) (by omega)]
    · exact ⟨fun g => absurd g.1 z, fun g => absurd g.1 z⟩
  by_cases z : p
  · rw [if_pos z, if_pos (e.mpr z)]
  · rw [if_neg z, if_neg (fun g => z (e.mp g))]
theorem cq_wd {p : Prop} [Decidable p] (K : okC q T c j h) (hx : T[j]? = some x) (sx : sml x) (ly : y < 400) (hp : p ↔ isW x y) : Cal d mX7_isWord [.ref 86, .int (nI y)] h Q = Q (some (.int (if p then 1 else 0))) h := by
  obtain ⟨y1, y2, y3⟩ := K.tk hx
  rw [q_X7_isWord K.1.1, y1, y2]
  have e : (nI x.1 = 3 ∧ nI x.2.1 = nI y) ↔ p := by
    obtain ⟨s1, s2⟩ := sx
    rw [hp]
    unfold isW
    rw [show (3 : Int32) = nI 3 from rfl, nI_inj (by omega) (by omega)]
    by_cases z : x.1 = 3
    · rw [nI_inj (by have := s2 (by omega); omega) (by omega)]
    · exact ⟨fun g => absurd g.1 z, fun g => absurd g.1 z⟩
  by_cases z : p
  · rw [if_pos z, if_pos (e.mpr z)]
  · rw [if_neg z, if_neg (fun g => z (e.mp g))]
/-! after a fault nothing fits -/
theorem flS.C (K : flS q f s hb h) (Z : tQ q hb) : tQ q h := Z.sm K.2.1
theorem fl_come (K : flS q f s hb h) (Z : tQ q hb) : Cal d mX7_come [.ref 86] h Q = Q none h := q_X7_come_f (K.C Z).1 (by rw [K.2.2.2.1]; exact K.1)
theorem flS.A (K : flS q f s hb h) : flA h a = h := by
  unfold flA
  rw [if_neg (by rw [K.2.2.2.1]; exact K.1)]
  exact si_self K.2.2.2.2.2.1
theorem fl_fail (K : flS q f s hb h) (Z : tQ q hb) : Cal d mX7_fail [.ref 86, .int a] h Q = Q none h := by
  rw [q_X7_fails (K.C Z).1, K.A]
theorem fl_sg (K : flS q f s hb h) (Z : tQ q hb) : Cal d mX7_isSign [.ref 86, .int a] h Q = Q (some (.int 0)) h := by
  rw [q_X7_isSign (K.C Z).1, if_neg (by rw [K.2.2.2.2.2.1]; intro z; exact absurd z.1 (by decide))]
theorem fl_wd (K : flS q f s hb h) (Z : tQ q hb) : Cal d mX7_isWord [.ref 86, .int a] h Q = Q (some (.int 0)) h := by
  rw [q_X7_isWord (K.C Z).1, if_neg (by rw [K.2.2.2.2.2.1]; intro z; exact absurd z.1 (by decide))]
theorem fl_eS (K : flS q f s hb h) (Z : tQ q hb) : Cal (d + 1) mX7_expectSign [.ref 86, .int a] h Q = Q none h := by
  have k1 : ¬ (a_i h 86 10 = 4 ∧ a_i h 86 11 = a) := by rw [K.2.2.2.2.2.1]; intro z; exact absurd z.1 (by decide)
  rw [q_X7_expectSign (h' := h) (K.C Z).1 (fun z => absurd z k1), if_neg k1, K.A]
theorem fl_eW (K : flS q f s hb h) (Z : tQ q hb) : Cal (d + 1) mX7_expectWord [.ref 86, .int a] h Q = Q none h := by
  have k1 : ¬ (a_i h 86 10 = 3 ∧ a_i h 86 11 = a) := by rw [K.2.2.2.2.2.1]; intro z; exact absurd z.1 (by decide)
  rw [q_X7_expectWord (h' := h) (K.C Z).1 (fun z => absurd z k1), if_neg k1, K.A]
theorem fl_eN (K : flS q f s hb h) (Z : tQ q hb) : Cal (d + 1) mX7_expectNumber [.ref 86, .int a, .int b] h Q = Q (some (.int 0)) h := by
  have fa : ∀ a Q, Cal d mX7_fail [.ref 86, .int a] h Q = Q none h := fun a Q => fl_fail K Z
  have hC := (K.C Z).1
  have k1 : (a_i h 86 10 = 2) = False := by rw [K.2.2.2.2.2.1]; exact eq_false (by decide)
  unfold Cal
  simp only [am_en, am_ag, ct_i, ct_r, ct_l, List.length_cons, List.length_nil, List.replicate, show m_l mX7_expectNumber = 4 from rfl]
  simp [w_aload_n0 (M := mX7_expectNumber) dX7_expectNumber_0, w_getI (M := mX7_expectNumber) dX7_expectNumber_1 f_7_52 rfl (by decide) (by decide), w_iconst (M := mX7_expectNumber) (v := 2) dX7_expectNumber_4 rfl, w_ic_eq (M := mX7_expectNumber) (tgt := 15) dX7_expectNumber_5 (by decide), w_aload_n0 (M := mX7_expectNumber) dX7_expectNumber_8, w_iconst (M := mX7_expectNumber) (v := 1) dX7_expectNumber_9 rfl, c_7_117 (M := mX7_expectNumber) dX7_expectNumber_10 rfl, w_iconst (M := mX7_expectNumber) (v := 0) dX7_expectNumber_13 rfl, w_iret (M := mX7_expectNumber) dX7_expectNumber_14 rfl, w_aload_n0 (M := mX7_expectNumber) dX7_expectNumber_15, w_getI (M := mX7_expectNumber) dX7_expectNumber_16 f_7_111 rfl (by decide) (by decide), w_iload_n1 (M := mX7_expectNumber) dX7_expectNumber_19, w_iload_n2 (M := mX7_expectNumber) dX7_expectNumber_20, c_7_201 (M := mX7_expectNumber) dX7_expectNumber_21 rfl, w_if_ne (M := mX7_expectNumber) (tgt := 34) dX7_expectNumber_24 (by decide), w_aload_n0 (M := mX7_expectNumber) dX7_expectNumber_27, w_iconst (M := mX7_expectNumber) (v := 2) dX7_expectNumber_28 rfl, c_7_117 (M := mX7_expectNumber) dX7_expectNumber_29 rfl, w_iconst (M := mX7_expectNumber) (v := 0) dX7_expectNumber_32 rfl, w_iret (M := mX7_expectNumber) dX7_expectNumber_33 rfl, w_aload_n0 (M := mX7_expectNumber) dX7_expectNumber_34, w_getI (M := mX7_expectNumber) dX7_expectNumber_35 f_7_111 rfl (by decide) (by decide), w_istore_n (M := mX7_expectNumber) (i := 3) dX7_expectNumber_38 rfl (by decide), w_aload_n0 (M := mX7_expectNumber) dX7_expectNumber_39, c_7_49 (M := mX7_expectNumber) dX7_expectNumber_40 rfl, w_iload_n3 (M := mX7_expectNumber) dX7_expectNumber_43, w_iret (M := mX7_expectNumber) dX7_expectNumber_44 rfl, Kn_v_, Kn_n_, kl_i_, kl_a_, kl_l_, kl_n_, s1_0_, s2_0_, s1_1, s1_2, s1_3, s1_4, s1_5, s1_6, s1_7, s1_8, s1_9, s1_10, s1_11, s1_12, s1_13, s1_14, s2_1, s2_2, s2_3, s2_4, s2_5, s2_6, s2_7, s2_8, s2_9, s2_10, s2_11, s2_12, s2_13, s2_14, List.map_nil, List.map_cons, List.sum_nil, List.sum_cons, ct_i_, ct_r_, ct_l_, t_si_, t_sl_, t_sr_, n_si_, n_sl_, n_sr_, i_si_, i_sl_, i_sr_, l_si_, l_sl_, l_sr_, r_si_, r_sl_, r_sr_, vr_s_, vr_n_, nz_0_, nz_1_, hC.e, k1, fa]
theorem fl_cmp (K : flS q f s hb h) (Z : tQ q hb) : Cal d mX7_comparison [.ref 86] h Q = Q (some (.int (-1))) h := q_X7_comparison0 (K.C Z).1 (by rw [K.2.2.2.2.2.1]; decide)
theorem fl_emit (K : flS q f s hb h) (Z : tQ q hb) : ∃ h' k, k < 300 ∧ (∀ Q, Cal d mX9_emit [.ref q, .int a, .int b] h Q = Q (some (.int (nI k))) h') ∧ flS q f s hb h' := by
  obtain ⟨c, lc, hc⟩ := K.2.2.2.2.2.2.1
  by_cases z : c < 300
  · obtain ⟨z1, z2, z3, z4, z5, z6, z7, z8⟩ := K
    have l1 := Z.2.1
    refine ⟨_, c, z, fun Q => q_X9_emit (Z.sm z2) hc z, z1, z2, z3, ?_, ?_, ?_, ⟨c + 1, z, ieq rfl rfl⟩, fun p j n1 n2 n3 => ?_⟩
    · unfold emA
      rw [ine (by omega), ine (by omega)]; exact z4
    · unfold emA
      rw [ine (by omega), ine (by omega)]; exact z5
    · unfold emA
      rw [ine (by omega), ine (by omega)]; exact z6
    · unfold emA
      rw [ine (by omega), ine (by omega)]; exact z8 p j n1 n2 n3
  · have : c = 300 := by omega
    subst this
    exact ⟨h, 299, by omega, fun Q => q_X9_emit_f (K.C Z) hc, K⟩
theorem fl_land (K : flS q f s hb h) (Z : tQ q hb) (lk : k < 300) : ∃ h', (∀ Q, Cal d mX9_landHere [.ref q, .int (nI k)] h Q = Q none h') ∧ flS q f s hb h' := by
  obtain ⟨c, lc, hc⟩ := K.2.2.2.2.2.2.1
  have r := fun Q => q_X9_landHere (d := d) (Q := Q) (K.C Z) hc lc lk
  by_cases z : k < c
  · rw [if_pos z] at r
    obtain ⟨z1, z2, z3, z4, z5, z6, z7, z8⟩ := K
    have l1 := Z.2.1
    refine ⟨_, r, z1, z2, z3, ?_, ?_, ?_, ⟨c, lc, ?_⟩, fun p j n1 n2 n3 => ?_⟩
    · rw [ine (by omega)]; exact z4
    · rw [ine (by omega)]; exact z5
    · rw [ine (by omega)]; exact z6
    · rw [ine (by omega)]; exact hc
    · rw [ine (by omega)]; exact z8 p j n1 n2 n3
  · rw [if_neg z] at r
    exact ⟨h, r, K⟩
theorem fl_name (K : flS q f s hb h) (Z : tQ q hb) : Cal (d + 1) mX7_readName [.ref 86] h Q = Q none h := by
  have fa : ∀ Q, Cal d mX7_fail [.ref 86, .int 1] h Q = Q none h := fun Q => fl_fail K Z
  have hC := (K.C Z).1
  have k1 : (a_i h 86 10 = 3) = False := by rw [K.2.2.2.2.2.1]; exact eq_false (by decide)
  unfold Cal
  simp only [am_en, am_ag, ct_i, ct_r, ct_l, List.length_cons, List.length_nil, List.replicate, show m_l mX7_readName = 1 from rfl]
  simp [w_aload_n0 (M := mX7_readName) dX7_readName_0, w_getI (M := mX7_readName) dX7_readName_1 f_7_52 rfl (by decide) (by decide), w_iconst (M := mX7_readName) (v := 3) dX7_readName_4 rfl, w_ic_ne (M := mX7_readName) (tgt := 26) dX7_readName_5 (by decide), w_aload_n0 (M := mX7_readName) dX7_readName_8, w_getI (M := mX7_readName) dX7_readName_9 f_7_111 rfl (by decide) (by decide), w_bipush (M := mX7_readName) (v := 21) dX7_readName_12 rfl, w_ic_lt (M := mX7_readName) (tgt := 26) dX7_readName_14 (by decide), w_aload_n0 (M := mX7_readName) dX7_readName_17, w_getI (M := mX7_readName) dX7_readName_18 f_7_111 rfl (by decide) (by decide), w_bipush (M := mX7_readName) (v := 32) dX7_readName_21 rfl, w_ic_lt (M := mX7_readName) (tgt := 34) dX7_readName_23 (by decide), w_aload_n0 (M := mX7_readName) dX7_readName_26, w_iconst (M := mX7_readName) (v := 1) dX7_readName_27 rfl, c_7_117 (M := mX7_readName) dX7_readName_28 rfl, w_goto (M := mX7_readName) (tgt := 76) dX7_readName_31 (by decide), w_vret (M := mX7_readName) dX7_readName_76 rfl, Kn_v_, Kn_n_, kl_i_, kl_a_, kl_l_, kl_n_, s1_0_, s2_0_, s1_1, s1_2, s1_3, s1_4, s1_5, s1_6, s1_7, s1_8, s1_9, s1_10, s1_11, s1_12, s1_13, s1_14, s2_1, s2_2, s2_3, s2_4, s2_5, s2_6, s2_7, s2_8, s2_9, s2_10, s2_11, s2_12, s2_13, s2_14, List.map_nil, List.map_cons, List.sum_nil, List.sum_cons, ct_i_, ct_r_, ct_l_, t_si_, t_sl_, t_sr_, n_si_, n_sl_, n_sr_, i_si_, i_sl_, i_sr_, l_si_, l_sl_, l_sr_, r_si_, r_sl_, r_sr_, vr_s_, vr_n_, nz_0_, nz_1_, hC.e, k1, fa]
theorem fl_one (K : flS q f s hb h) (Z : tQ q hb) : Cal (d + 2) mX7_readOne [.ref 86, .int a] h Q = Q none h := by
  have fn : ∀ Q, Cal (d + 1) mX7_readName [.ref 86] h Q = Q none h := fun Q => fl_name K Z
  have fg : ∀ a Q, Cal (d + 1) mX7_isSign [.ref 86, .int a] h Q = Q (some (.int 0)) h := fun a Q => fl_sg K Z
  have fw : ∀ a Q, Cal (d + 1) mX7_isWord [.ref 86, .int a] h Q = Q (some (.int 0)) h := fun a Q => fl_wd K Z
  have hC := (K.C Z).1
  have k1 : (a_i h 86 10 = 2) = False := by rw [K.2.2.2.2.2.1]; exact eq_false (by decide)
  unfold Cal
  simp only [am_en, am_ag, ct_i, ct_r, ct_l, List.length_cons, List.length_nil, List.replicate, show m_l mX7_readOne = 2 from rfl]
  simp [w_aload_n0 (M := mX7_readOne) dX7_readOne_0, w_getI (M := mX7_readOne) dX7_readOne_1 f_7_52 rfl (by decide) (by decide), w_iconst (M := mX7_readOne) (v := 2) dX7_readOne_4 rfl, w_ic_ne (M := mX7_readOne) (tgt := 28) dX7_readOne_5 (by decide), w_aload_n0 (M := mX7_readOne) dX7_readOne_8, w_getO (M := mX7_readOne) dX7_readOne_9 f_7_34 rfl (by decide) (by decide), w_iconst (M := mX7_readOne) (v := 0) dX7_readOne_12 rfl, w_aload_n0 (M := mX7_readOne) dX7_readOne_13, w_iconst (M := mX7_readOne) (v := 0) dX7_readOne_14 rfl, w_sipush (M := mX7_readOne) (v := 9999) dX7_readOne_15 rfl, c_7_148 (M := mX7_readOne) dX7_readOne_18 rfl, c_7_165 (M := mX7_readOne) dX7_readOne_21 rfl, w_pop_int (M := mX7_readOne) dX7_readOne_24, w_pop_ref (M := mX7_readOne) dX7_readOne_24, w_goto (M := mX7_readOne) (tgt := 141) dX7_readOne_25 (by decide), w_aload_n0 (M := mX7_readOne) dX7_readOne_28, w_bipush (M := mX7_readOne) (v := 40) dX7_readOne_29 rfl, c_7_160 (M := mX7_readOne) dX7_readOne_31 rfl, w_if_eq (M := mX7_readOne) (tgt := 65) dX7_readOne_34 (by decide), w_aload_n0 (M := mX7_readOne) dX7_readOne_37, w_iload_n1 (M := mX7_readOne) dX7_readOne_38, c_7_171 (M := mX7_readOne) dX7_readOne_39 rfl, w_if_eq (M := mX7_readOne) (tgt := 141) dX7_readOne_42 (by decide), w_aload_n0 (M := mX7_readOne) dX7_readOne_45, c_7_49 (M := mX7_readOne) dX7_readOne_46 rfl, w_aload_n0 (M := mX7_readOne) dX7_readOne_49, w_iload_n1 (M := mX7_readOne) dX7_readOne_50, w_iconst (M := mX7_readOne) (v := 1) dX7_readOne_51 rfl, w_iadd (M := mX7_readOne) dX7_readOne_52, c_7_136 (M := mX7_readOne) dX7_readOne_53 rfl, w_aload_n0 (M := mX7_readOne) dX7_readOne_56, w_bipush (M := mX7_readOne) (v := 41) dX7_readOne_57 rfl, c_7_145 (M := mX7_readOne) dX7_readOne_59 rfl, w_goto (M := mX7_readOne) (tgt := 141) dX7_readOne_62 (by decide), w_aload_n0 (M := mX7_readOne) dX7_readOne_65, w_bipush (M := mX7_readOne) (v := 45) dX7_readOne_66 rfl, c_7_160 (M := mX7_readOne) dX7_readOne_68 rfl, w_if_eq (M := mX7_readOne) (tgt := 106) dX7_readOne_71 (by decide), w_aload_n0 (M := mX7_readOne) dX7_readOne_74, w_iload_n1 (M := mX7_readOne) dX7_readOne_75, c_7_171 (M := mX7_readOne) dX7_readOne_76 rfl, w_if_eq (M := mX7_readOne) (tgt := 141) dX7_readOne_79 (by decide), w_aload_n0 (M := mX7_readOne) dX7_readOne_82, c_7_49 (M := mX7_readOne) dX7_readOne_83 rfl, w_aload_n0 (M := mX7_readOne) dX7_readOne_86, w_iload_n1 (M := mX7_readOne) dX7_readOne_87, w_iconst (M := mX7_readOne) (v := 1) dX7_readOne_88 rfl, w_iadd (M := mX7_readOne) dX7_readOne_89, c_7_168 (M := mX7_readOne) dX7_readOne_90 rfl, w_aload_n0 (M := mX7_readOne) dX7_readOne_93, w_getO (M := mX7_readOne) dX7_readOne_94 f_7_34 rfl (by decide) (by decide), w_iconst (M := mX7_readOne) (v := 4) dX7_readOne_97 rfl, w_iconst (M := mX7_readOne) (v := 0) dX7_readOne_98 rfl, c_7_165 (M := mX7_readOne) dX7_readOne_99 rfl, w_pop_int (M := mX7_readOne) dX7_readOne_102, w_pop_ref (M := mX7_readOne) dX7_readOne_102, w_goto (M := mX7_readOne) (tgt := 141) dX7_readOne_103 (by decide), w_aload_n0 (M := mX7_readOne) dX7_readOne_106, w_bipush (M := mX7_readOne) (v := 14) dX7_readOne_107 rfl, c_7_174 (M := mX7_readOne) dX7_readOne_109 rfl, w_if_eq (M := mX7_readOne) (tgt := 137) dX7_readOne_112 (by decide), w_aload_n0 (M := mX7_readOne) dX7_readOne_115, w_iload_n1 (M := mX7_readOne) dX7_readOne_116, c_7_171 (M := mX7_readOne) dX7_readOne_117 rfl, w_if_eq (M := mX7_readOne) (tgt := 141) dX7_readOne_120 (by decide), w_aload_n0 (M := mX7_readOne) dX7_readOne_123, c_7_49 (M := mX7_readOne) dX7_readOne_124 rfl, w_aload_n0 (M := mX7_readOne) dX7_readOne_127, w_iload_n1 (M := mX7_readOne) dX7_readOne_128, w_iconst (M := mX7_readOne) (v := 1) dX7_readOne_129 rfl, w_iadd (M := mX7_readOne) dX7_readOne_130, c_7_177 (M := mX7_readOne) dX7_readOne_131 rfl, w_goto (M := mX7_readOne) (tgt := 141) dX7_readOne_134 (by decide), w_aload_n0 (M := mX7_readOne) dX7_readOne_137, c_7_180 (M := mX7_readOne) dX7_readOne_138 rfl, w_vret (M := mX7_readOne) dX7_readOne_141 rfl, Kn_v_, Kn_n_, kl_i_, kl_a_, kl_l_, kl_n_, s1_0_, s2_0_, s1_1, s1_2, s1_3, s1_4, s1_5, s1_6, s1_7, s1_8, s1_9, s1_10, s1_11, s1_12, s1_13, s1_14, s2_1, s2_2, s2_3, s2_4, s2_5, s2_6, s2_7, s2_8, s2_9, s2_10, s2_11, s2_12, s2_13, s2_14, List.map_nil, List.map_cons, List.sum_nil, List.sum_cons, ct_i_, ct_r_, ct_l_, t_si_, t_sl_, t_sr_, n_si_, n_sl_, n_sr_, i_si_, i_sl_, i_sr_, l_si_, l_sl_, l_sr_, r_si_, r_sl_, r_sr_, vr_s_, vr_n_, nz_0_, nz_1_, hC.e, k1, fn, fg, fw]
theorem fl_prod_ (K : flS q f s hb h) (Z : tQ q hb) {i : Nat} (hi : i < 300) (x : Option Value) : WP (d + 1) mX7_readProduct 7 [some (.ref 86), some (.int a), some (.int (nI i)), x] [] h Q = Q none h := by
  have fg : ∀ a Q, Cal d mX7_isSign [.ref 86, .int a] h Q = Q (some (.int 0)) h := fun a Q => fl_sg K Z
  have hC := (K.C Z).1
  have c1 : (nI i < 300) = True := by rw [show (300 : Int32) = nI 300 from rfl]; exact nI_ltT hi (by omega)
  have c2 : (300 ≤ nI i) = False := by rw [show (300 : Int32) = nI 300 from rfl, nI_lE (by omega) (by omega)]; exact eq_false (by omega)
  simp [w_iload_n2 (M := mX7_readProduct) dX7_readProduct_7, w_sipush (M := mX7_readProduct) (v := 300) dX7_readProduct_8 rfl, w_ic_ge (M := mX7_readProduct) (tgt := 74) dX7_readProduct_11 (by decide), w_aload_n0 (M := mX7_readProduct) dX7_readProduct_14, w_bipush (M := mX7_readProduct) (v := 42) dX7_readProduct_15 rfl, c_7_160 (M := mX7_readProduct) dX7_readProduct_17 rfl, w_if_ne (M := mX7_readProduct) (tgt := 32) dX7_readProduct_20 (by decide), w_aload_n0 (M := mX7_readProduct) dX7_readProduct_23, w_bipush (M := mX7_readProduct) (v := 47) dX7_readProduct_24 rfl, c_7_160 (M := mX7_readProduct) dX7_readProduct_26 rfl, w_if_eq (M := mX7_readProduct) (tgt := 74) dX7_readProduct_29 (by decide), w_vret (M := mX7_readProduct) dX7_readProduct_74 rfl, Kn_v_, Kn_n_, kl_i_, kl_a_, kl_l_, kl_n_, s1_0_, s2_0_, s1_1, s1_2, s1_3, s1_4, s1_5, s1_6, s1_7, s1_8, s1_9, s1_10, s1_11, s1_12, s1_13, s1_14, s2_1, s2_2, s2_3, s2_4, s2_5, s2_6, s2_7, s2_8, s2_9, s2_10, s2_11, s2_12, s2_13, s2_14, List.map_nil, List.map_cons, List.sum_nil, List.sum_cons, ct_i_, ct_r_, ct_l_, t_si_, t_sl_, t_sr_, n_si_, n_sl_, n_sr_, i_si_, i_sl_, i_sr_, l_si_, l_sl_, l_sr_, r_si_, r_sl_, r_sr_, vr_s_, vr_n_, nz_0_, nz_1_, hC.e, fg, c1, c2]
theorem fl_prod (K : flS q f s hb h) (Z : tQ q hb) : Cal (d + 3) mX7_readProduct [.ref 86, .int a] h Q = Q none h := by
  have fo : ∀ Q, Cal (d + 2) mX7_readOne [.ref 86, .int a] h Q = Q none h := fun Q => fl_one K Z
  have hC := (K.C Z).1
  have lp := fun Q => fl_prod_ (d := d + 2) (Q := Q) (a := a) K Z (i := 0) (by omega) none
  rw [show nI 0 = 0 from rfl] at lp
  refine Eq.trans ?_ (lp Q)
  unfold Cal
  simp only [am_en, am_ag, ct_i, ct_r, ct_l, List.length_cons, List.length_nil, List.replicate, show m_l mX7_readProduct = 4 from rfl]
  simp [w_aload_n0 (M := mX7_readProduct) dX7_readProduct_0, w_iload_n1 (M := mX7_readProduct) dX7_readProduct_1, c_7_168 (M := mX7_readProduct) dX7_readProduct_2 rfl, w_iconst (M := mX7_readProduct) (v := 0) dX7_readProduct_5 rfl, w_istore_n (M := mX7_readProduct) (i := 2) dX7_readProduct_6 rfl (by decide), Kn_v_, Kn_n_, kl_i_, kl_a_, kl_l_, kl_n_, s1_0_, s2_0_, s1_1, s1_2, s1_3, s1_4, s1_5, s1_6, s1_7, s1_8, s1_9, s1_10, s1_11, s1_12, s1_13, s1_14, s2_1, s2_2, s2_3, s2_4, s2_5, s2_6, s2_7, s2_8, s2_9, s2_10, s2_11, s2_12, s2_13, s2_14, List.map_nil, List.map_cons, List.sum_nil, List.sum_cons, ct_i_, ct_r_, ct_l_, t_si_, t_sl_, t_sr_, n_si_, n_sl_, n_sr_, i_si_, i_sl_, i_sr_, l_si_, l_sl_, l_sr_, r_si_, r_sl_, r_sr_, vr_s_, vr_n_, nz_0_, nz_1_, hC.e, fo]
theorem fl_sum_ (K : flS q f s hb h) (Z : tQ q hb) {i : Nat} (hi : i < 300) (x : Option Value) : WP (d + 1) mX7_readSum 7 [some (.ref 86), some (.int a), some (.int (nI i)), x] [] h Q = Q none h := by
  have fg : ∀ a Q, Cal d mX7_isSign [.ref 86, .int a] h Q = Q (some (.int 0)) h := fun a Q => fl_sg K Z
  have hC := (K.C Z).1
  have c1 : (nI i < 300) = True := by rw [show (300 : Int32) = nI 300 from rfl]; exact nI_ltT hi (by omega)
  have c2 : (300 ≤ nI i) = False := by rw [show (300 : Int32) = nI 300 from rfl, nI_lE (by omega) (by omega)]; exact eq_false (by omega)
  simp [w_iload_n2 (M := mX7_readSum) dX7_readSum_7, w_sipush (M := mX7_readSum) (v := 300) dX7_readSum_8 rfl, w_ic_ge (M := mX7_readSum) (tgt := 74) dX7_readSum_11 (by decide), w_aload_n0 (M := mX7_readSum) dX7_readSum_14, w_bipush (M := mX7_readSum) (v := 43) dX7_readSum_15 rfl, c_7_160 (M := mX7_readSum) dX7_readSum_17 rfl, w_if_ne (M := mX7_readSum) (tgt := 32) dX7_readSum_20 (by decide), w_aload_n0 (M := mX7_readSum) dX7_readSum_23, w_bipush (M := mX7_readSum) (v := 45) dX7_readSum_24 rfl, c_7_160 (M := mX7_readSum) dX7_readSum_26 rfl, w_if_eq (M := mX7_readSum) (tgt := 74) dX7_readSum_29 (by decide), w_vret (M := mX7_readSum) dX7_readSum_74 rfl, Kn_v_, Kn_n_, kl_i_, kl_a_, kl_l_, kl_n_, s1_0_, s2_0_, s1_1, s1_2, s1_3, s1_4, s1_5, s1_6, s1_7, s1_8, s1_9, s1_10, s1_11, s1_12, s1_13, s1_14, s2_1, s2_2, s2_3, s2_4, s2_5, s2_6, s2_7, s2_8, s2_9, s2_10, s2_11, s2_12, s2_13, s2_14, List.map_nil, List.map_cons, List.sum_nil, List.sum_cons, ct_i_, ct_r_, ct_l_, t_si_, t_sl_, t_sr_, n_si_, n_sl_, n_sr_, i_si_, i_sl_, i_sr_, l_si_, l_sl_, l_sr_, r_si_, r_sl_, r_sr_, vr_s_, vr_n_, nz_0_, nz_1_, hC.e, fg, c1, c2]
theorem fl_sum (K : flS q f s hb h) (Z : tQ q hb) : Cal (d + 4) mX7_readSum [.ref 86, .int a] h Q = Q none h := by
  have fo : ∀ Q, Cal (d + 3) mX7_readProduct [.ref 86, .int a] h Q = Q none h := fun Q => fl_prod K Z
  have hC := (K.C Z).1
  have lp := fun Q => fl_sum_ (d := d + 3) (Q := Q) (a := a) K Z (i := 0) (by omega) none
  rw [show nI 0 = 0 from rfl] at lp
  refine Eq.trans ?_ (lp Q)
  unfold Cal
  simp only [am_en, am_ag, ct_i, ct_r, ct_l, List.length_cons, List.length_nil, List.replicate, show m_l mX7_readSum = 4 from rfl]
  simp [w_aload_n0 (M := mX7_readSum) dX7_readSum_0, w_iload_n1 (M := mX7_readSum) dX7_readSum_1, c_7_157 (M := mX7_readSum) dX7_readSum_2 rfl, w_iconst (M := mX7_readSum) (v := 0) dX7_readSum_5 rfl, w_istore_n (M := mX7_readSum) (i := 2) dX7_readSum_6 rfl (by decide), Kn_v_, Kn_n_, kl_i_, kl_a_, kl_l_, kl_n_, s1_0_, s2_0_, s1_1, s1_2, s1_3, s1_4, s1_5, s1_6, s1_7, s1_8, s1_9, s1_10, s1_11, s1_12, s1_13, s1_14, s2_1, s2_2, s2_3, s2_4, s2_5, s2_6, s2_7, s2_8, s2_9, s2_10, s2_11, s2_12, s2_13, s2_14, List.map_nil, List.map_cons, List.sum_nil, List.sum_cons, ct_i_, ct_r_, ct_l_, t_si_, t_sl_, t_sr_, n_si_, n_sl_, n_sr_, i_si_, i_sl_, i_sr_, l_si_, l_sl_, l_sr_, r_si_, r_sl_, r_sr_, vr_s_, vr_n_, nz_0_, nz_1_, hC.e, fo]
theorem fl_both_ (K : flS q f s hb h) (Z : tQ q hb) {i : Nat} (hi : i < 300) : WP (d + 1) mX7_readBoth 7 [some (.ref 86), some (.int a), some (.int (nI i))] [] h Q = Q none h := by
  have fg : ∀ a Q, Cal d mX7_isWord [.ref 86, .int a] h Q = Q (some (.int 0)) h := fun a Q => fl_wd K Z
  have hC := (K.C Z).1
  have c1 : (nI i < 300) = True := by rw [show (300 : Int32) = nI 300 from rfl]; exact nI_ltT hi (by omega)
  have c2 : (300 ≤ nI i) = False := by rw [show (300 : Int32) = nI 300 from rfl, nI_lE (by omega) (by omega)]; exact eq_false (by omega)
  simp [w_iload_n2 (M := mX7_readBoth) dX7_readBoth_7, w_sipush (M := mX7_readBoth) (v := 300) dX7_readBoth_8 rfl, w_ic_ge (M := mX7_readBoth) (tgt := 49) dX7_readBoth_11 (by decide), w_aload_n0 (M := mX7_readBoth) dX7_readBoth_14, w_bipush (M := mX7_readBoth) (v := 19) dX7_readBoth_15 rfl, c_7_174 (M := mX7_readBoth) dX7_readBoth_17 rfl, w_if_eq (M := mX7_readBoth) (tgt := 49) dX7_readBoth_20 (by decide), w_vret (M := mX7_readBoth) dX7_readBoth_49 rfl, Kn_v_, Kn_n_, kl_i_, kl_a_, kl_l_, kl_n_, s1_0_, s2_0_, s1_1, s1_2, s1_3, s1_4, s1_5, s1_6, s1_7, s1_8, s1_9, s1_10, s1_11, s1_12, s1_13, s1_14, s2_1, s2_2, s2_3, s2_4, s2_5, s2_6, s2_7, s2_8, s2_9, s2_10, s2_11, s2_12, s2_13, s2_14, List.map_nil, List.map_cons, List.sum_nil, List.sum_cons, ct_i_, ct_r_, ct_l_, t_si_, t_sl_, t_sr_, n_si_, n_sl_, n_sr_, i_si_, i_sl_, i_sr_, l_si_, l_sl_, l_sr_, r_si_, r_sl_, r_sr_, vr_s_, vr_n_, nz_0_, nz_1_, hC.e, fg, c1, c2]
theorem fl_either_ (K : flS q f s hb h) (Z : tQ q hb) {i : Nat} (hi : i < 300) : WP (d + 1) mX7_readEither 7 [some (.ref 86), some (.int a), some (.int (nI i))] [] h Q = Q none h := by
  have fg : ∀ a Q, Cal d mX7_isWord [.ref 86, .int a] h Q = Q (some (.int 0)) h := fun a Q => fl_wd K Z
  have hC := (K.C Z).1
  have c1 : (nI i < 300) = True := by rw [show (300 : Int32) = nI 300 from rfl]; exact nI_ltT hi (by omega)
  have c2 : (300 ≤ nI i) = False := by rw [show (300 : Int32) = nI 300 from rfl, nI_lE (by omega) (by omega)]; exact eq_false (by omega)
  simp [w_iload_n2 (M := mX7_readEither) dX7_readEither_7, w_sipush (M := mX7_readEither) (v := 300) dX7_readEither_8 rfl, w_ic_ge (M := mX7_readEither) (tgt := 49) dX7_readEither_11 (by decide), w_aload_n0 (M := mX7_readEither) dX7_readEither_14, w_bipush (M := mX7_readEither) (v := 18) dX7_readEither_15 rfl, c_7_174 (M := mX7_readEither) dX7_readEither_17 rfl, w_if_eq (M := mX7_readEither) (tgt := 49) dX7_readEither_20 (by decide), w_vret (M := mX7_readEither) dX7_readEither_49 rfl, Kn_v_, Kn_n_, kl_i_, kl_a_, kl_l_, kl_n_, s1_0_, s2_0_, s1_1, s1_2, s1_3, s1_4, s1_5, s1_6, s1_7, s1_8, s1_9, s1_10, s1_11, s1_12, s1_13, s1_14, s2_1, s2_2, s2_3, s2_4, s2_5, s2_6, s2_7, s2_8, s2_9, s2_10, s2_11, s2_12, s2_13, s2_14, List.map_nil, List.map_cons, List.sum_nil, List.sum_cons, ct_i_, ct_r_, ct_l_, t_si_, t_sl_, t_sr_, n_si_, n_sl_, n_sr_, i_si_, i_sl_, i_sr_, l_si_, l_sl_, l_sr_, r_si_, r_sl_, r_sr_, vr_s_, vr_n_, nz_0_, nz_1_, hC.e, fg, c1, c2]
end CPOS
