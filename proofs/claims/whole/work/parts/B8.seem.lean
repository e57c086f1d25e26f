/-! looks that stop: both sides -/
section SEEM
variable {d T i j : Nat} {h : am_h} {g : Nat → Int32} {v : Int32} {Q : Option Value → am_h → Prop}
/-- the first of k from i on that P says of, by what v says of it; none -/
def fv (P : Nat → Bool) (v : Nat → Int32) : Nat → Nat → Int32
  | 0, _ => -1
  | k + 1, i => if P i = true then v i else fv P v k (i + 1)
/-- one of k from i on -/
def an (P : Nat → Bool) : Nat → Nat → Bool
  | 0, _ => false
  | k + 1, i => P i || an P k (i + 1)
theorem lpf {α : Type} {W : Nat → α} {P : Nat → Bool} {v : Nat → Int32} {R : Int32 → α} {n : Nat} (st : ∀ i, i < n → W i = if P i = true then R (v i) else W (i + 1)) (en : W n = R (-1)) : ∀ k i, i + k = n → W i = R (fv P v k i) := by
  intro k
  induction k with
  | zero => intro i e; have : i = n := by omega
            subst this; exact en
  | succ k ih =>
    intro i e
    rw [st i (by omega)]
    unfold fv
    by_cases c : P i = true
    · rw [if_pos c, if_pos c]
    · rw [if_neg c, if_neg c]; exact ih (i + 1) (by omega)
theorem lpa {α : Type} {W : Nat → α} {P : Nat → Bool} {R : Bool → α} {n : Nat} (st : ∀ i, i < n → W i = if P i = true then R true else W (i + 1)) (en : W n = R false) : ∀ k i, i + k = n → W i = R (an P k i) := by
  intro k
  induction k with
  | zero => intro i e; have : i = n := by omega
            subst this; exact en
  | succ k ih =>
    intro i e
    rw [st i (by omega)]
    unfold an
    cases c : P i with
    | true => rw [if_pos rfl]; rfl
    | false => rw [if_neg (by decide)]; exact ih (i + 1) (by omega)
theorem an_or {P : Nat → Bool} : ∀ k i b, itr (fun i s => s || P i) i k b = (b || an P k i) := by
  intro k
  induction k with
  | zero => intro i b; show b = (b || false); simp
  | succ k ih =>
    intro i b
    show itr (fun i s => s || P i) (i + 1) k (b || P i) = (b || (P i || an P k (i + 1)))
    rw [ih, Bool.or_assoc]
theorem fv_c {P P' : Nat → Bool} {v : Nat → Int32} {n : Nat} (hP : ∀ i, i < n → P i = P' i) : ∀ k i, i + k = n → fv P v k i = fv P' v k i := by
  intro k
  induction k with
  | zero => intro i _; rfl
  | succ k ih =>
    intro i e
    unfold fv
    rw [hP i (by omega), ih (i + 1) (by omega)]
theorem an_c {P P' : Nat → Bool} {n : Nat} (hP : ∀ i, i < n → P i = P' i) : ∀ k i, i + k = n → an P k i = an P' k i := by
  intro k
  induction k with
  | zero => intro i _; rfl
  | succ k ih =>
    intro i e
    unfold an
    rw [hP i (by omega), ih (i + 1) (by omega)]
/-- what is found is none, or one that P says of -/
theorem fv_s {P : Nat → Bool} {v : Nat → Int32} : ∀ k i, fv P v k i = -1 ∨ ∃ j, i ≤ j ∧ j < i + k ∧ P j = true ∧ fv P v k i = v j := by
  intro k
  induction k with
  | zero => intro i; exact Or.inl rfl
  | succ k ih =>
    intro i
    unfold fv
    by_cases c : P i = true
    · rw [if_pos c]; exact Or.inr ⟨i, by omega, by omega, c, rfl⟩
    · rw [if_neg c]
      rcases ih (i + 1) with z | ⟨j, z1, z2, z3, z4⟩
      · exact Or.inl z
      · exact Or.inr ⟨j, by omega, by omega, z3, z4⟩
/-- the least is the first, where later ones are no less -/
theorem fv_min {P : Nat → Bool} {v : Nat → Int32} {n : Nat} (hv : ∀ j, j < n → P j = true → ¬ v j = -1) (hm : ∀ i j, i < j → j < n → P i = true → P j = true → ¬ v j < v i) : ∀ k i, i + k = n → itr (fun i s => if P i = true ∧ (s = -1 ∨ v i < s) then v i else s) i k (-1) = fv P v k i := by
  have keep : ∀ k i a, i + k = n → a < i → P a = true → itr (fun i s => if P i = true ∧ (s = -1 ∨ v i < s) then v i else s) i k (v a) = v a := by
    intro k
    induction k with
    | zero => intro i a _ _ _; rfl
    | succ k ih =>
      intro i a e ha pa
      show itr _ (i + 1) k (if P i = true ∧ (v a = -1 ∨ v i < v a) then v i else v a) = v a
      rw [if_neg (fun w => by
        rcases w.2 with z | z
        · exact hv a (by omega) pa z
        · exact hm a i ha (by omega) pa w.1 z)]
      exact ih (i + 1) a (by omega) (by omega) pa
  intro k
  induction k with
  | zero => intro i _; rfl
  | succ k ih =>
    intro i e
    show itr _ (i + 1) k (if P i = true ∧ ((-1 : Int32) = -1 ∨ v i < -1) then v i else -1) = _
    unfold fv
    by_cases c : P i = true
    · rw [if_pos ⟨c, Or.inl rfl⟩, if_pos c]
      exact keep k (i + 1) i (by omega) (by omega) c
    · rw [if_neg (fun w => c w.1), if_neg c]
      exact ih (i + 1) (by omega)
/-- a turn of an end of which a tenth was spoken -/
def spB (g : Nat → Int32) (w i : Nat) : Bool := decide (g (166 + 5 * i) = nI w ∧ ¬ g (166 + 5 * i + 3) = g (166 + 5 * i + 1))
theorem wsp (G : tG g T) (hi : i < T) : (g (166 + 5 * i + 3) = -1 ∨ g (166 + 5 * i + 1) < g (166 + 5 * i + 3)) = ¬ g (166 + 5 * i + 3) = g (166 + 5 * i + 1) := by
  obtain ⟨w, w1, w2, w3, w4⟩ := G.2 i hi
  apply propext
  constructor
  · rintro (z | z) e
    · rw [← e, z] at w3
      exact absurd w3 (by decide)
    · rw [e] at z
      exact absurd z (by simp)
  · intro z
    rcases w4 with y | y
    · exact Or.inl y
    · refine Or.inr ?_
      rw [lt_ne y]
      exact z
set_option maxRecDepth 20000 in
theorem c_sp (B : bG h g T) (hi : i < 90) (hT : i < T) {w : Nat} (hw : w < 4) : Cal d mX2_isSpokenBy [.ref 16, .int (nI i), .int (nI w)] h Q = Q (some (.int (if spB g w i = true then 1 else 0))) h := by
  obtain ⟨hC, b1, b2, b3, b4⟩ := B
  obtain ⟨r1, r2, r3, r4, r5⟩ := b4 i hT
  rw [q_X2_isSpokenBy (eq_true hC)]
  unfold spB
  simp only [nI_c (show i < 2000000000 by omega), nI_p (show i < 2000000000 by omega), r1, r2, r4, show (i < 90) = True from eq_true hi, and_self, true_and]
  by_cases c1 : g (166 + 5 * i) = nI w <;> by_cases c2 : g (166 + 5 * i + 3) = g (166 + 5 * i + 1) <;> simp [c1, c2]
/-- what the look's last cell of its own holds -/
def oLk (g : Nat → Int32) (w : Nat) (v : Int32) (i : Nat) : Option Value := if i = 0 then none else some (.int (if spB g w (i - 1) = true ∧ ¬ v < g (166 + 5 * (i - 1) + 1) then 1 else 0))
/-- speaks at a tenth: a round -/
def PT (g : Nat → Int32) (w : Nat) (v : Int32) (j : Nat) : Bool := spB g w j && decide (¬ v < g (166 + 5 * j + 1) ∧ (g (166 + 5 * j + 3) = -1 ∨ v < g (166 + 5 * j + 3)))
set_option maxRecDepth 20000 in
set_option maxHeartbeats 2000000 in
theorem r_turnAt (hR : sh_R (a_t h) (a_r h)) (hT : a_i h 127 165 = nI T) (G : tG (a_i h 127) T) {w : Nat} (hw : w < 4) : Cal (d + 2) mX12_turnAt [.ref 126, .int (nI w), .int v] h Q = Q (some (.int (fv (PT (a_i h 127) w v) nI T 0))) h := by
  have st : ∀ i, i < T → WP (d + 2) mX12_turnAt 2 [some (.ref 126), some (.int (nI w)), some (.int v), some (.int (nI i)), oLk (a_i h 127) w v i] [] h Q = if PT (a_i h 127) w v i = true then Q (some (.int (nI i))) h else WP (d + 2) mX12_turnAt 2 [some (.ref 126), some (.int (nI w)), some (.int v), some (.int (nI (i + 1))), oLk (a_i h 127) w v (i + 1)] [] h Q := by
    intro i hi
    have t90 := G.1
    have ws := wsp G hi
    have u0 : (166 + 5 * nI i).toNatClampNeg = 166 + 5 * i := ixT0 (by omega)
    have l0 : (0 ≤ 166 + 5 * nI i) = True := ipT0 (by omega)
    have u1 : (166 + 5 * nI i + 1).toNatClampNeg = 166 + 5 * i + 1 := ixT1 (by omega)
    have l1 : (0 ≤ 166 + 5 * nI i + 1) = True := ipT1 (by omega)
    have u3 : (166 + 5 * nI i + 3).toNatClampNeg = 166 + 5 * i + 3 := ixT3 (by omega)
    have l3 : (0 ≤ 166 + 5 * nI i + 3) = True := ipT3 (by omega)
    have lt : (nI i < nI T) = True := nI_ltT hi (by omega)
    generalize oLk (a_i h 127) w v i = oo
    unfold oLk
    rw [if_neg (show ¬ i + 1 = 0 by omega), show i + 1 - 1 = i by omega]
    rw [w_iload_n3 (M := mX12_turnAt) dX12_turnAt_2]
    unfold PT spB
    simp only [← ws]
    by_cases c1 : a_i h 127 (166 + 5 * i) = nI w
    · by_cases c3 : a_i h 127 (166 + 5 * i + 3) = -1
      · by_cases c4 : v < a_i h 127 (166 + 5 * i + 1)
        · simp [w_aload_n0 (M := mX12_turnAt) dX12_turnAt_3, w_getA (M := mX12_turnAt) dX12_turnAt_4 f_12_7 rfl (by decide) (by decide), w_sipush (M := mX12_turnAt) (v := 165) dX12_turnAt_7 rfl, w_iaload (M := mX12_turnAt) dX12_turnAt_10, w_ic_ge (M := mX12_turnAt) (tgt := 82) dX12_turnAt_11 (by decide), w_aload_n0 (M := mX12_turnAt) dX12_turnAt_14, w_iload_n3 (M := mX12_turnAt) dX12_turnAt_15, w_iconst (M := mX12_turnAt) (v := 0) dX12_turnAt_16 rfl, c_12_415 (M := mX12_turnAt) dX12_turnAt_17 rfl, w_iload_n1 (M := mX12_turnAt) dX12_turnAt_20, w_ic_ne (M := mX12_turnAt) (tgt := 46) dX12_turnAt_21 (by decide), w_aload_n0 (M := mX12_turnAt) dX12_turnAt_24, w_iload_n3 (M := mX12_turnAt) dX12_turnAt_25, c_12_445 (M := mX12_turnAt) dX12_turnAt_26 rfl, w_if_eq (M := mX12_turnAt) (tgt := 46) dX12_turnAt_29 (by decide), w_aload_n0 (M := mX12_turnAt) dX12_turnAt_32, w_iload_n3 (M := mX12_turnAt) dX12_turnAt_33, w_iconst (M := mX12_turnAt) (v := 1) dX12_turnAt_34 rfl, c_12_415 (M := mX12_turnAt) dX12_turnAt_35 rfl, w_iload_n2 (M := mX12_turnAt) dX12_turnAt_38, w_ic_gt (M := mX12_turnAt) (tgt := 46) dX12_turnAt_39 (by decide), w_iconst (M := mX12_turnAt) (v := 1) dX12_turnAt_42 rfl, w_goto (M := mX12_turnAt) (tgt := 47) dX12_turnAt_43 (by decide), w_iconst (M := mX12_turnAt) (v := 0) dX12_turnAt_46 rfl, w_istore (M := mX12_turnAt) dX12_turnAt_47 (by decide), w_iload4 (M := mX12_turnAt) dX12_turnAt_49, w_if_eq (M := mX12_turnAt) (tgt := 76) dX12_turnAt_51 (by decide), w_aload_n0 (M := mX12_turnAt) dX12_turnAt_54, w_iload_n3 (M := mX12_turnAt) dX12_turnAt_55, w_iconst (M := mX12_turnAt) (v := 3) dX12_turnAt_56 rfl, c_12_415 (M := mX12_turnAt) dX12_turnAt_57 rfl, w_iconst (M := mX12_turnAt) (v := (-1)) dX12_turnAt_60 rfl, w_ic_eq (M := mX12_turnAt) (tgt := 74) dX12_turnAt_61 (by decide), w_aload_n0 (M := mX12_turnAt) dX12_turnAt_64, w_iload_n3 (M := mX12_turnAt) dX12_turnAt_65, w_iconst (M := mX12_turnAt) (v := 3) dX12_turnAt_66 rfl, c_12_415 (M := mX12_turnAt) dX12_turnAt_67 rfl, w_iload_n2 (M := mX12_turnAt) dX12_turnAt_70, w_ic_le (M := mX12_turnAt) (tgt := 76) dX12_turnAt_71 (by decide), w_iload_n3 (M := mX12_turnAt) dX12_turnAt_74, w_iret (M := mX12_turnAt) dX12_turnAt_75 rfl, w_iinc3 (M := mX12_turnAt) (v := 1) dX12_turnAt_76 rfl (by decide), w_goto (M := mX12_turnAt) (tgt := 2) dX12_turnAt_79 (by decide), Kn_v_, Kn_n_, kl_i_, kl_a_, kl_l_, kl_n_, s1_0_, s2_0_, s1_1, s1_2, s1_3, s1_4, s1_5, s1_6, s1_7, s1_8, s1_9, s1_10, s1_11, s1_12, s1_13, s1_14, s2_1, s2_2, s2_3, s2_4, s2_5, s2_6, s2_7, s2_8, s2_9, s2_10, s2_11, s2_12, s2_13, s2_14, List.map_nil, List.map_cons, List.sum_nil, List.sum_cons, ct_i_, ct_r_, ct_l_, t_si_, t_sl_, t_sr_, n_si_, n_sl_, n_sr_, i_si_, i_sl_, i_sr_, l_si_, l_sl_, l_sr_, r_si_, r_sl_, r_sr_, vr_s_, vr_n_, nz_0_, nz_1_, hR, hR.e, am_in1, hT, lt, q_X12_ofTurn, q_X12_wasSpoken, u0, u1, u3, l0, l1, l3, show 166 + 5 * i < 20150 by omega, show 166 + 5 * i + 1 < 20150 by omega, show 166 + 5 * i + 3 < 20150 by omega, show 166 + 5 * i < 20147 by omega, show 166 + 5 * i < 20149 by omega, c1, c3, c4, nI_s]
        · simp [w_aload_n0 (M := mX12_turnAt) dX12_turnAt_3, w_getA (M := mX12_turnAt) dX12_turnAt_4 f_12_7 rfl (by decide) (by decide), w_sipush (M := mX12_turnAt) (v := 165) dX12_turnAt_7 rfl, w_iaload (M := mX12_turnAt) dX12_turnAt_10, w_ic_ge (M := mX12_turnAt) (tgt := 82) dX12_turnAt_11 (by decide), w_aload_n0 (M := mX12_turnAt) dX12_turnAt_14, w_iload_n3 (M := mX12_turnAt) dX12_turnAt_15, w_iconst (M := mX12_turnAt) (v := 0) dX12_turnAt_16 rfl, c_12_415 (M := mX12_turnAt) dX12_turnAt_17 rfl, w_iload_n1 (M := mX12_turnAt) dX12_turnAt_20, w_ic_ne (M := mX12_turnAt) (tgt := 46) dX12_turnAt_21 (by decide), w_aload_n0 (M := mX12_turnAt) dX12_turnAt_24, w_iload_n3 (M := mX12_turnAt) dX12_turnAt_25, c_12_445 (M := mX12_turnAt) dX12_turnAt_26 rfl, w_if_eq (M := mX12_turnAt) (tgt := 46) dX12_turnAt_29 (by decide), w_aload_n0 (M := mX12_turnAt) dX12_turnAt_32, w_iload_n3 (M := mX12_turnAt) dX12_turnAt_33, w_iconst (M := mX12_turnAt) (v := 1) dX12_turnAt_34 rfl, c_12_415 (M := mX12_turnAt) dX12_turnAt_35 rfl, w_iload_n2 (M := mX12_turnAt) dX12_turnAt_38, w_ic_gt (M := mX12_turnAt) (tgt := 46) dX12_turnAt_39 (by decide), w_iconst (M := mX12_turnAt) (v := 1) dX12_turnAt_42 rfl, w_goto (M := mX12_turnAt) (tgt := 47) dX12_turnAt_43 (by decide), w_iconst (M := mX12_turnAt) (v := 0) dX12_turnAt_46 rfl, w_istore (M := mX12_turnAt) dX12_turnAt_47 (by decide), w_iload4 (M := mX12_turnAt) dX12_turnAt_49, w_if_eq (M := mX12_turnAt) (tgt := 76) dX12_turnAt_51 (by decide), w_aload_n0 (M := mX12_turnAt) dX12_turnAt_54, w_iload_n3 (M := mX12_turnAt) dX12_turnAt_55, w_iconst (M := mX12_turnAt) (v := 3) dX12_turnAt_56 rfl, c_12_415 (M := mX12_turnAt) dX12_turnAt_57 rfl, w_iconst (M := mX12_turnAt) (v := (-1)) dX12_turnAt_60 rfl, w_ic_eq (M := mX12_turnAt) (tgt := 74) dX12_turnAt_61 (by decide), w_aload_n0 (M := mX12_turnAt) dX12_turnAt_64, w_iload_n3 (M := mX12_turnAt) dX12_turnAt_65, w_iconst (M := mX12_turnAt) (v := 3) dX12_turnAt_66 rfl, c_12_415 (M := mX12_turnAt) dX12_turnAt_67 rfl, w_iload_n2 (M := mX12_turnAt) dX12_turnAt_70, w_ic_le (M := mX12_turnAt) (tgt := 76) dX12_turnAt_71 (by decide), w_iload_n3 (M := mX12_turnAt) dX12_turnAt_74, w_iret (M := mX12_turnAt) dX12_turnAt_75 rfl, w_iinc3 (M := mX12_turnAt) (v := 1) dX12_turnAt_76 rfl (by decide), w_goto (M := mX12_turnAt) (tgt := 2) dX12_turnAt_79 (by decide), Kn_v_, Kn_n_, kl_i_, kl_a_, kl_l_, kl_n_, s1_0_, s2_0_, s1_1, s1_2, s1_3, s1_4, s1_5, s1_6, s1_7, s1_8, s1_9, s1_10, s1_11, s1_12, s1_13, s1_14, s2_1, s2_2, s2_3, s2_4, s2_5, s2_6, s2_7, s2_8, s2_9, s2_10, s2_11, s2_12, s2_13, s2_14, List.map_nil, List.map_cons, List.sum_nil, List.sum_cons, ct_i_, ct_r_, ct_l_, t_si_, t_sl_, t_sr_, n_si_, n_sl_, n_sr_, i_si_, i_sl_, i_sr_, l_si_, l_sl_, l_sr_, r_si_, r_sl_, r_sr_, vr_s_, vr_n_, nz_0_, nz_1_, hR, hR.e, am_in1, hT, lt, q_X12_ofTurn, q_X12_wasSpoken, u0, u1, u3, l0, l1, l3, show 166 + 5 * i < 20150 by omega, show 166 + 5 * i + 1 < 20150 by omega, show 166 + 5 * i + 3 < 20150 by omega, show 166 + 5 * i < 20147 by omega, show 166 + 5 * i < 20149 by omega, c1, c3, c4, nI_s]
      · by_cases c5 : a_i h 127 (166 + 5 * i + 1) < a_i h 127 (166 + 5 * i + 3) <;> by_cases c4 : v < a_i h 127 (166 + 5 * i + 1) <;> by_cases c6 : v < a_i h 127 (166 + 5 * i + 3) <;> simp [w_aload_n0 (M := mX12_turnAt) dX12_turnAt_3, w_getA (M := mX12_turnAt) dX12_turnAt_4 f_12_7 rfl (by decide) (by decide), w_sipush (M := mX12_turnAt) (v := 165) dX12_turnAt_7 rfl, w_iaload (M := mX12_turnAt) dX12_turnAt_10, w_ic_ge (M := mX12_turnAt) (tgt := 82) dX12_turnAt_11 (by decide), w_aload_n0 (M := mX12_turnAt) dX12_turnAt_14, w_iload_n3 (M := mX12_turnAt) dX12_turnAt_15, w_iconst (M := mX12_turnAt) (v := 0) dX12_turnAt_16 rfl, c_12_415 (M := mX12_turnAt) dX12_turnAt_17 rfl, w_iload_n1 (M := mX12_turnAt) dX12_turnAt_20, w_ic_ne (M := mX12_turnAt) (tgt := 46) dX12_turnAt_21 (by decide), w_aload_n0 (M := mX12_turnAt) dX12_turnAt_24, w_iload_n3 (M := mX12_turnAt) dX12_turnAt_25, c_12_445 (M := mX12_turnAt) dX12_turnAt_26 rfl, w_if_eq (M := mX12_turnAt) (tgt := 46) dX12_turnAt_29 (by decide), w_aload_n0 (M := mX12_turnAt) dX12_turnAt_32, w_iload_n3 (M := mX12_turnAt) dX12_turnAt_33, w_iconst (M := mX12_turnAt) (v := 1) dX12_turnAt_34 rfl, c_12_415 (M := mX12_turnAt) dX12_turnAt_35 rfl, w_iload_n2 (M := mX12_turnAt) dX12_turnAt_38, w_ic_gt (M := mX12_turnAt) (tgt := 46) dX12_turnAt_39 (by decide), w_iconst (M := mX12_turnAt) (v := 1) dX12_turnAt_42 rfl, w_goto (M := mX12_turnAt) (tgt := 47) dX12_turnAt_43 (by decide), w_iconst (M := mX12_turnAt) (v := 0) dX12_turnAt_46 rfl, w_istore (M := mX12_turnAt) dX12_turnAt_47 (by decide), w_iload4 (M := mX12_turnAt) dX12_turnAt_49, w_if_eq (M := mX12_turnAt) (tgt := 76) dX12_turnAt_51 (by decide), w_aload_n0 (M := mX12_turnAt) dX12_turnAt_54, w_iload_n3 (M := mX12_turnAt) dX12_turnAt_55, w_iconst (M := mX12_turnAt) (v := 3) dX12_turnAt_56 rfl, c_12_415 (M := mX12_turnAt) dX12_turnAt_57 rfl, w_iconst (M := mX12_turnAt) (v := (-1)) dX12_turnAt_60 rfl, w_ic_eq (M := mX12_turnAt) (tgt := 74) dX12_turnAt_61 (by decide), w_aload_n0 (M := mX12_turnAt) dX12_turnAt_64, w_iload_n3 (M := mX12_turnAt) dX12_turnAt_65, w_iconst (M := mX12_turnAt) (v := 3) dX12_turnAt_66 rfl, c_12_415 (M := mX12_turnAt) dX12_turnAt_67 rfl, w_iload_n2 (M := mX12_turnAt) dX12_turnAt_70, w_ic_le (M := mX12_turnAt) (tgt := 76) dX12_turnAt_71 (by decide), w_iload_n3 (M := mX12_turnAt) dX12_turnAt_74, w_iret (M := mX12_turnAt) dX12_turnAt_75 rfl, w_iinc3 (M := mX12_turnAt) (v := 1) dX12_turnAt_76 rfl (by decide), w_goto (M := mX12_turnAt) (tgt := 2) dX12_turnAt_79 (by decide), Kn_v_, Kn_n_, kl_i_, kl_a_, kl_l_, kl_n_, s1_0_, s2_0_, s1_1, s1_2, s1_3, s1_4, s1_5, s1_6, s1_7, s1_8, s1_9, s1_10, s1_11, s1_12, s1_13, s1_14, s2_1, s2_2, s2_3, s2_4, s2_5, s2_6, s2_7, s2_8, s2_9, s2_10, s2_11, s2_12, s2_13, s2_14, List.map_nil, List.map_cons, List.sum_nil, List.sum_cons, ct_i_, ct_r_, ct_l_, t_si_, t_sl_, t_sr_, n_si_, n_sl_, n_sr_, i_si_, i_sl_, i_sr_, l_si_, l_sl_, l_sr_, r_si_, r_sl_, r_sr_, vr_s_, vr_n_, nz_0_, nz_1_, hR, hR.e, am_in1, hT, lt, q_X12_ofTurn, q_X12_wasSpoken, u0, u1, u3, l0, l1, l3, show 166 + 5 * i < 20150 by omega, show 166 + 5 * i + 1 < 20150 by omega, show 166 + 5 * i + 3 < 20150 by omega, show 166 + 5 * i < 20147 by omega, show 166 + 5 * i < 20149 by omega, c1, c3, c4, c5, c6, nI_s]
    · simp [w_aload_n0 (M := mX12_turnAt) dX12_turnAt_3, w_getA (M := mX12_turnAt) dX12_turnAt_4 f_12_7 rfl (by decide) (by decide), w_sipush (M := mX12_turnAt) (v := 165) dX12_turnAt_7 rfl, w_iaload (M := mX12_turnAt) dX12_turnAt_10, w_ic_ge (M := mX12_turnAt) (tgt := 82) dX12_turnAt_11 (by decide), w_aload_n0 (M := mX12_turnAt) dX12_turnAt_14, w_iload_n3 (M := mX12_turnAt) dX12_turnAt_15, w_iconst (M := mX12_turnAt) (v := 0) dX12_turnAt_16 rfl, c_12_415 (M := mX12_turnAt) dX12_turnAt_17 rfl, w_iload_n1 (M := mX12_turnAt) dX12_turnAt_20, w_ic_ne (M := mX12_turnAt) (tgt := 46) dX12_turnAt_21 (by decide), w_aload_n0 (M := mX12_turnAt) dX12_turnAt_24, w_iload_n3 (M := mX12_turnAt) dX12_turnAt_25, c_12_445 (M := mX12_turnAt) dX12_turnAt_26 rfl, w_if_eq (M := mX12_turnAt) (tgt := 46) dX12_turnAt_29 (by decide), w_aload_n0 (M := mX12_turnAt) dX12_turnAt_32, w_iload_n3 (M := mX12_turnAt) dX12_turnAt_33, w_iconst (M := mX12_turnAt) (v := 1) dX12_turnAt_34 rfl, c_12_415 (M := mX12_turnAt) dX12_turnAt_35 rfl, w_iload_n2 (M := mX12_turnAt) dX12_turnAt_38, w_ic_gt (M := mX12_turnAt) (tgt := 46) dX12_turnAt_39 (by decide), w_iconst (M := mX12_turnAt) (v := 1) dX12_turnAt_42 rfl, w_goto (M := mX12_turnAt) (tgt := 47) dX12_turnAt_43 (by decide), w_iconst (M := mX12_turnAt) (v := 0) dX12_turnAt_46 rfl, w_istore (M := mX12_turnAt) dX12_turnAt_47 (by decide), w_iload4 (M := mX12_turnAt) dX12_turnAt_49, w_if_eq (M := mX12_turnAt) (tgt := 76) dX12_turnAt_51 (by decide), w_aload_n0 (M := mX12_turnAt) dX12_turnAt_54, w_iload_n3 (M := mX12_turnAt) dX12_turnAt_55, w_iconst (M := mX12_turnAt) (v := 3) dX12_turnAt_56 rfl, c_12_415 (M := mX12_turnAt) dX12_turnAt_57 rfl, w_iconst (M := mX12_turnAt) (v := (-1)) dX12_turnAt_60 rfl, w_ic_eq (M := mX12_turnAt) (tgt := 74) dX12_turnAt_61 (by decide), w_aload_n0 (M := mX12_turnAt) dX12_turnAt_64, w_iload_n3 (M := mX12_turnAt) dX12_turnAt_65, w_iconst (M := mX12_turnAt) (v := 3) dX12_turnAt_66 rfl, c_12_415 (M := mX12_turnAt) dX12_turnAt_67 rfl, w_iload_n2 (M := mX12_turnAt) dX12_turnAt_70, w_ic_le (M := mX12_turnAt) (tgt := 76) dX12_turnAt_71 (by decide), w_iload_n3 (M := mX12_turnAt) dX12_turnAt_74, w_iret (M := mX12_turnAt) dX12_turnAt_75 rfl, w_iinc3 (M := mX12_turnAt) (v := 1) dX12_turnAt_76 rfl (by decide), w_goto (M := mX12_turnAt) (tgt := 2) dX12_turnAt_79 (by decide), Kn_v_, Kn_n_, kl_i_, kl_a_, kl_l_, kl_n_, s1_0_, s2_0_, s1_1, s1_2, s1_3, s1_4, s1_5, s1_6, s1_7, s1_8, s1_9, s1_10, s1_11, s1_12, s1_13, s1_14, s2_1, s2_2, s2_3, s2_4, s2_5, s2_6, s2_7, s2_8, s2_9, s2_10, s2_11, s2_12, s2_13, s2_14, List.map_nil, List.map_cons, List.sum_nil, List.sum_cons, ct_i_, ct_r_, ct_l_, t_si_, t_sl_, t_sr_, n_si_, n_sl_, n_sr_, i_si_, i_sl_, i_sr_, l_si_, l_sl_, l_sr_, r_si_, r_sl_, r_sr_, vr_s_, vr_n_, nz_0_, nz_1_, hR, hR.e, am_in1, hT, lt, q_X12_ofTurn, q_X12_wasSpoken, u0, u1, u3, l0, l1, l3, show 166 + 5 * i < 20150 by omega, show 166 + 5 * i + 1 < 20150 by omega, show 166 + 5 * i + 3 < 20150 by omega, show 166 + 5 * i < 20147 by omega, show 166 + 5 * i < 20149 by omega, c1, nI_s]
  have t90 := G.1
  have key := lpf (W := fun i => WP (d + 2) mX12_turnAt 2 [some (.ref 126), some (.int (nI w)), some (.int v), some (.int (nI i)), oLk (a_i h 127) w v i] [] h Q) (P := PT (a_i h 127) w v) (v := nI) (R := fun z => Q (some (.int z)) h) (n := T) st (by
    rw [w_iload_n3 (M := mX12_turnAt) dX12_turnAt_2]
    simp [w_aload_n0 (M := mX12_turnAt) dX12_turnAt_3, w_getA (M := mX12_turnAt) dX12_turnAt_4 f_12_7 rfl (by decide) (by decide), w_sipush (M := mX12_turnAt) (v := 165) dX12_turnAt_7 rfl, w_iaload (M := mX12_turnAt) dX12_turnAt_10, w_ic_ge (M := mX12_turnAt) (tgt := 82) dX12_turnAt_11 (by decide), w_iconst (M := mX12_turnAt) (v := (-1)) dX12_turnAt_82 rfl, w_iret (M := mX12_turnAt) dX12_turnAt_83 rfl, Kn_v_, Kn_n_, kl_i_, kl_a_, kl_l_, kl_n_, s1_0_, s2_0_, s1_1, s1_2, s1_3, s1_4, s1_5, s1_6, s1_7, s1_8, s1_9, s1_10, s1_11, s1_12, s1_13, s1_14, s2_1, s2_2, s2_3, s2_4, s2_5, s2_6, s2_7, s2_8, s2_9, s2_10, s2_11, s2_12, s2_13, s2_14, List.map_nil, List.map_cons, List.sum_nil, List.sum_cons, ct_i_, ct_r_, ct_l_, t_si_, t_sl_, t_sr_, n_si_, n_sl_, n_sr_, i_si_, i_sl_, i_sr_, l_si_, l_sl_, l_sr_, r_si_, r_sl_, r_sr_, vr_s_, vr_n_, nz_0_, nz_1_, hR.e, am_in1, hT, show (nI T < nI T) = False from nI_ltF (Nat.le_refl _) (by omega)]) T 0 (by omega)
  rw [show oLk (a_i h 127) w v 0 = none from rfl] at key
  have e0 : (0 : Int32) = nI 0 := rfl
  unfold Cal
  rw [l_X12_turnAt]
  simp only [am_en, am_ag, ct_i, ct_r, ct_l, List.length_cons, List.length_nil, List.replicate]
  simp [w_iconst (M := mX12_turnAt) (v := 0) dX12_turnAt_0 rfl, w_istore_n (M := mX12_turnAt) (i := 3) dX12_turnAt_1 rfl (by decide), Kn_v_, Kn_n_, kl_i_, kl_a_, kl_l_, kl_n_, s1_0_, s2_0_, s1_1, s1_2, s1_3, s1_4, s1_5, s1_6, s1_7, s1_8, s1_9, s1_10, s1_11, s1_12, s1_13, s1_14, s2_1, s2_2, s2_3, s2_4, s2_5, s2_6, s2_7, s2_8, s2_9, s2_10, s2_11, s2_12, s2_13, s2_14, List.map_nil, List.map_cons, List.sum_nil, List.sum_cons, ct_i_, ct_r_, ct_l_, t_si_, t_sl_, t_sr_, n_si_, n_sl_, n_sr_, i_si_, i_sl_, i_sr_, l_si_, l_sl_, l_sr_, r_si_, r_sl_, r_sr_, vr_s_, vr_n_, nz_0_, nz_1_]
  rw [e0]
  exact Eq.to_iff key
set_option maxRecDepth 20000 in
set_option maxHeartbeats 2000000 in
theorem c_brokenInto (B : bG h g T) (G : tG g T) (hi : i < T) {one other : Nat} (h1 : one < 4) (h2 : other < 4) : Cal (d + 3) mX2_turnBrokenInto [.ref 16, .int (nI i), .int (nI one), .int (nI other), .ref 7] h Q = Q (some (.int (if spB g one i = true ∧ ¬ g 91 < bA g (nI other) i then fv (PT g other (bA g (nI other) i)) nI T 0 else -1))) h := by
  have hC := B.1
  have t90 := G.1
  have b1 := B.2.1
  have b2 := B.2.2.1
  have b4 := B.2.2.2.2
  have ba := fun d Q => bA_c (d := d) (Q := Q) B G hi (v := nI other) (Or.inr ⟨other, h2, rfl⟩)
  have sp := fun d Q => c_sp (d := d) (Q := Q) B (by omega) hi h1
  generalize bA g (nI other) i = u at ba ⊢
  have key := lpf (W := fun j => WP (d + 3) mX2_turnBrokenInto 34 [some (.ref 16), some (.int (nI i)), some (.int (nI one)), some (.int (nI other)), some (.ref 7), some (.int u), some (.int (nI j))] [] h Q) (P := PT g other u) (v := nI) (R := fun z => Q (some (.int z)) h) (n := T) (fun j hj => by
    have lt : (nI j < nI T) = True := nI_ltT hj (by omega)
    have sj := fun d Q => c_sp (d := d) (Q := Q) B (show j < 90 by omega) hj h2
    obtain ⟨r1, r2, r3, r4, r5⟩ := b4 j hj
    rw [w_iload6 (M := mX2_turnBrokenInto) dX2_turnBrokenInto_34]
    unfold PT
    by_cases c1 : spB g other j = true
    · by_cases c2 : u < g (166 + 5 * j + 1) <;> by_cases c3 : g (166 + 5 * j + 3) = -1 <;> by_cases c4 : u < g (166 + 5 * j + 3) <;> simp [w_aload4 (M := mX2_turnBrokenInto) dX2_turnBrokenInto_36, w_getI (M := mX2_turnBrokenInto) dX2_turnBrokenInto_38 f_2_36 rfl (by decide) (by decide), w_ic_ge (M := mX2_turnBrokenInto) (tgt := 98) dX2_turnBrokenInto_41 (by decide), w_aload_n0 (M := mX2_turnBrokenInto) dX2_turnBrokenInto_44, w_iload6 (M := mX2_turnBrokenInto) dX2_turnBrokenInto_45, w_iload_n3 (M := mX2_turnBrokenInto) dX2_turnBrokenInto_47, c_2_60 (M := mX2_turnBrokenInto) dX2_turnBrokenInto_48 rfl, w_if_eq (M := mX2_turnBrokenInto) (tgt := 92) dX2_turnBrokenInto_51 (by decide), w_aload_n0 (M := mX2_turnBrokenInto) dX2_turnBrokenInto_54, w_getA (M := mX2_turnBrokenInto) dX2_turnBrokenInto_55 f_2_15 rfl (by decide) (by decide), w_iload6 (M := mX2_turnBrokenInto) dX2_turnBrokenInto_58, w_iaload (M := mX2_turnBrokenInto) dX2_turnBrokenInto_60, w_iload5 (M := mX2_turnBrokenInto) dX2_turnBrokenInto_61, w_ic_gt (M := mX2_turnBrokenInto) (tgt := 92) dX2_turnBrokenInto_63 (by decide), w_aload_n0 (M := mX2_turnBrokenInto) dX2_turnBrokenInto_66, w_getA (M := mX2_turnBrokenInto) dX2_turnBrokenInto_67 f_2_21 rfl (by decide) (by decide), w_iload6 (M := mX2_turnBrokenInto) dX2_turnBrokenInto_70, w_iaload (M := mX2_turnBrokenInto) dX2_turnBrokenInto_72, w_iconst (M := mX2_turnBrokenInto) (v := (-1)) dX2_turnBrokenInto_73 rfl, w_ic_eq (M := mX2_turnBrokenInto) (tgt := 89) dX2_turnBrokenInto_74 (by decide), w_aload_n0 (M := mX2_turnBrokenInto) dX2_turnBrokenInto_77, w_getA (M := mX2_turnBrokenInto) dX2_turnBrokenInto_78 f_2_21 rfl (by decide) (by decide), w_iload6 (M := mX2_turnBrokenInto) dX2_turnBrokenInto_81, w_iaload (M := mX2_turnBrokenInto) dX2_turnBrokenInto_83, w_iload5 (M := mX2_turnBrokenInto) dX2_turnBrokenInto_84, w_ic_le (M := mX2_turnBrokenInto) (tgt := 92) dX2_turnBrokenInto_86 (by decide), w_iload6 (M := mX2_turnBrokenInto) dX2_turnBrokenInto_89, w_iret (M := mX2_turnBrokenInto) dX2_turnBrokenInto_91 rfl, w_iinc6 (M := mX2_turnBrokenInto) (v := 1) dX2_turnBrokenInto_92 rfl (by decide), w_goto (M := mX2_turnBrokenInto) (tgt := 34) dX2_turnBrokenInto_95 (by decide), Kn_v_, Kn_n_, kl_i_, kl_a_, kl_l_, kl_n_, s1_0_, s2_0_, s1_1, s1_2, s1_3, s1_4, s1_5, s1_6, s1_7, s1_8, s1_9, s1_10, s1_11, s1_12, s1_13, s1_14, s2_1, s2_2, s2_3, s2_4, s2_5, s2_6, s2_7, s2_8, s2_9, s2_10, s2_11, s2_12, s2_13, s2_14, List.map_nil, List.map_cons, List.sum_nil, List.sum_cons, ct_i_, ct_r_, ct_l_, t_si_, t_sl_, t_sr_, n_si_, n_sl_, n_sr_, i_si_, i_sl_, i_sr_, l_si_, l_sl_, l_sr_, r_si_, r_sl_, r_sr_, vr_s_, vr_n_, nz_0_, nz_1_, hC.e, b1, lt, sj, c1, in1_n (k := j) (n := 90) (by omega), show j < 90 by omega, nI_c (a := j) (by omega), r2, r4, c2, c3, c4, nI_s]
    · simp [w_aload4 (M := mX2_turnBrokenInto) dX2_turnBrokenInto_36, w_getI (M := mX2_turnBrokenInto) dX2_turnBrokenInto_38 f_2_36 rfl (by decide) (by decide), w_ic_ge (M := mX2_turnBrokenInto) (tgt := 98) dX2_turnBrokenInto_41 (by decide), w_aload_n0 (M := mX2_turnBrokenInto) dX2_turnBrokenInto_44, w_iload6 (M := mX2_turnBrokenInto) dX2_turnBrokenInto_45, w_iload_n3 (M := mX2_turnBrokenInto) dX2_turnBrokenInto_47, c_2_60 (M := mX2_turnBrokenInto) dX2_turnBrokenInto_48 rfl, w_if_eq (M := mX2_turnBrokenInto) (tgt := 92) dX2_turnBrokenInto_51 (by decide), w_aload_n0 (M := mX2_turnBrokenInto) dX2_turnBrokenInto_54, w_getA (M := mX2_turnBrokenInto) dX2_turnBrokenInto_55 f_2_15 rfl (by decide) (by decide), w_iload6 (M := mX2_turnBrokenInto) dX2_turnBrokenInto_58, w_iaload (M := mX2_turnBrokenInto) dX2_turnBrokenInto_60, w_iload5 (M := mX2_turnBrokenInto) dX2_turnBrokenInto_61, w_ic_gt (M := mX2_turnBrokenInto) (tgt := 92) dX2_turnBrokenInto_63 (by decide), w_aload_n0 (M := mX2_turnBrokenInto) dX2_turnBrokenInto_66, w_getA (M := mX2_turnBrokenInto) dX2_turnBrokenInto_67 f_2_21 rfl (by decide) (by decide), w_iload6 (M := mX2_turnBrokenInto) dX2_turnBrokenInto_70, w_iaload (M := mX2_turnBrokenInto) dX2_turnBrokenInto_72, w_iconst (M := mX2_turnBrokenInto) (v := (-1)) dX2_turnBrokenInto_73 rfl, w_ic_eq (M := mX2_turnBrokenInto) (tgt := 89) dX2_turnBrokenInto_74 (by decide), w_aload_n0 (M := mX2_turnBrokenInto) dX2_turnBrokenInto_77, w_getA (M := mX2_turnBrokenInto) dX2_turnBrokenInto_78 f_2_21 rfl (by decide) (by decide), w_iload6 (M := mX2_turnBrokenInto) dX2_turnBrokenInto_81, w_iaload (M := mX2_turnBrokenInto) dX2_turnBrokenInto_83, w_iload5 (M := mX2_turnBrokenInto) dX2_turnBrokenInto_84, w_ic_le (M := mX2_turnBrokenInto) (tgt := 92) dX2_turnBrokenInto_86 (by decide), w_iload6 (M := mX2_turnBrokenInto) dX2_turnBrokenInto_89, w_iret (M := mX2_turnBrokenInto) dX2_turnBrokenInto_91 rfl, w_iinc6 (M := mX2_turnBrokenInto) (v := 1) dX2_turnBrokenInto_92 rfl (by decide), w_goto (M := mX2_turnBrokenInto) (tgt := 34) dX2_turnBrokenInto_95 (by decide), Kn_v_, Kn_n_, kl_i_, kl_a_, kl_l_, kl_n_, s1_0_, s2_0_, s1_1, s1_2, s1_3, s1_4, s1_5, s1_6, s1_7, s1_8, s1_9, s1_10, s1_11, s1_12, s1_13, s1_14, s2_1, s2_2, s2_3, s2_4, s2_5, s2_6, s2_7, s2_8, s2_9, s2_10, s2_11, s2_12, s2_13, s2_14, List.map_nil, List.map_cons, List.sum_nil, List.sum_cons, ct_i_, ct_r_, ct_l_, t_si_, t_sl_, t_sr_, n_si_, n_sl_, n_sr_, i_si_, i_sl_, i_sr_, l_si_, l_sl_, l_sr_, r_si_, r_sl_, r_sr_, vr_s_, vr_n_, nz_0_, nz_1_, hC.e, b1, lt, sj, c1, nI_s]) (by
    rw [w_iload6 (M := mX2_turnBrokenInto) dX2_turnBrokenInto_34]
    simp [w_aload4 (M := mX2_turnBrokenInto) dX2_turnBrokenInto_36, w_getI (M := mX2_turnBrokenInto) dX2_turnBrokenInto_38 f_2_36 rfl (by decide) (by decide), w_ic_ge (M := mX2_turnBrokenInto) (tgt := 98) dX2_turnBrokenInto_41 (by decide), w_iconst (M := mX2_turnBrokenInto) (v := (-1)) dX2_turnBrokenInto_98 rfl, w_iret (M := mX2_turnBrokenInto) dX2_turnBrokenInto_99 rfl, Kn_v_, Kn_n_, kl_i_, kl_a_, kl_l_, kl_n_, s1_0_, s2_0_, s1_1, s1_2, s1_3, s1_4, s1_5, s1_6, s1_7, s1_8, s1_9, s1_10, s1_11, s1_12, s1_13, s1_14, s2_1, s2_2, s2_3, s2_4, s2_5, s2_6, s2_7, s2_8, s2_9, s2_10, s2_11, s2_12, s2_13, s2_14, List.map_nil, List.map_cons, List.sum_nil, List.sum_cons, ct_i_, ct_r_, ct_l_, t_si_, t_sl_, t_sr_, n_si_, n_sl_, n_sr_, i_si_, i_sl_, i_sr_, l_si_, l_sl_, l_sr_, r_si_, r_sl_, r_sr_, vr_s_, vr_n_, nz_0_, nz_1_, hC.e, b1, show (nI T < nI T) = False from nI_ltF (Nat.le_refl _) (by omega)]) T 0 (by omega)
  have e0 : (0 : Int32) = nI 0 := rfl
  unfold Cal
  rw [l_X2_turnBrokenInto]
  simp only [am_en, am_ag, ct_i, ct_r, ct_l, List.length_cons, List.length_nil, List.replicate]
  by_cases c1 : spB g one i = true
  · by_cases c2 : g 91 < u
    · simp [w_aload_n0 (M := mX2_turnBrokenInto) dX2_turnBrokenInto_0, w_iload_n1 (M := mX2_turnBrokenInto) dX2_turnBrokenInto_1, w_iload_n3 (M := mX2_turnBrokenInto) dX2_turnBrokenInto_2, w_aload4 (M := mX2_turnBrokenInto) dX2_turnBrokenInto_3, c_2_75 (M := mX2_turnBrokenInto) dX2_turnBrokenInto_5 rfl, w_istore (M := mX2_turnBrokenInto) dX2_turnBrokenInto_8 (by decide), w_aload_n0 (M := mX2_turnBrokenInto) dX2_turnBrokenInto_10, w_iload_n1 (M := mX2_turnBrokenInto) dX2_turnBrokenInto_11, w_iload_n2 (M := mX2_turnBrokenInto) dX2_turnBrokenInto_12, c_2_60 (M := mX2_turnBrokenInto) dX2_turnBrokenInto_13 rfl, w_if_eq (M := mX2_turnBrokenInto) (tgt := 29) dX2_turnBrokenInto_16 (by decide), w_iload5 (M := mX2_turnBrokenInto) dX2_turnBrokenInto_19, w_aload4 (M := mX2_turnBrokenInto) dX2_turnBrokenInto_21, w_getI (M := mX2_turnBrokenInto) dX2_turnBrokenInto_23 f_2_53 rfl (by decide) (by decide), w_ic_le (M := mX2_turnBrokenInto) (tgt := 31) dX2_turnBrokenInto_26 (by decide), w_iconst (M := mX2_turnBrokenInto) (v := (-1)) dX2_turnBrokenInto_29 rfl, w_iret (M := mX2_turnBrokenInto) dX2_turnBrokenInto_30 rfl, w_iconst (M := mX2_turnBrokenInto) (v := 0) dX2_turnBrokenInto_31 rfl, w_istore (M := mX2_turnBrokenInto) dX2_turnBrokenInto_32 (by decide), Kn_v_, Kn_n_, kl_i_, kl_a_, kl_l_, kl_n_, s1_0_, s2_0_, s1_1, s1_2, s1_3, s1_4, s1_5, s1_6, s1_7, s1_8, s1_9, s1_10, s1_11, s1_12, s1_13, s1_14, s2_1, s2_2, s2_3, s2_4, s2_5, s2_6, s2_7, s2_8, s2_9, s2_10, s2_11, s2_12, s2_13, s2_14, List.map_nil, List.map_cons, List.sum_nil, List.sum_cons, ct_i_, ct_r_, ct_l_, t_si_, t_sl_, t_sr_, n_si_, n_sl_, n_sr_, i_si_, i_sl_, i_sr_, l_si_, l_sl_, l_sr_, r_si_, r_sl_, r_sr_, vr_s_, vr_n_, nz_0_, nz_1_, hC.e, ba, sp, c1, b2, c2]
    · simp [w_aload_n0 (M := mX2_turnBrokenInto) dX2_turnBrokenInto_0, w_iload_n1 (M := mX2_turnBrokenInto) dX2_turnBrokenInto_1, w_iload_n3 (M := mX2_turnBrokenInto) dX2_turnBrokenInto_2, w_aload4 (M := mX2_turnBrokenInto) dX2_turnBrokenInto_3, c_2_75 (M := mX2_turnBrokenInto) dX2_turnBrokenInto_5 rfl, w_istore (M := mX2_turnBrokenInto) dX2_turnBrokenInto_8 (by decide), w_aload_n0 (M := mX2_turnBrokenInto) dX2_turnBrokenInto_10, w_iload_n1 (M := mX2_turnBrokenInto) dX2_turnBrokenInto_11, w_iload_n2 (M := mX2_turnBrokenInto) dX2_turnBrokenInto_12, c_2_60 (M := mX2_turnBrokenInto) dX2_turnBrokenInto_13 rfl, w_if_eq (M := mX2_turnBrokenInto) (tgt := 29) dX2_turnBrokenInto_16 (by decide), w_iload5 (M := mX2_turnBrokenInto) dX2_turnBrokenInto_19, w_aload4 (M := mX2_turnBrokenInto) dX2_turnBrokenInto_21, w_getI (M := mX2_turnBrokenInto) dX2_turnBrokenInto_23 f_2_53 rfl (by decide) (by decide), w_ic_le (M := mX2_turnBrokenInto) (tgt := 31) dX2_turnBrokenInto_26 (by decide), w_iconst (M := mX2_turnBrokenInto) (v := (-1)) dX2_turnBrokenInto_29 rfl, w_iret (M := mX2_turnBrokenInto) dX2_turnBrokenInto_30 rfl, w_iconst (M := mX2_turnBrokenInto) (v := 0) dX2_turnBrokenInto_31 rfl, w_istore (M := mX2_turnBrokenInto) dX2_turnBrokenInto_32 (by decide), Kn_v_, Kn_n_, kl_i_, kl_a_, kl_l_, kl_n_, s1_0_, s2_0_, s1_1, s1_2, s1_3, s1_4, s1_5, s1_6, s1_7, s1_8, s1_9, s1_10, s1_11, s1_12, s1_13, s1_14, s2_1, s2_2, s2_3, s2_4, s2_5, s2_6, s2_7, s2_8, s2_9, s2_10, s2_11, s2_12, s2_13, s2_14, List.map_nil, List.map_cons, List.sum_nil, List.sum_cons, ct_i_, ct_r_, ct_l_, t_si_, t_sl_, t_sr_, n_si_, n_sl_, n_sr_, i_si_, i_sl_, i_sr_, l_si_, l_sl_, l_sr_, r_si_, r_sl_, r_sr_, vr_s_, vr_n_, nz_0_, nz_1_, hC.e, ba, sp, c1, b2, c2]
      rw [e0]
      exact Eq.to_iff key
  · simp [w_aload_n0 (M := mX2_turnBrokenInto) dX2_turnBrokenInto_0, w_iload_n1 (M := mX2_turnBrokenInto) dX2_turnBrokenInto_1, w_iload_n3 (M := mX2_turnBrokenInto) dX2_turnBrokenInto_2, w_aload4 (M := mX2_turnBrokenInto) dX2_turnBrokenInto_3, c_2_75 (M := mX2_turnBrokenInto) dX2_turnBrokenInto_5 rfl, w_istore (M := mX2_turnBrokenInto) dX2_turnBrokenInto_8 (by decide), w_aload_n0 (M := mX2_turnBrokenInto) dX2_turnBrokenInto_10, w_iload_n1 (M := mX2_turnBrokenInto) dX2_turnBrokenInto_11, w_iload_n2 (M := mX2_turnBrokenInto) dX2_turnBrokenInto_12, c_2_60 (M := mX2_turnBrokenInto) dX2_turnBrokenInto_13 rfl, w_if_eq (M := mX2_turnBrokenInto) (tgt := 29) dX2_turnBrokenInto_16 (by decide), w_iload5 (M := mX2_turnBrokenInto) dX2_turnBrokenInto_19, w_aload4 (M := mX2_turnBrokenInto) dX2_turnBrokenInto_21, w_getI (M := mX2_turnBrokenInto) dX2_turnBrokenInto_23 f_2_53 rfl (by decide) (by decide), w_ic_le (M := mX2_turnBrokenInto) (tgt := 31) dX2_turnBrokenInto_26 (by decide), w_iconst (M := mX2_turnBrokenInto) (v := (-1)) dX2_turnBrokenInto_29 rfl, w_iret (M := mX2_turnBrokenInto) dX2_turnBrokenInto_30 rfl, w_iconst (M := mX2_turnBrokenInto) (v := 0) dX2_turnBrokenInto_31 rfl, w_istore (M := mX2_turnBrokenInto) dX2_turnBrokenInto_32 (by decide), Kn_v_, Kn_n_, kl_i_, kl_a_, kl_l_, kl_n_, s1_0_, s2_0_, s1_1, s1_2, s1_3, s1_4, s1_5, s1_6, s1_7, s1_8, s1_9, s1_10, s1_11, s1_12, s1_13, s1_14, s2_1, s2_2, s2_3, s2_4, s2_5, s2_6, s2_7, s2_8, s2_9, s2_10, s2_11, s2_12, s2_13, s2_14, List.map_nil, List.map_cons, List.sum_nil, List.sum_cons, ct_i_, ct_r_, ct_l_, t_si_, t_sl_, t_sr_, n_si_, n_sl_, n_sr_, i_si_, i_sl_, i_sr_, l_si_, l_sl_, l_sr_, r_si_, r_sl_, r_sr_, vr_s_, vr_n_, nz_0_, nz_1_, hC.e, ba, sp, c1]
end SEEM
