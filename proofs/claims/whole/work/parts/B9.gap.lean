/-! gaps: both sides -/
section GAP
variable {X : PX} {d T i j : Nat} {h : am_h} {g : Nat → Int32} {v a b : Int32} {Q : Option Value → am_h → Prop}
/-- how far the turns' numbers go -/
def bB (g : Nat → Int32) (T : Nat) : Prop := bt 0 (g 91) 9000 ∧ (∀ k, k < 16 → bt 0 (g (117 + k)) 60) ∧ ∀ i, i < T → bt 0 (g (166 + 5 * i + 1)) 9001 ∧ (g (166 + 5 * i + 3) = -1 ∨ bt 0 (g (166 + 5 * i + 3)) 9001) ∧ (g (166 + 5 * i + 4) = 1 → (g (166 + 5 * i + 1)).toInt < (g (166 + 5 * i + 3)).toInt)
theorem Inv.bB (k : Inv X h) (hT : Nn (a_i h 127 165) = T) : bB (a_i h 127) T := by
  obtain ⟨n, n1, n2, n3⟩ := k.T
  have w0 := k.2.1.2.2.2.2.1
  have w := wS_Z w0 rfl
  have w91 : bt 0 (a_i h 127 91) 9000 := w0.2.1
  refine ⟨w91, fun q hq => ?_, fun i hi => ?_⟩
  · have := w0.2.2.2.2.2.1 q hq
    rw [dec_c7 hq] at this
    exact this
  · obtain ⟨a1, a2, a3, a4⟩ := w.1 i (by rw [dec_3]; show i < Nn (a_i h 127 165); omega)
    have d01 : dec (a_i h 127) 90 0 1 = a_i h 127 91 := rfl
    rw [dec_c11 (by omega)] at a2
    rw [dec_c11 (by omega), dec_c13 (by omega), dec_c14 (by omega)] at a4
    rw [d01] at a2 a4
    have a2' : bt 0 (a_i h 127 (166 + 5 * i + 1)) ((a_i h 127 91).toInt + 1) := a2
    refine ⟨?_, ?_, fun c => ?_⟩
    · unfold bt at a2' w91 ⊢; omega
    · rcases a4 with a4 | a4
      · exact Or.inl a4.1
      · refine Or.inr ?_
        have a5 : bt (a_i h 127 (166 + 5 * i + 1)).toInt (a_i h 127 (166 + 5 * i + 3)) ((a_i h 127 91).toInt + 1) := a4.1
        unfold bt at a2' a5 w91 ⊢; omega
    · rcases a4 with a4 | ⟨a4, a5 | a5 | a5⟩
      · have := a4.2.1
        rw [c] at this
        exact absurd this (by decide)
      · rw [c] at a5
        exact absurd a5 (by decide)
      · rw [c] at a5
        exact absurd a5 (by decide)
      · exact a5.2
/-- how much later an end hears another -/
def dS (g : Nat → Int32) (o : Nat) (w : Int32) : Int := if nI o = w then 0 else 1 + (g (117 + 4 * Nn w + o)).toInt
theorem dS_b (B : bB g T) {o w : Nat} (ho : o < 4) (hw : w < 4) : 0 ≤ dS g o (nI w) ∧ dS g o (nI w) ≤ 61 := by
  unfold dS
  by_cases c : nI o = nI w
  · rw [if_pos c]; omega
  · rw [if_neg c, Nn_n (by omega)]
    have := B.2.1 (4 * w + o) (by omega)
    rw [← Nat.add_assoc] at this
    unfold bt at this
    omega
theorem bA_i (B : bB g T) (G : tG g T) (hi : i < T) {o : Nat} (ho : o < 4) : (bA g (nI o) i).toInt = (g (166 + 5 * i + 1)).toInt + dS g o (g (166 + 5 * i)) := by
  obtain ⟨w, w1, w2, w3, w4⟩ := G.2 i hi
  have b1 := (B.2.2 i hi).1
  unfold bA dS
  simp only [w2, Nn_n (show w < 2000000000 by omega), Nn_n (show o < 2000000000 by omega)]
  have n1 : ¬ nI o = -1 := by rw [nI_n1 (by omega)]; exact id
  by_cases c : nI o = nI w
  · rw [if_pos (Or.inr c), if_pos c]; omega
  · rw [if_neg (fun z => z.elim n1 c), if_neg c]
    have := B.2.1 (4 * w + o) (by omega)
    rw [← Nat.add_assoc] at this
    unfold bt at this b1
    rw [Int32.toInt_add, Int32.toInt_add, show (1 : Int32).toInt = 1 from rfl, Int.bmod_eq_of_le (n := 1 + _) (by omega) (by omega), Int.bmod_eq_of_le (by omega) (by omega)]
theorem bA_b (B : bB g T) (G : tG g T) (hi : i < T) {o : Nat} (ho : o < 4) : bt 0 (bA g (nI o) i) 9062 := by
  have e := bA_i B G hi ho
  obtain ⟨w, w1, w2, w3, w4⟩ := G.2 i hi
  have b1 := (B.2.2 i hi).1
  have b2 := dS_b B ho w1
  rw [w2] at e
  unfold bt at b1 ⊢
  omega
theorem bt_n1 {hi : Int} (k : bt 0 v hi) : ¬ v = -1 := by
  intro z
  rw [z] at k
  have := k.1
  have : (-1 : Int32).toInt = -1 := rfl
  omega
/-- heard to begin, no sooner than an end's end -/
def GC (g : Nat → Int32) (one other : Nat) (u : Int32) (j : Nat) : Bool := spB g one j && decide (¬ bA g (nI other) j < u ∧ ¬ g 91 < bA g (nI other) j)
/-- began between -/
def BW (g : Nat → Int32) (w : Nat) (a b : Int32) (j : Nat) : Bool := spB g w j && decide (¬ g (166 + 5 * j + 1) < a ∧ ¬ b < g (166 + 5 * j + 1))
set_option maxRecDepth 20000 in
set_option maxHeartbeats 2000000 in
theorem c_beganWithin (B : bG h g T) (G : tG g T) {w : Nat} (hw : w < 4) : Cal (d + 2) mX2_beganWithin [.ref 16, .int (nI w), .int a, .int b, .ref 7] h Q = Q (some (.int (bI (an (BW g w a b) T 0)))) h := by
  have hC := B.1
  have t90 := G.1
  have b1 := B.2.1
  have b4 := B.2.2.2.2
  have key := lpa (W := fun j => WP (d + 2) mX2_beganWithin 3 [some (.ref 16), some (.int (nI w)), some (.int a), some (.int b), some (.ref 7), some (.int (nI j))] [] h Q) (P := BW g w a b) (R := fun z => Q (some (.int (bI z))) h) (n := T) (fun j hj => by
    have lt : (nI j < nI T) = True := nI_ltT hj (by omega)
    have sj := fun d Q => c_sp (d := d) (Q := Q) B (show j < 90 by omega) hj hw
    obtain ⟨r1, r2, r3, r4, r5⟩ := b4 j hj
    rw [w_iload5 (M := mX2_beganWithin) dX2_beganWithin_3]
    unfold BW
    by_cases c1 : spB g w j = true
    · by_cases c2 : g (166 + 5 * j + 1) < a <;> by_cases c3 : b < g (166 + 5 * j + 1) <;> simp [w_aload4 (M := mX2_beganWithin) dX2_beganWithin_5, w_getI (M := mX2_beganWithin) dX2_beganWithin_7 f_2_36 rfl (by decide) (by decide), w_ic_ge (M := mX2_beganWithin) (tgt := 53) dX2_beganWithin_10 (by decide), w_aload_n0 (M := mX2_beganWithin) dX2_beganWithin_13, w_iload5 (M := mX2_beganWithin) dX2_beganWithin_14, w_iload_n1 (M := mX2_beganWithin) dX2_beganWithin_16, c_2_60 (M := mX2_beganWithin) dX2_beganWithin_17 rfl, w_if_eq (M := mX2_beganWithin) (tgt := 47) dX2_beganWithin_20 (by decide), w_aload_n0 (M := mX2_beganWithin) dX2_beganWithin_23, w_getA (M := mX2_beganWithin) dX2_beganWithin_24 f_2_15 rfl (by decide) (by decide), w_iload5 (M := mX2_beganWithin) dX2_beganWithin_27, w_iaload (M := mX2_beganWithin) dX2_beganWithin_29, w_iload_n2 (M := mX2_beganWithin) dX2_beganWithin_30, w_ic_lt (M := mX2_beganWithin) (tgt := 47) dX2_beganWithin_31 (by decide), w_aload_n0 (M := mX2_beganWithin) dX2_beganWithin_34, w_getA (M := mX2_beganWithin) dX2_beganWithin_35 f_2_15 rfl (by decide) (by decide), w_iload5 (M := mX2_beganWithin) dX2_beganWithin_38, w_iaload (M := mX2_beganWithin) dX2_beganWithin_40, w_iload_n3 (M := mX2_beganWithin) dX2_beganWithin_41, w_ic_gt (M := mX2_beganWithin) (tgt := 47) dX2_beganWithin_42 (by decide), w_iconst (M := mX2_beganWithin) (v := 1) dX2_beganWithin_45 rfl, w_ireturn (M := mX2_beganWithin) dX2_beganWithin_46 rfl, w_iinc5 (M := mX2_beganWithin) (v := 1) dX2_beganWithin_47 rfl (by decide), w_goto (M := mX2_beganWithin) (tgt := 3) dX2_beganWithin_50 (by decide), Kn_v_, Kn_n_, kl_i_, kl_a_, kl_l_, kl_n_, s1_0_, s2_0_, s1_1, s1_2, s1_3, s1_4, s1_5, s1_6, s1_7, s1_8, s1_9, s1_10, s1_11, s1_12, s1_13, s1_14, s2_1, s2_2, s2_3, s2_4, s2_5, s2_6, s2_7, s2_8, s2_9, s2_10, s2_11, s2_12, s2_13, s2_14, List.map_nil, List.map_cons, List.sum_nil, List.sum_cons, ct_i_, ct_r_, ct_l_, t_si_, t_sl_, t_sr_, n_si_, n_sl_, n_sr_, i_si_, i_sl_, i_sr_, l_si_, l_sl_, l_sr_, r_si_, r_sl_, r_sr_, vr_s_, vr_n_, nz_0_, nz_1_, hC.e, b1, lt, sj, c1, in1_n (k := j) (n := 90) (by omega), show j < 90 by omega, nI_c (a := j) (by omega), r2, c2, c3, nI_s, bI]
    · simp [w_aload4 (M := mX2_beganWithin) dX2_beganWithin_5, w_getI (M := mX2_beganWithin) dX2_beganWithin_7 f_2_36 rfl (by decide) (by decide), w_ic_ge (M := mX2_beganWithin) (tgt := 53) dX2_beganWithin_10 (by decide), w_aload_n0 (M := mX2_beganWithin) dX2_beganWithin_13, w_iload5 (M := mX2_beganWithin) dX2_beganWithin_14, w_iload_n1 (M := mX2_beganWithin) dX2_beganWithin_16, c_2_60 (M := mX2_beganWithin) dX2_beganWithin_17 rfl, w_if_eq (M := mX2_beganWithin) (tgt := 47) dX2_beganWithin_20 (by decide), w_aload_n0 (M := mX2_beganWithin) dX2_beganWithin_23, w_getA (M := mX2_beganWithin) dX2_beganWithin_24 f_2_15 rfl (by decide) (by decide), w_iload5 (M := mX2_beganWithin) dX2_beganWithin_27, w_iaload (M := mX2_beganWithin) dX2_beganWithin_29, w_iload_n2 (M := mX2_beganWithin) dX2_beganWithin_30, w_ic_lt (M := mX2_beganWithin) (tgt := 47) dX2_beganWithin_31 (by decide), w_aload_n0 (M := mX2_beganWithin) dX2_beganWithin_34, w_getA (M := mX2_beganWithin) dX2_beganWithin_35 f_2_15 rfl (by decide) (by decide), w_iload5 (M := mX2_beganWithin) dX2_beganWithin_38, w_iaload (M := mX2_beganWithin) dX2_beganWithin_40, w_iload_n3 (M := mX2_beganWithin) dX2_beganWithin_41, w_ic_gt (M := mX2_beganWithin) (tgt := 47) dX2_beganWithin_42 (by decide), w_iconst (M := mX2_beganWithin) (v := 1) dX2_beganWithin_45 rfl, w_ireturn (M := mX2_beganWithin) dX2_beganWithin_46 rfl, w_iinc5 (M := mX2_beganWithin) (v := 1) dX2_beganWithin_47 rfl (by decide), w_goto (M := mX2_beganWithin) (tgt := 3) dX2_beganWithin_50 (by decide), Kn_v_, Kn_n_, kl_i_, kl_a_, kl_l_, kl_n_, s1_0_, s2_0_, s1_1, s1_2, s1_3, s1_4, s1_5, s1_6, s1_7, s1_8, s1_9, s1_10, s1_11, s1_12, s1_13, s1_14, s2_1, s2_2, s2_3, s2_4, s2_5, s2_6, s2_7, s2_8, s2_9, s2_10, s2_11, s2_12, s2_13, s2_14, List.map_nil, List.map_cons, List.sum_nil, List.sum_cons, ct_i_, ct_r_, ct_l_, t_si_, t_sl_, t_sr_, n_si_, n_sl_, n_sr_, i_si_, i_sl_, i_sr_, l_si_, l_sl_, l_sr_, r_si_, r_sl_, r_sr_, vr_s_, vr_n_, nz_0_, nz_1_, hC.e, b1, lt, sj, c1, nI_s]) (by
    rw [w_iload5 (M := mX2_beganWithin) dX2_beganWithin_3]
    simp [w_aload4 (M := mX2_beganWithin) dX2_beganWithin_5, w_getI (M := mX2_beganWithin) dX2_beganWithin_7 f_2_36 rfl (by decide) (by decide), w_ic_ge (M := mX2_beganWithin) (tgt := 53) dX2_beganWithin_10 (by decide), w_iconst (M := mX2_beganWithin) (v := 0) dX2_beganWithin_53 rfl, w_ireturn (M := mX2_beganWithin) dX2_beganWithin_54 rfl, Kn_v_, Kn_n_, kl_i_, kl_a_, kl_l_, kl_n_, s1_0_, s2_0_, s1_1, s1_2, s1_3, s1_4, s1_5, s1_6, s1_7, s1_8, s1_9, s1_10, s1_11, s1_12, s1_13, s1_14, s2_1, s2_2, s2_3, s2_4, s2_5, s2_6, s2_7, s2_8, s2_9, s2_10, s2_11, s2_12, s2_13, s2_14, List.map_nil, List.map_cons, List.sum_nil, List.sum_cons, ct_i_, ct_r_, ct_l_, t_si_, t_sl_, t_sr_, n_si_, n_sl_, n_sr_, i_si_, i_sl_, i_sr_, l_si_, l_sl_, l_sr_, r_si_, r_sl_, r_sr_, vr_s_, vr_n_, nz_0_, nz_1_, hC.e, b1, show (nI T < nI T) = False from nI_ltF (Nat.le_refl _) (by omega), bI]) T 0 (by omega)
  have e0 : (0 : Int32) = nI 0 := rfl
  unfold Cal
  rw [l_X2_beganWithin]
  simp only [am_en, am_ag, ct_i, ct_r, ct_l, List.length_cons, List.length_nil, List.replicate]
  simp [w_iconst (M := mX2_beganWithin) (v := 0) dX2_beganWithin_0 rfl, w_istore (M := mX2_beganWithin) dX2_beganWithin_1 (by decide), Kn_v_, Kn_n_, kl_i_, kl_a_, kl_l_, kl_n_, s1_0_, s2_0_, s1_1, s1_2, s1_3, s1_4, s1_5, s1_6, s1_7, s1_8, s1_9, s1_10, s1_11, s1_12, s1_13, s1_14, s2_1, s2_2, s2_3, s2_4, s2_5, s2_6, s2_7, s2_8, s2_9, s2_10, s2_11, s2_12, s2_13, s2_14, List.map_nil, List.map_cons, List.sum_nil, List.sum_cons, ct_i_, ct_r_, ct_l_, t_si_, t_sl_, t_sr_, n_si_, n_sl_, n_sr_, i_si_, i_sl_, i_sr_, l_si_, l_sl_, l_sr_, r_si_, r_sl_, r_sr_, vr_s_, vr_n_, nz_0_, nz_1_]
  rw [e0]
  exact Eq.to_iff key
/-- when a gap was heard to end: none -/
def gH (g : Nat → Int32) (T one other : Nat) (u : Int32) : Int32 := fv (GC g one other u) (bA g (nI other)) T 0
/-- how long a gap behind a turn is: none -/
def gV (g : Nat → Int32) (T one other i : Nat) : Int32 := if g (166 + 5 * i) = nI other ∧ g (166 + 5 * i + 4) = 1 then (if gH g T one other (g (166 + 5 * i + 3)) = -1 ∨ an (BW g other (g (166 + 5 * i + 3)) (gH g T one other (g (166 + 5 * i + 3)))) T 0 = true then -1 else gH g T one other (g (166 + 5 * i + 3)) - g (166 + 5 * i + 3)) else -1
set_option maxRecDepth 20000 in
set_option maxHeartbeats 2000000 in
theorem c_gap (B : bG h g T) (G : tG g T) (hi : i < T) {one other : Nat} (h1 : one < 4) (h2 : other < 4) : Cal (d + 3) mX2_gapBehind [.ref 16, .int (nI i), .int (nI one), .int (nI other), .ref 7] h Q = Q (some (.int (gV g T one other i))) h := by
  have hC := B.1
  have t90 := G.1
  have b1 := B.2.1
  have b2 := B.2.2.1
  have b4 := B.2.2.2.2
  obtain ⟨r1, r2, r3, r4, r5⟩ := b4 i hi
  have wi := fun d Q a b => c_beganWithin (d := d) (Q := Q) (a := a) (b := b) B G h2
  generalize hu : g (166 + 5 * i + 3) = u at r4
  have key := lp (W := fun k (s : Int32 × Option Value) Q => WP (d + 3) mX2_gapBehind 34 [some (.ref 16), some (.int (nI i)), some (.int (nI one)), some (.int (nI other)), some (.ref 7), some (.int s.1), some (.int (nI (T - k) - 1)), s.2] [] h Q) (P := fun k s => s.1 = fv (GC g one other u) (bA g (nI other)) k (T - k)) (n := T) (fun k s hk hs => by
    obtain ⟨j, hj⟩ : ∃ j, T - k = j + 1 := ⟨T - k - 1, by omega⟩
    have hj2 : T - (k + 1) = j := by omega
    have jT : j < T := by omega
    have ba := fun d Q => bA_c (d := d) (Q := Q) B G jT (v := nI other) (Or.inr ⟨other, h2, rfl⟩)
    have sj := fun d Q => c_sp (d := d) (Q := Q) B (show j < 90 by omega) jT h1
    have e1 : nI (j + 1) - 1 = nI j := by
      rw [← nI_s]
      exact Int32.add_sub_cancel _ _
    have e2 : nI j + -1 = nI j - 1 := (Int32.sub_eq_add_neg _ _).symm
    have e3 : (nI j < 0) = False := eq_false (Int32.not_lt.mpr (nI_pos' (by omega)))
    obtain ⟨s1, s2⟩ := s
    refine ⟨(if GC g one other u j = true then bA g (nI other) j else s1, some (.int (bA g (nI other) j))), fun Q => ?_, ?_⟩
    · simp only [hj, hj2, e1]
      rw [w_iload6 (M := mX2_gapBehind) dX2_gapBehind_34]
      unfold GC
      by_cases c1 : spB g one j = true
      · by_cases c2 : bA g (nI other) j < u <;> by_cases c3 : g 91 < bA g (nI other) j <;> simp [w_if_lt (M := mX2_gapBehind) (tgt := 91) dX2_gapBehind_36 (by decide), w_aload_n0 (M := mX2_gapBehind) dX2_gapBehind_39, w_iload6 (M := mX2_gapBehind) dX2_gapBehind_40, w_iload_n3 (M := mX2_gapBehind) dX2_gapBehind_42, w_aload4 (M := mX2_gapBehind) dX2_gapBehind_43, c_2_75 (M := mX2_gapBehind) dX2_gapBehind_45 rfl, w_istore (M := mX2_gapBehind) dX2_gapBehind_48 (by decide), w_aload_n0 (M := mX2_gapBehind) dX2_gapBehind_50, w_iload6 (M := mX2_gapBehind) dX2_gapBehind_51, w_iload_n2 (M := mX2_gapBehind) dX2_gapBehind_53, c_2_60 (M := mX2_gapBehind) dX2_gapBehind_54 rfl, w_if_eq (M := mX2_gapBehind) (tgt := 85) dX2_gapBehind_57 (by decide), w_iload7 (M := mX2_gapBehind) dX2_gapBehind_60, w_aload_n0 (M := mX2_gapBehind) dX2_gapBehind_62, w_getA (M := mX2_gapBehind) dX2_gapBehind_63 f_2_21 rfl (by decide) (by decide), w_iload_n1 (M := mX2_gapBehind) dX2_gapBehind_66, w_iaload (M := mX2_gapBehind) dX2_gapBehind_67, w_ic_lt (M := mX2_gapBehind) (tgt := 85) dX2_gapBehind_68 (by decide), w_iload7 (M := mX2_gapBehind) dX2_gapBehind_71, w_aload4 (M := mX2_gapBehind) dX2_gapBehind_73, w_getI (M := mX2_gapBehind) dX2_gapBehind_75 f_2_53 rfl (by decide) (by decide), w_ic_gt (M := mX2_gapBehind) (tgt := 85) dX2_gapBehind_78 (by decide), w_iload7 (M := mX2_gapBehind) dX2_gapBehind_81, w_istore (M := mX2_gapBehind) dX2_gapBehind_83 (by decide), w_iinc6 (M := mX2_gapBehind) (v := (-1)) dX2_gapBehind_85 rfl (by decide), w_goto (M := mX2_gapBehind) (tgt := 34) dX2_gapBehind_88 (by decide), Kn_v_, Kn_n_, kl_i_, kl_a_, kl_l_, kl_n_, s1_0_, s2_0_, s1_1, s1_2, s1_3, s1_4, s1_5, s1_6, s1_7, s1_8, s1_9, s1_10, s1_11, s1_12, s1_13, s1_14, s2_1, s2_2, s2_3, s2_4, s2_5, s2_6, s2_7, s2_8, s2_9, s2_10, s2_11, s2_12, s2_13, s2_14, List.map_nil, List.map_cons, List.sum_nil, List.sum_cons, ct_i_, ct_r_, ct_l_, t_si_, t_sl_, t_sr_, n_si_, n_sl_, n_sr_, i_si_, i_sl_, i_sr_, l_si_, l_sl_, l_sr_, r_si_, r_sl_, r_sr_, vr_s_, vr_n_, nz_0_, nz_1_, hC.e, ba, sj, c1, in1_n (k := i) (n := 90) (by omega), show i < 90 by omega, nI_c (a := i) (by omega), r4, b2, c2, c3, e2, e3]
      · simp [w_if_lt (M := mX2_gapBehind) (tgt := 91) dX2_gapBehind_36 (by decide), w_aload_n0 (M := mX2_gapBehind) dX2_gapBehind_39, w_iload6 (M := mX2_gapBehind) dX2_gapBehind_40, w_iload_n3 (M := mX2_gapBehind) dX2_gapBehind_42, w_aload4 (M := mX2_gapBehind) dX2_gapBehind_43, c_2_75 (M := mX2_gapBehind) dX2_gapBehind_45 rfl, w_istore (M := mX2_gapBehind) dX2_gapBehind_48 (by decide), w_aload_n0 (M := mX2_gapBehind) dX2_gapBehind_50, w_iload6 (M := mX2_gapBehind) dX2_gapBehind_51, w_iload_n2 (M := mX2_gapBehind) dX2_gapBehind_53, c_2_60 (M := mX2_gapBehind) dX2_gapBehind_54 rfl, w_if_eq (M := mX2_gapBehind) (tgt := 85) dX2_gapBehind_57 (by decide), w_iload7 (M := mX2_gapBehind) dX2_gapBehind_60, w_aload_n0 (M := mX2_gapBehind) dX2_gapBehind_62, w_getA (M := mX2_gapBehind) dX2_gapBehind_63 f_2_21 rfl (by decide) (by decide), w_iload_n1 (M := mX2_gapBehind) dX2_gapBehind_66, w_iaload (M := mX2_gapBehind) dX2_gapBehind_67, w_ic_lt (M := mX2_gapBehind) (tgt := 85) dX2_gapBehind_68 (by decide), w_iload7 (M := mX2_gapBehind) dX2_gapBehind_71, w_aload4 (M := mX2_gapBehind) dX2_gapBehind_73, w_getI (M := mX2_gapBehind) dX2_gapBehind_75 f_2_53 rfl (by decide) (by decide), w_ic_gt (M := mX2_gapBehind) (tgt := 85) dX2_gapBehind_78 (by decide), w_iload7 (M := mX2_gapBehind) dX2_gapBehind_81, w_istore (M := mX2_gapBehind) dX2_gapBehind_83 (by decide), w_iinc6 (M := mX2_gapBehind) (v := (-1)) dX2_gapBehind_85 rfl (by decide), w_goto (M := mX2_gapBehind) (tgt := 34) dX2_gapBehind_88 (by decide), Kn_v_, Kn_n_, kl_i_, kl_a_, kl_l_, kl_n_, s1_0_, s2_0_, s1_1, s1_2, s1_3, s1_4, s1_5, s1_6, s1_7, s1_8, s1_9, s1_10, s1_11, s1_12, s1_13, s1_14, s2_1, s2_2, s2_3, s2_4, s2_5, s2_6, s2_7, s2_8, s2_9, s2_10, s2_11, s2_12, s2_13, s2_14, List.map_nil, List.map_cons, List.sum_nil, List.sum_cons, ct_i_, ct_r_, ct_l_, t_si_, t_sl_, t_sr_, n_si_, n_sl_, n_sr_, i_si_, i_sl_, i_sr_, l_si_, l_sl_, l_sr_, r_si_, r_sl_, r_sr_, vr_s_, vr_n_, nz_0_, nz_1_, hC.e, ba, sj, c1, e2, e3]
    · have hs' : s1 = fv (GC g one other u) (bA g (nI other)) k (T - k) := hs
      rw [hj2]
      show (if GC g one other u j = true then bA g (nI other) j else s1) = fv _ _ (k + 1) j
      rw [hs', hj]
      rfl) T 0 (-1, none) (by omega) (by rw [Nat.sub_zero]; rfl)
  obtain ⟨⟨s1, s2⟩, a1, a2⟩ := key
  have a1' := a1 Q
  rw [Nat.sub_self] at a2
  have a2' : s1 = gH g T one other u := a2
  simp only [Nat.sub_zero, Nat.sub_self] at a1'
  rw [a2'] at a1'
  unfold Cal gV
  rw [l_X2_gapBehind, hu]
  simp only [am_en, am_ag, ct_i, ct_r, ct_l, List.length_cons, List.length_nil, List.replicate]
  by_cases c1 : g (166 + 5 * i) = nI other
  · by_cases c2 : g (166 + 5 * i + 4) = 1
    · simp [w_aload_n0 (M := mX2_gapBehind) dX2_gapBehind_0, w_getA (M := mX2_gapBehind) dX2_gapBehind_1 f_2_9 rfl (by decide) (by decide), w_iload_n1 (M := mX2_gapBehind) dX2_gapBehind_4, w_iaload (M := mX2_gapBehind) dX2_gapBehind_5, w_iload_n3 (M := mX2_gapBehind) dX2_gapBehind_6, w_ic_ne (M := mX2_gapBehind) (tgt := 20) dX2_gapBehind_7 (by decide), w_aload_n0 (M := mX2_gapBehind) dX2_gapBehind_10, w_getA (M := mX2_gapBehind) dX2_gapBehind_11 f_2_24 rfl (by decide) (by decide), w_iload_n1 (M := mX2_gapBehind) dX2_gapBehind_14, w_iaload (M := mX2_gapBehind) dX2_gapBehind_15, w_iconst (M := mX2_gapBehind) (v := 1) dX2_gapBehind_16 rfl, w_ic_eq (M := mX2_gapBehind) (tgt := 22) dX2_gapBehind_17 (by decide), w_iconst (M := mX2_gapBehind) (v := (-1)) dX2_gapBehind_20 rfl, w_iret (M := mX2_gapBehind) dX2_gapBehind_21 rfl, w_iconst (M := mX2_gapBehind) (v := (-1)) dX2_gapBehind_22 rfl, w_istore (M := mX2_gapBehind) dX2_gapBehind_23 (by decide), w_aload4 (M := mX2_gapBehind) dX2_gapBehind_25, w_getI (M := mX2_gapBehind) dX2_gapBehind_27 f_2_36 rfl (by decide) (by decide), w_iconst (M := mX2_gapBehind) (v := 1) dX2_gapBehind_30 rfl, w_isub (M := mX2_gapBehind) dX2_gapBehind_31, w_istore (M := mX2_gapBehind) dX2_gapBehind_32 (by decide), Kn_v_, Kn_n_, kl_i_, kl_a_, kl_l_, kl_n_, s1_0_, s2_0_, s1_1, s1_2, s1_3, s1_4, s1_5, s1_6, s1_7, s1_8, s1_9, s1_10, s1_11, s1_12, s1_13, s1_14, s2_1, s2_2, s2_3, s2_4, s2_5, s2_6, s2_7, s2_8, s2_9, s2_10, s2_11, s2_12, s2_13, s2_14, List.map_nil, List.map_cons, List.sum_nil, List.sum_cons, ct_i_, ct_r_, ct_l_, t_si_, t_sl_, t_sr_, n_si_, n_sl_, n_sr_, i_si_, i_sl_, i_sr_, l_si_, l_sl_, l_sr_, r_si_, r_sl_, r_sr_, vr_s_, vr_n_, nz_0_, nz_1_, hC.e, in1_n (k := i) (n := 90) (by omega), show i < 90 by omega, nI_c (a := i) (by omega), r1, r5, b1, c1, c2]
      refine Eq.to_iff (Eq.trans a1' ?_)
      show WP (d + 3) mX2_gapBehind 34 _ _ _ _ = _
      rw [w_iload6 (M := mX2_gapBehind) dX2_gapBehind_34]
      by_cases c3 : gH g T one other u = -1
      · simp [w_if_lt (M := mX2_gapBehind) (tgt := 91) dX2_gapBehind_36 (by decide), w_iload5 (M := mX2_gapBehind) dX2_gapBehind_91, w_iconst (M := mX2_gapBehind) (v := (-1)) dX2_gapBehind_93 rfl, w_ic_eq (M := mX2_gapBehind) (tgt := 115) dX2_gapBehind_94 (by decide), w_aload_n0 (M := mX2_gapBehind) dX2_gapBehind_97, w_iload_n3 (M := mX2_gapBehind) dX2_gapBehind_98, w_aload_n0 (M := mX2_gapBehind) dX2_gapBehind_99, w_getA (M := mX2_gapBehind) dX2_gapBehind_100 f_2_21 rfl (by decide) (by decide), w_iload_n1 (M := mX2_gapBehind) dX2_gapBehind_103, w_iaload (M := mX2_gapBehind) dX2_gapBehind_104, w_iload5 (M := mX2_gapBehind) dX2_gapBehind_105, w_aload4 (M := mX2_gapBehind) dX2_gapBehind_107, c_2_78 (M := mX2_gapBehind) dX2_gapBehind_109 rfl, w_if_eq (M := mX2_gapBehind) (tgt := 117) dX2_gapBehind_112 (by decide), w_iconst (M := mX2_gapBehind) (v := (-1)) dX2_gapBehind_115 rfl, w_iret (M := mX2_gapBehind) dX2_gapBehind_116 rfl, w_iload5 (M := mX2_gapBehind) dX2_gapBehind_117, w_aload_n0 (M := mX2_gapBehind) dX2_gapBehind_119, w_getA (M := mX2_gapBehind) dX2_gapBehind_120 f_2_21 rfl (by decide) (by decide), w_iload_n1 (M := mX2_gapBehind) dX2_gapBehind_123, w_iaload (M := mX2_gapBehind) dX2_gapBehind_124, w_isub (M := mX2_gapBehind) dX2_gapBehind_125, w_iret (M := mX2_gapBehind) dX2_gapBehind_126 rfl, Kn_v_, Kn_n_, kl_i_, kl_a_, kl_l_, kl_n_, s1_0_, s2_0_, s1_1, s1_2, s1_3, s1_4, s1_5, s1_6, s1_7, s1_8, s1_9, s1_10, s1_11, s1_12, s1_13, s1_14, s2_1, s2_2, s2_3, s2_4, s2_5, s2_6, s2_7, s2_8, s2_9, s2_10, s2_11, s2_12, s2_13, s2_14, List.map_nil, List.map_cons, List.sum_nil, List.sum_cons, ct_i_, ct_r_, ct_l_, t_si_, t_sl_, t_sr_, n_si_, n_sl_, n_sr_, i_si_, i_sl_, i_sr_, l_si_, l_sl_, l_sr_, r_si_, r_sl_, r_sr_, vr_s_, vr_n_, nz_0_, nz_1_, c3, show nI 0 - 1 < 0 from by decide]
      · by_cases c4 : an (BW g other u (gH g T one other u)) T 0 = true <;> simp [w_if_lt (M := mX2_gapBehind) (tgt := 91) dX2_gapBehind_36 (by decide), w_iload5 (M := mX2_gapBehind) dX2_gapBehind_91, w_iconst (M := mX2_gapBehind) (v := (-1)) dX2_gapBehind_93 rfl, w_ic_eq (M := mX2_gapBehind) (tgt := 115) dX2_gapBehind_94 (by decide), w_aload_n0 (M := mX2_gapBehind) dX2_gapBehind_97, w_iload_n3 (M := mX2_gapBehind) dX2_gapBehind_98, w_aload_n0 (M := mX2_gapBehind) dX2_gapBehind_99, w_getA (M := mX2_gapBehind) dX2_gapBehind_100 f_2_21 rfl (by decide) (by decide), w_iload_n1 (M := mX2_gapBehind) dX2_gapBehind_103, w_iaload (M := mX2_gapBehind) dX2_gapBehind_104, w_iload5 (M := mX2_gapBehind) dX2_gapBehind_105, w_aload4 (M := mX2_gapBehind) dX2_gapBehind_107, c_2_78 (M := mX2_gapBehind) dX2_gapBehind_109 rfl, w_if_eq (M := mX2_gapBehind) (tgt := 117) dX2_gapBehind_112 (by decide), w_iconst (M := mX2_gapBehind) (v := (-1)) dX2_gapBehind_115 rfl, w_iret (M := mX2_gapBehind) dX2_gapBehind_116 rfl, w_iload5 (M := mX2_gapBehind) dX2_gapBehind_117, w_aload_n0 (M := mX2_gapBehind) dX2_gapBehind_119, w_getA (M := mX2_gapBehind) dX2_gapBehind_120 f_2_21 rfl (by decide) (by decide), w_iload_n1 (M := mX2_gapBehind) dX2_gapBehind_123, w_iaload (M := mX2_gapBehind) dX2_gapBehind_124, w_isub (M := mX2_gapBehind) dX2_gapBehind_125, w_iret (M := mX2_gapBehind) dX2_gapBehind_126 rfl, Kn_v_, Kn_n_, kl_i_, kl_a_, kl_l_, kl_n_, s1_0_, s2_0_, s1_1, s1_2, s1_3, s1_4, s1_5, s1_6, s1_7, s1_8, s1_9, s1_10, s1_11, s1_12, s1_13, s1_14, s2_1, s2_2, s2_3, s2_4, s2_5, s2_6, s2_7, s2_8, s2_9, s2_10, s2_11, s2_12, s2_13, s2_14, List.map_nil, List.map_cons, List.sum_nil, List.sum_cons, ct_i_, ct_r_, ct_l_, t_si_, t_sl_, t_sr_, n_si_, n_sl_, n_sr_, i_si_, i_sl_, i_sr_, l_si_, l_sl_, l_sr_, r_si_, r_sl_, r_sr_, vr_s_, vr_n_, nz_0_, nz_1_, hC.e, in1_n (k := i) (n := 90) (by omega), show i < 90 by omega, nI_c (a := i) (by omega), r4, wi, c3, c4, bI, show nI 0 - 1 < 0 from by decide]
    · simp [w_aload_n0 (M := mX2_gapBehind) dX2_gapBehind_0, w_getA (M := mX2_gapBehind) dX2_gapBehind_1 f_2_9 rfl (by decide) (by decide), w_iload_n1 (M := mX2_gapBehind) dX2_gapBehind_4, w_iaload (M := mX2_gapBehind) dX2_gapBehind_5, w_iload_n3 (M := mX2_gapBehind) dX2_gapBehind_6, w_ic_ne (M := mX2_gapBehind) (tgt := 20) dX2_gapBehind_7 (by decide), w_aload_n0 (M := mX2_gapBehind) dX2_gapBehind_10, w_getA (M := mX2_gapBehind) dX2_gapBehind_11 f_2_24 rfl (by decide) (by decide), w_iload_n1 (M := mX2_gapBehind) dX2_gapBehind_14, w_iaload (M := mX2_gapBehind) dX2_gapBehind_15, w_iconst (M := mX2_gapBehind) (v := 1) dX2_gapBehind_16 rfl, w_ic_eq (M := mX2_gapBehind) (tgt := 22) dX2_gapBehind_17 (by decide), w_iconst (M := mX2_gapBehind) (v := (-1)) dX2_gapBehind_20 rfl, w_iret (M := mX2_gapBehind) dX2_gapBehind_21 rfl, w_iconst (M := mX2_gapBehind) (v := (-1)) dX2_gapBehind_22 rfl, w_istore (M := mX2_gapBehind) dX2_gapBehind_23 (by decide), w_aload4 (M := mX2_gapBehind) dX2_gapBehind_25, w_getI (M := mX2_gapBehind) dX2_gapBehind_27 f_2_36 rfl (by decide) (by decide), w_iconst (M := mX2_gapBehind) (v := 1) dX2_gapBehind_30 rfl, w_isub (M := mX2_gapBehind) dX2_gapBehind_31, w_istore (M := mX2_gapBehind) dX2_gapBehind_32 (by decide), Kn_v_, Kn_n_, kl_i_, kl_a_, kl_l_, kl_n_, s1_0_, s2_0_, s1_1, s1_2, s1_3, s1_4, s1_5, s1_6, s1_7, s1_8, s1_9, s1_10, s1_11, s1_12, s1_13, s1_14, s2_1, s2_2, s2_3, s2_4, s2_5, s2_6, s2_7, s2_8, s2_9, s2_10, s2_11, s2_12, s2_13, s2_14, List.map_nil, List.map_cons, List.sum_nil, List.sum_cons, ct_i_, ct_r_, ct_l_, t_si_, t_sl_, t_sr_, n_si_, n_sl_, n_sr_, i_si_, i_sl_, i_sr_, l_si_, l_sl_, l_sr_, r_si_, r_sl_, r_sr_, vr_s_, vr_n_, nz_0_, nz_1_, hC.e, in1_n (k := i) (n := 90) (by omega), show i < 90 by omega, nI_c (a := i) (by omega), r1, r5, b1, c1, c2]
  · simp [w_aload_n0 (M := mX2_gapBehind) dX2_gapBehind_0, w_getA (M := mX2_gapBehind) dX2_gapBehind_1 f_2_9 rfl (by decide) (by decide), w_iload_n1 (M := mX2_gapBehind) dX2_gapBehind_4, w_iaload (M := mX2_gapBehind) dX2_gapBehind_5, w_iload_n3 (M := mX2_gapBehind) dX2_gapBehind_6, w_ic_ne (M := mX2_gapBehind) (tgt := 20) dX2_gapBehind_7 (by decide), w_aload_n0 (M := mX2_gapBehind) dX2_gapBehind_10, w_getA (M := mX2_gapBehind) dX2_gapBehind_11 f_2_24 rfl (by decide) (by decide), w_iload_n1 (M := mX2_gapBehind) dX2_gapBehind_14, w_iaload (M := mX2_gapBehind) dX2_gapBehind_15, w_iconst (M := mX2_gapBehind) (v := 1) dX2_gapBehind_16 rfl, w_ic_eq (M := mX2_gapBehind) (tgt := 22) dX2_gapBehind_17 (by decide), w_iconst (M := mX2_gapBehind) (v := (-1)) dX2_gapBehind_20 rfl, w_iret (M := mX2_gapBehind) dX2_gapBehind_21 rfl, w_iconst (M := mX2_gapBehind) (v := (-1)) dX2_gapBehind_22 rfl, w_istore (M := mX2_gapBehind) dX2_gapBehind_23 (by decide), w_aload4 (M := mX2_gapBehind) dX2_gapBehind_25, w_getI (M := mX2_gapBehind) dX2_gapBehind_27 f_2_36 rfl (by decide) (by decide), w_iconst (M := mX2_gapBehind) (v := 1) dX2_gapBehind_30 rfl, w_isub (M := mX2_gapBehind) dX2_gapBehind_31, w_istore (M := mX2_gapBehind) dX2_gapBehind_32 (by decide), Kn_v_, Kn_n_, kl_i_, kl_a_, kl_l_, kl_n_, s1_0_, s2_0_, s1_1, s1_2, s1_3, s1_4, s1_5, s1_6, s1_7, s1_8, s1_9, s1_10, s1_11, s1_12, s1_13, s1_14, s2_1, s2_2, s2_3, s2_4, s2_5, s2_6, s2_7, s2_8, s2_9, s2_10, s2_11, s2_12, s2_13, s2_14, List.map_nil, List.map_cons, List.sum_nil, List.sum_cons, ct_i_, ct_r_, ct_l_, t_si_, t_sl_, t_sr_, n_si_, n_sl_, n_sr_, i_si_, i_sl_, i_sr_, l_si_, l_sl_, l_sr_, r_si_, r_sl_, r_sr_, vr_s_, vr_n_, nz_0_, nz_1_, hC.e, in1_n (k := i) (n := 90) (by omega), show i < 90 by omega, nI_c (a := i) (by omega), r1, r5, b1, c1]
end GAP
