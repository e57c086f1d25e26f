/-! laws: asked by the other side -/
section LAWSC
variable {d t n w e p : Nat} {h s : am_h} {Q : Option Value → am_h → Prop} {V : (Nat → Int32) → Int32 → Int32}
/-- only the other side's scratch of laws changed -/
def lwr (h s : am_h) : Prop := sm h s ∧ (∀ q j, ¬ q = 151 → a_l s q j = a_l h q j) ∧ ∀ q j, ¬ q = 150 → a_i s q j = a_i h q j
theorem sOf (hR : sh_R (a_t h) (a_r h)) {f n x : Nat} {op a : Nat → Nat} {ty : Nat → List Bool} (ht : t < 4) (hx : x + n < 400) (t0 : ty 0 = []) (tn : ty n = [false]) (l64 : ∀ i, (ty i).length ≤ 64) (L : LW h w t f n x op a ty) (hs : sm h s) (hi : ∀ q j, ¬ q = 150 → a_i s q j = a_i h q j) (hl : a_l s = a_l h) {N : Nat → Int32} (hN : ∀ b, okN w b → a_i s 150 b = N b ∧ inM (N b)) : ∃ s', (∀ Q, Cal (d + 2) mX12_saysOf [.ref 126, .int (nI (400 * t + x))] s Q = Q (some (.long (LV N op a n).toInt64)) s') ∧ lwr h s' := by
  obtain ⟨-, -, l4, l5⟩ := L
  have sR : sh_R (a_t s) (a_r s) := by rw [hs.1, hs.2.1]; exact hR
  obtain ⟨s', c1, c2⟩ := q_saysOf (d := d) (h := s) (X := 400 * t + x) (n := n) (op := op) (a := a) (ty := ty) sR (by omega) t0 tn l64 (fun i hi1 h1 => by
    obtain ⟨-, -, z, -⟩ := l5 i hi1
    rw [(hN _ (z h1)).1]
    exact (hN _ (z h1)).2) (by rw [hi _ _ (by omega)]; exact l4) (fun i hi1 => by
    obtain ⟨z1, z2, z3, z4, z5, z6⟩ := l5 i hi1
    refine ⟨z1, z2, z5, by rw [hi _ _ (by omega)]; exact z4, ?_⟩
    rw [hi _ _ (by omega)]
    by_cases c : op i = 2 ∨ op i = 3
    · rw [if_pos c] at z6 ⊢
      exact ⟨z6.1, z6.2.2⟩
    · rw [if_neg c] at z6 ⊢
      exact z6.2)
  refine ⟨s', fun Q => ?_, ?_⟩
  · rw [c1 Q]
    unfold LV
    rw [ev_N (N' := N) (fun i hi1 h1 => (hN _ ((l5 i hi1).2.2.1 h1)).1)]
  · exact ⟨hs.tr c2.1, fun q j c => by rw [c2.2.2.1 _ _ c, hl], fun q j c => by rw [c2.2.1]; exact hi q j c⟩
theorem q_held (hR : sh_R (a_t h) (a_r h)) {v lo hi : Int32} (k : lo.toInt ≤ hi.toInt) : Cal d mX12_held [.long v.toInt64, .int lo, .int hi] h Q = Q (some (.int (hld v lo hi))) h := by
  rw [q_X12_held (eq_true hR)]
  simp only [lc_neg, lc_pos, l32_lt, Int32.toInt32_toInt64]
  unfold hld
  simp only [i_lt] at *
  by_cases c1 : v.toInt < lo.toInt
  · rw [if_pos c1]
    by_cases c2 : v.toInt < hi.toInt
    · rw [if_pos c2, if_neg (by omega)]
    · exfalso; omega
  · rw [if_neg c1]
    by_cases c2 : hi.toInt < v.toInt
    · rw [if_pos c2, if_neg (show ¬ v.toInt < hi.toInt by omega)]
      by_cases c3 : lo.toInt < hi.toInt
      · rw [if_pos c3]
      · rw [if_neg c3, Int32.toInt_inj.mp (show lo.toInt = hi.toInt by omega)]
    · rw [if_neg c2]
      by_cases c3 : v.toInt < hi.toInt
      · rw [if_pos c3]
        by_cases c4 : lo.toInt < v.toInt
        · rw [if_pos c4]
        · rw [if_neg c4, Int32.toInt_inj.mp (show v.toInt = lo.toInt by omega)]
      · rw [if_neg c3, Int32.toInt_inj.mp (show v.toInt = hi.toInt by omega)]
        by_cases c4 : lo.toInt < hi.toInt
        · rw [if_pos c4]
        · rw [if_neg c4, Int32.toInt_inj.mp (show hi.toInt = lo.toInt by omega)]
theorem oOr (hR : sh_R (a_t h) (a_r h)) (hw : w < 5) (k : LN h w) : Cal d mX12_ordersOf [.ref 126, .int (nI w)] h Q = Q (some (.int (-1))) h := by
  rcases k with ⟨z, -⟩ | ⟨t, n, z1, z2, z3, z4, z5, z6, z7⟩
  · exact q_ordersOf_0 hR z
  · rw [q_ordersOf hR z1 z2 z6 z5, oF_no z7]
theorem oOr1 (hR : sh_R (a_t h) (a_r h)) {f n x : Nat} {op a : Nat → Nat} {ty : Nat → List Bool} (ht : t < 4) (L : LW h w t f n x op a ty) : Cal d mX12_ordersOf [.ref 126, .int (nI w)] h Q = Q (some (.int (nI (400 * t + x)))) h := by
  obtain ⟨⟨l1, -⟩, ⟨m, k, m1, m2, m3, m4, m5, m6⟩, -⟩ := L
  rw [q_ordersOf hR ht l1 m2 m1, oF_one m3 m4 m5, m6]
theorem ixE {e : Nat} (he : e < 200) : (12 + 4 * nI e).toNatClampNeg = 12 + 4 * e ∧ (0 ≤ 12 + 4 * nI e) = True ∧ (12 + 4 * nI e + 1).toNatClampNeg = 12 + 4 * e + 1 ∧ (0 ≤ 12 + 4 * nI e + 1) = True ∧ (12 + 4 * nI e + 2).toNatClampNeg = 12 + 4 * e + 2 ∧ (0 ≤ 12 + 4 * nI e + 2) = True ∧ (12 + 4 * nI e + 3).toNatClampNeg = 12 + 4 * e + 3 ∧ (0 ≤ 12 + 4 * nI e + 3) = True := ⟨ixE0 he, ipE0 he, ixE1 he, ipE1 he, ixE2 he, ipE2 he, ixE3 he, ipE3 he⟩
set_option maxRecDepth 20000 in
set_option maxHeartbeats 2000000 in
theorem r_lawOf (k : LX h w V) (hw : w < 3) (he : e < 4) {v : Int32} (hg : a_i h 126 43 = a_i h 127 0) (hN : ∀ b, b < 9 → inM (nmF (a_i h 127) e (a_i h 126 45) (a_i h 161 e) (a_i h 162 e) b)) : ∃ s', (∀ Q, Cal (d + 3) mX12_lawOf [.ref 126, .int (nI w), .int (nI e), .int v, .int (lo5 w), .int (hi5 w)] h Q = Q (some (.int (V (nmF (a_i h 127) e (a_i h 126 45) (a_i h 161 e) (a_i h 162 e)) v))) s') ∧ lwr h s' := by
  obtain ⟨hC, hR, ol, k4⟩ := k
  rcases k4 with ⟨k4, rfl⟩ | ⟨t, f, n, x, op, a, ty, k4, k5, k6, k7, k8, k9, k10, rfl⟩
  · refine ⟨h, fun Q => ?_, ⟨rfl, rfl, rfl⟩, fun _ _ _ => rfl, fun _ _ _ => rfl⟩
    have hq := fun d Q => oOr (d := d) (Q := Q) hR (show w < 5 by omega) k4
    unfold Cal
    rw [l_X12_lawOf]
    simp only [am_en, am_ag, ct_i, ct_r, ct_l, List.length_cons, List.length_nil, List.replicate]
    simp [w_aload_n0 (M := mX12_lawOf) dX12_lawOf_0, w_iload_n1 (M := mX12_lawOf) dX12_lawOf_1, c_12_451 (M := mX12_lawOf) dX12_lawOf_2 rfl, w_istore (M := mX12_lawOf) dX12_lawOf_5 (by decide), w_iload6 (M := mX12_lawOf) dX12_lawOf_7, w_iconst (M := mX12_lawOf) (v := (-1)) dX12_lawOf_9 rfl, w_ic_ne (M := mX12_lawOf) (tgt := 15) dX12_lawOf_10 (by decide), w_iload_n3 (M := mX12_lawOf) dX12_lawOf_13, w_iret (M := mX12_lawOf) dX12_lawOf_14 rfl, w_aload_n0 (M := mX12_lawOf) dX12_lawOf_15, w_iload_n2 (M := mX12_lawOf) dX12_lawOf_16, c_12_454 (M := mX12_lawOf) dX12_lawOf_17 rfl, w_aload_n0 (M := mX12_lawOf) dX12_lawOf_20, w_iload6 (M := mX12_lawOf) dX12_lawOf_21, c_12_457 (M := mX12_lawOf) dX12_lawOf_23 rfl, w_iload4 (M := mX12_lawOf) dX12_lawOf_26, w_iload5 (M := mX12_lawOf) dX12_lawOf_28, c_12_461 (M := mX12_lawOf) dX12_lawOf_30 rfl, w_iret (M := mX12_lawOf) dX12_lawOf_33 rfl, Kn_v_, Kn_n_, kl_i_, kl_a_, kl_l_, kl_n_, s1_0_, s2_0_, s1_1, s1_2, s1_3, s1_4, s1_5, s1_6, s1_7, s1_8, s1_9, s1_10, s1_11, s1_12, s1_13, s1_14, s2_1, s2_2, s2_3, s2_4, s2_5, s2_6, s2_7, s2_8, s2_9, s2_10, s2_11, s2_12, s2_13, s2_14, List.map_nil, List.map_cons, List.sum_nil, List.sum_cons, ct_i_, ct_r_, ct_l_, t_si_, t_sl_, t_sr_, n_si_, n_sl_, n_sr_, i_si_, i_sl_, i_sr_, l_si_, l_sl_, l_sr_, r_si_, r_sl_, r_sr_, vr_s_, vr_n_, nz_0_, nz_1_, hR.e, hq]
  · have hq := fun d Q => oOr1 (d := d) (Q := Q) hR k4 k10
    obtain ⟨S, eS⟩ : ∃ S, S = s_i (s_i (s_i (s_i (s_i (s_i (s_i (s_i (s_i h 150 0 (nI e)) 150 1 (a_i h 126 43)) 150 2 (a_i h 126 45)) 150 3 (a_i h 161 e)) 150 4 (a_i h 162 e)) 150 5 (a_i h 127 (12 + 4 * e))) 150 6 (a_i h 127 (12 + 4 * e + 1))) 150 7 (a_i h 127 (12 + 4 * e + 2))) 150 8 (a_i h 127 (12 + 4 * e + 3)) := ⟨_, rfl⟩
    have sS : sm h S := by rw [eS]; exact ⟨rfl, rfl, rfl⟩
    have iS : ∀ q j, ¬ q = 150 → a_i S q j = a_i h q j := by
      intro q j c
      rw [eS]
      simp (disch := omega) only [ine]
    have nm : ∀ d Q, Cal (d + 1) mX12_names [.ref 126, .int (nI e)] h Q = Q none S := by
      intro d Q
      obtain ⟨x1, x2, x3, x4, x5, x6, x7, x8⟩ := ixE (e := e) (by omega)
      rw [q_X12_names (eq_true hR), eS]
      simp only [x1, x2, x3, x4, x5, x6, x7, x8, nI_c (a := e) (by omega), nI_p (a := e) (by omega), show e < 4 by omega, show 12 + 4 * e < 20150 by omega, show 12 + 4 * e + 1 < 20150 by omega, show 12 + 4 * e + 2 < 20150 by omega, show 12 + 4 * e + 3 < 20150 by omega, and_self, true_and, and_true]
    have nS : ∀ b, b < 9 → a_i S 150 b = nmF (a_i h 127) e (a_i h 126 45) (a_i h 161 e) (a_i h 162 e) b := by
      intro b hb
      rw [eS]
      have : b = 0 ∨ b = 1 ∨ b = 2 ∨ b = 3 ∨ b = 4 ∨ b = 5 ∨ b = 6 ∨ b = 7 ∨ b = 8 := by omega
      rcases this with rfl | rfl | rfl | rfl | rfl | rfl | rfl | rfl | rfl <;> simp (disch := omega) only [ine, ieq, nmF, hg]
    obtain ⟨s', c1, c2⟩ := sOf (d := d) hR k4 k6 k7 k8 k9 k10 sS iS (by rw [eS]; rfl) (N := nmF (a_i h 127) e (a_i h 126 45) (a_i h 161 e) (a_i h 162 e)) (fun b hb => by
      have b9 : b < 9 := by
        unfold okN at hb
        rw [if_neg (by omega), if_neg (by omega)] at hb
        exact hb
      exact ⟨nS b b9, hN b b9⟩)
    have sR' : sh_R (a_t s') (a_r s') := by rw [c2.1.1, c2.1.2.1]; exact hR
    have lh : (lo5 w).toInt ≤ (hi5 w).toInt := by
      have : w = 0 ∨ w = 1 ∨ w = 2 := by omega
      rcases this with rfl | rfl | rfl <;> decide
    refine ⟨s', fun Q => ?_, c2⟩
    unfold Cal
    rw [l_X12_lawOf]
    simp only [am_en, am_ag, ct_i, ct_r, ct_l, List.length_cons, List.length_nil, List.replicate]
    simp [w_aload_n0 (M := mX12_lawOf) dX12_lawOf_0, w_iload_n1 (M := mX12_lawOf) dX12_lawOf_1, c_12_451 (M := mX12_lawOf) dX12_lawOf_2 rfl, w_istore (M := mX12_lawOf) dX12_lawOf_5 (by decide), w_iload6 (M := mX12_lawOf) dX12_lawOf_7, w_iconst (M := mX12_lawOf) (v := (-1)) dX12_lawOf_9 rfl, w_ic_ne (M := mX12_lawOf) (tgt := 15) dX12_lawOf_10 (by decide), w_iload_n3 (M := mX12_lawOf) dX12_lawOf_13, w_iret (M := mX12_lawOf) dX12_lawOf_14 rfl, w_aload_n0 (M := mX12_lawOf) dX12_lawOf_15, w_iload_n2 (M := mX12_lawOf) dX12_lawOf_16, c_12_454 (M := mX12_lawOf) dX12_lawOf_17 rfl, w_aload_n0 (M := mX12_lawOf) dX12_lawOf_20, w_iload6 (M := mX12_lawOf) dX12_lawOf_21, c_12_457 (M := mX12_lawOf) dX12_lawOf_23 rfl, w_iload4 (M := mX12_lawOf) dX12_lawOf_26, w_iload5 (M := mX12_lawOf) dX12_lawOf_28, c_12_461 (M := mX12_lawOf) dX12_lawOf_30 rfl, w_iret (M := mX12_lawOf) dX12_lawOf_33 rfl, Kn_v_, Kn_n_, kl_i_, kl_a_, kl_l_, kl_n_, s1_0_, s2_0_, s1_1, s1_2, s1_3, s1_4, s1_5, s1_6, s1_7, s1_8, s1_9, s1_10, s1_11, s1_12, s1_13, s1_14, s2_1, s2_2, s2_3, s2_4, s2_5, s2_6, s2_7, s2_8, s2_9, s2_10, s2_11, s2_12, s2_13, s2_14, List.map_nil, List.map_cons, List.sum_nil, List.sum_cons, ct_i_, ct_r_, ct_l_, t_si_, t_sl_, t_sr_, n_si_, n_sl_, n_sr_, i_si_, i_sl_, i_sr_, l_si_, l_sl_, l_sr_, r_si_, r_sl_, r_sr_, vr_s_, vr_n_, nz_0_, nz_1_, hR.e, hq, nm, c1, q_held sR' lh, nI_n1 (a := 400 * t + x) (by omega), sS.1]
set_option maxRecDepth 20000 in
set_option maxHeartbeats 2000000 in
theorem r_seems (k : LX h w V) (hw : w = 3 ∨ w = 4) (he : e < 4) {v : Int32} (hN : inM (nI e) ∧ inM (a_i h 127 0) ∧ inM (a_i h 127 90) ∧ inM v) : ∃ s', (∀ Q, Cal (d + 3) mX12_seems [.ref 126, .int (nI w), .int (nI e), .int (nI (w + 6)), .int v] h Q = Q (some (.int (V (fun a => if a = 0 then nI e else if a = 1 then a_i h 127 0 else if a = 2 then a_i h 127 90 else v) (if w = 3 then v else 1)))) s') ∧ lwr h s' := by
  obtain ⟨hC, hR, ol, k4⟩ := k
  have w3 : (nI w = 3) = (w = 3) := nI_inj (b := 3) (by omega) (by omega)
  rcases k4 with ⟨k4, rfl⟩ | ⟨t, f, n, x, op, a, ty, k4, k5, k6, k7, k8, k9, k10, rfl⟩
  · refine ⟨h, fun Q => ?_, ⟨rfl, rfl, rfl⟩, fun _ _ _ => rfl, fun _ _ _ => rfl⟩
    have hq := fun d Q => oOr (d := d) (Q := Q) hR (show w < 5 by omega) k4
    unfold Cal
    rw [l_X12_seems]
    simp only [am_en, am_ag, ct_i, ct_r, ct_l, List.length_cons, List.length_nil, List.replicate]
    rcases hw with rfl | rfl <;> simp [w_aload_n0 (M := mX12_seems) dX12_seems_0, w_iload_n1 (M := mX12_seems) dX12_seems_1, c_12_451 (M := mX12_seems) dX12_seems_2 rfl, w_istore (M := mX12_seems) dX12_seems_5 (by decide), w_iload5 (M := mX12_seems) dX12_seems_7, w_iconst (M := mX12_seems) (v := (-1)) dX12_seems_9 rfl, w_ic_ne (M := mX12_seems) (tgt := 25) dX12_seems_10 (by decide), w_iload_n1 (M := mX12_seems) dX12_seems_13, w_iconst (M := mX12_seems) (v := 3) dX12_seems_14 rfl, w_ic_ne (M := mX12_seems) (tgt := 23) dX12_seems_15 (by decide), w_iload4 (M := mX12_seems) dX12_seems_18, w_goto (M := mX12_seems) (tgt := 24) dX12_seems_20 (by decide), w_iconst (M := mX12_seems) (v := 1) dX12_seems_23 rfl, w_iret (M := mX12_seems) dX12_seems_24 rfl, w_aload_n0 (M := mX12_seems) dX12_seems_25, w_getA (M := mX12_seems) dX12_seems_26 f_12_87 rfl (by decide) (by decide), w_iconst (M := mX12_seems) (v := 0) dX12_seems_29 rfl, w_iload_n2 (M := mX12_seems) dX12_seems_30, w_iastore (M := mX12_seems) dX12_seems_31, w_aload_n0 (M := mX12_seems) dX12_seems_32, w_getA (M := mX12_seems) dX12_seems_33 f_12_87 rfl (by decide) (by decide), w_iconst (M := mX12_seems) (v := 1) dX12_seems_36 rfl, w_aload_n0 (M := mX12_seems) dX12_seems_37, w_getA (M := mX12_seems) dX12_seems_38 f_12_7 rfl (by decide) (by decide), w_iconst (M := mX12_seems) (v := 0) dX12_seems_41 rfl, w_iaload (M := mX12_seems) dX12_seems_42, w_iastore (M := mX12_seems) dX12_seems_43, w_aload_n0 (M := mX12_seems) dX12_seems_44, w_getA (M := mX12_seems) dX12_seems_45 f_12_87 rfl (by decide) (by decide), w_iconst (M := mX12_seems) (v := 2) dX12_seems_48 rfl, w_aload_n0 (M := mX12_seems) dX12_seems_49, w_getA (M := mX12_seems) dX12_seems_50 f_12_7 rfl (by decide) (by decide), w_bipush (M := mX12_seems) (v := 90) dX12_seems_53 rfl, w_iaload (M := mX12_seems) dX12_seems_55, w_iastore (M := mX12_seems) dX12_seems_56, w_aload_n0 (M := mX12_seems) dX12_seems_57, w_getA (M := mX12_seems) dX12_seems_58 f_12_87 rfl (by decide) (by decide), w_iload_n3 (M := mX12_seems) dX12_seems_61, w_iload4 (M := mX12_seems) dX12_seems_62, w_iastore (M := mX12_seems) dX12_seems_64, w_aload_n0 (M := mX12_seems) dX12_seems_65, w_iload5 (M := mX12_seems) dX12_seems_66, c_12_457 (M := mX12_seems) dX12_seems_68 rfl, w_iconst (M := mX12_seems) (v := 0) dX12_seems_71 rfl, w_sipush (M := mX12_seems) (v := 9999) dX12_seems_72 rfl, c_12_461 (M := mX12_seems) dX12_seems_75 rfl, w_iret (M := mX12_seems) dX12_seems_78 rfl, Kn_v_, Kn_n_, kl_i_, kl_a_, kl_l_, kl_n_, s1_0_, s2_0_, s1_1, s1_2, s1_3, s1_4, s1_5, s1_6, s1_7, s1_8, s1_9, s1_10, s1_11, s1_12, s1_13, s1_14, s2_1, s2_2, s2_3, s2_4, s2_5, s2_6, s2_7, s2_8, s2_9, s2_10, s2_11, s2_12, s2_13, s2_14, List.map_nil, List.map_cons, List.sum_nil, List.sum_cons, ct_i_, ct_r_, ct_l_, t_si_, t_sl_, t_sr_, n_si_, n_sl_, n_sr_, i_si_, i_sl_, i_sr_, l_si_, l_sl_, l_sr_, r_si_, r_sl_, r_sr_, vr_s_, vr_n_, nz_0_, nz_1_, hR.e, hq, w3]
  · have hq := fun d Q => oOr1 (d := d) (Q := Q) hR k4 k10
    obtain ⟨S, eS⟩ : ∃ S, S = s_i (s_i (s_i (s_i h 150 0 (nI e)) 150 1 (a_i h 127 0)) 150 2 (a_i h 127 90)) 150 (w + 6) v := ⟨_, rfl⟩
    have sS : sm h S := by rw [eS]; exact ⟨rfl, rfl, rfl⟩
    have iS : ∀ q j, ¬ q = 150 → a_i S q j = a_i h q j := by
      intro q j c
      rw [eS]
      simp (disch := omega) only [ine]
    obtain ⟨s', c1, c2⟩ := sOf (d := d) hR k4 k6 k7 k8 k9 k10 sS iS (by rw [eS]; rfl) (N := fun a => if a = 0 then nI e else if a = 1 then a_i h 127 0 else if a = 2 then a_i h 127 90 else v) (fun b hb => by
      have b9 : b = 0 ∨ b = 1 ∨ b = 2 ∨ b = w + 6 := by
        unfold okN at hb
        rcases hw with rfl | rfl
        · rw [if_pos rfl] at hb; omega
        · rw [if_neg (by omega), if_pos rfl] at hb; omega
      rcases b9 with rfl | rfl | rfl | rfl
      · exact ⟨by rw [eS]; simp (disch := omega) only [ine, ieq, if_true], hN.1⟩
      · exact ⟨by rw [eS]; simp (disch := omega) only [ine, ieq]; rfl, hN.2.1⟩
      · exact ⟨by rw [eS]; simp (disch := omega) only [ine, ieq]; rfl, hN.2.2.1⟩
      · exact ⟨by rw [eS]; simp (disch := omega) only [ine, ieq, if_neg (show ¬ w + 6 = 0 by omega), if_neg (show ¬ w + 6 = 1 by omega), if_neg (show ¬ w + 6 = 2 by omega)], by
          simp (disch := omega) only [if_neg (show ¬ w + 6 = 0 by omega), if_neg (show ¬ w + 6 = 1 by omega), if_neg (show ¬ w + 6 = 2 by omega)]
          exact hN.2.2.2⟩)
    have sR' : sh_R (a_t s') (a_r s') := by rw [c2.1.1, c2.1.2.1]; exact hR
    have hh : ∀ d Q (z : Int32), Cal d mX12_held [.long z.toInt64, .int 0, .int 9999] s' Q = Q (some (.int (hld z (lo5 w) (hi5 w)))) s' := by
      intro d Q z
      rw [q_held sR' (by decide)]
      rcases hw with rfl | rfl <;> rfl
    refine ⟨s', fun Q => ?_, c2⟩
    unfold Cal
    rw [l_X12_seems]
    simp only [am_en, am_ag, ct_i, ct_r, ct_l, List.length_cons, List.length_nil, List.replicate]
    simp [w_aload_n0 (M := mX12_seems) dX12_seems_0, w_iload_n1 (M := mX12_seems) dX12_seems_1, c_12_451 (M := mX12_seems) dX12_seems_2 rfl, w_istore (M := mX12_seems) dX12_seems_5 (by decide), w_iload5 (M := mX12_seems) dX12_seems_7, w_iconst (M := mX12_seems) (v := (-1)) dX12_seems_9 rfl, w_ic_ne (M := mX12_seems) (tgt := 25) dX12_seems_10 (by decide), w_iload_n1 (M := mX12_seems) dX12_seems_13, w_iconst (M := mX12_seems) (v := 3) dX12_seems_14 rfl, w_ic_ne (M := mX12_seems) (tgt := 23) dX12_seems_15 (by decide), w_iload4 (M := mX12_seems) dX12_seems_18, w_goto (M := mX12_seems) (tgt := 24) dX12_seems_20 (by decide), w_iconst (M := mX12_seems) (v := 1) dX12_seems_23 rfl, w_iret (M := mX12_seems) dX12_seems_24 rfl, w_aload_n0 (M := mX12_seems) dX12_seems_25, w_getA (M := mX12_seems) dX12_seems_26 f_12_87 rfl (by decide) (by decide), w_iconst (M := mX12_seems) (v := 0) dX12_seems_29 rfl, w_iload_n2 (M := mX12_seems) dX12_seems_30, w_iastore (M := mX12_seems) dX12_seems_31, w_aload_n0 (M := mX12_seems) dX12_seems_32, w_getA (M := mX12_seems) dX12_seems_33 f_12_87 rfl (by decide) (by decide), w_iconst (M := mX12_seems) (v := 1) dX12_seems_36 rfl, w_aload_n0 (M := mX12_seems) dX12_seems_37, w_getA (M := mX12_seems) dX12_seems_38 f_12_7 rfl (by decide) (by decide), w_iconst (M := mX12_seems) (v := 0) dX12_seems_41 rfl, w_iaload (M := mX12_seems) dX12_seems_42, w_iastore (M := mX12_seems) dX12_seems_43, w_aload_n0 (M := mX12_seems) dX12_seems_44, w_getA (M := mX12_seems) dX12_seems_45 f_12_87 rfl (by decide) (by decide), w_iconst (M := mX12_seems) (v := 2) dX12_seems_48 rfl, w_aload_n0 (M := mX12_seems) dX12_seems_49, w_getA (M := mX12_seems) dX12_seems_50 f_12_7 rfl (by decide) (by decide), w_bipush (M := mX12_seems) (v := 90) dX12_seems_53 rfl, w_iaload (M := mX12_seems) dX12_seems_55, w_iastore (M := mX12_seems) dX12_seems_56, w_aload_n0 (M := mX12_seems) dX12_seems_57, w_getA (M := mX12_seems) dX12_seems_58 f_12_87 rfl (by decide) (by decide), w_iload_n3 (M := mX12_seems) dX12_seems_61, w_iload4 (M := mX12_seems) dX12_seems_62, w_iastore (M := mX12_seems) dX12_seems_64, w_aload_n0 (M := mX12_seems) dX12_seems_65, w_iload5 (M := mX12_seems) dX12_seems_66, c_12_457 (M := mX12_seems) dX12_seems_68 rfl, w_iconst (M := mX12_seems) (v := 0) dX12_seems_71 rfl, w_sipush (M := mX12_seems) (v := 9999) dX12_seems_72 rfl, c_12_461 (M := mX12_seems) dX12_seems_75 rfl, w_iret (M := mX12_seems) dX12_seems_78 rfl, Kn_v_, Kn_n_, kl_i_, kl_a_, kl_l_, kl_n_, s1_0_, s2_0_, s1_1, s1_2, s1_3, s1_4, s1_5, s1_6, s1_7, s1_8, s1_9, s1_10, s1_11, s1_12, s1_13, s1_14, s2_1, s2_2, s2_3, s2_4, s2_5, s2_6, s2_7, s2_8, s2_9, s2_10, s2_11, s2_12, s2_13, s2_14, List.map_nil, List.map_cons, List.sum_nil, List.sum_cons, ct_i_, ct_r_, ct_l_, t_si_, t_sl_, t_sr_, n_si_, n_sl_, n_sr_, i_si_, i_sl_, i_sr_, l_si_, l_sl_, l_sr_, r_si_, r_sl_, r_sr_, vr_s_, vr_n_, nz_0_, nz_1_, hR.e, hq, c1, hh, nI_n1 (a := 400 * t + x) (by omega), am_in1, nI_c (a := w + 6) (by omega), show w + 6 < 11 by omega, nI_p (a := w + 6) (by omega), ← eS, sS.1, show w < 5 by omega]
end LAWSC
