/-! drawn waits -/
section DRAW
variable {d : Nat} {h : am_h} {Q : Option Value → am_h → Prop}
theorem nI_lI {a b : Nat} (ha : a < 2000000000) (hb : b < 2000000000) : (nI a < nI b) = (a < b) := by
  by_cases h : a < b
  · rw [nI_ltT h hb]; simp [h]
  · rw [nI_ltF (by omega) ha]; simp [h]
/-- one more, where two drawn waits come apart -/
def dr_in (t k a b c : Nat) : Nat := if a + 1 + t ≤ b ∨ b + 1 + k ≤ a then c + 1 else c
def dr_row (t k s1 a c : Nat) : Nat := itr (dr_in t k a) 0 (s1 + 1) c
def dr_all (t k s0 s1 : Nat) : Nat := itr (dr_row t k s1) 0 (s0 + 1) 0
theorem dr_row_le {t k s1 a c : Nat} : dr_row t k s1 a c ≤ c + (s1 + 1) := by
  refine itr_inv (f := dr_in t k a) (I := fun i s => s ≤ c + i) (n := s1 + 1) (fun i s hi hs => ?_) (s1 + 1) 0 c (by omega) (by omega)
  unfold dr_in
  split <;> omega
theorem dr_all_le {t k s0 s1 : Nat} : dr_all t k s0 s1 ≤ (s0 + 1) * (s1 + 1) := by
  refine itr_inv (f := dr_row t k s1) (I := fun i s => s ≤ i * (s1 + 1)) (n := s0 + 1) (fun i s hi hs => ?_) (s0 + 1) 0 0 (by omega) (by omega)
  have := dr_row_le (t := t) (k := k) (s1 := s1) (a := i) (c := s)
  rw [Nat.add_mul]
  omega
section
variable {t k s0 s1 : Nat} (ht : t ≤ 60) (hk : k ≤ 60) (h0 : s0 ≤ 24) (h1 : s1 ≤ 24)
set_option maxRecDepth 20000 in
set_option maxHeartbeats 4000000 in
theorem di_X11_apartDraws {a c : Nat} (ht : t ≤ 60) (hk : k ≤ 60) (h1 : s1 ≤ 24) (ha : a ≤ 24) : WP d mX11_apartDraws 15 [some (.int (nI t)), some (.int (nI k)), some (.int (nI s0)), some (.int (nI s1)), some (.int (nI c)), some (.int (nI a)), some (.int (nI 0))] [] h Q = WP d mX11_apartDraws 52 [some (.int (nI t)), some (.int (nI k)), some (.int (nI s0)), some (.int (nI s1)), some (.int (nI (dr_row t k s1 a c))), some (.int (nI a)), some (.int (nI (s1 + 1)))] [] h Q := by
  refine (itr_eq (n := s1 + 1) (f := dr_in t k a) (I := fun _ _ => True) (G := fun b c => WP d mX11_apartDraws 15 [some (.int (nI t)), some (.int (nI k)), some (.int (nI s0)), some (.int (nI s1)), some (.int (nI c)), some (.int (nI a)), some (.int (nI b))] [] h Q) (fun _ _ _ _ => trivial) (fun b c hb _ => ?_) (s1 + 1) 0 c (by omega) trivial).trans ?_
  · have e1 : (nI s1 < nI b) = False := nI_ltF (by omega) (by omega)
    have e2 : (nI b < nI (a + 1) + nI t) = (b < a + 1 + t) := by rw [nI_a, nI_lI (by omega) (by omega)]
    have e3 : (nI a < nI (b + 1) + nI k) = (a < b + 1 + k) := by rw [nI_a, nI_lI (by omega) (by omega)]
    rw [w_iload6 (M := mX11_apartDraws) dX11_apartDraws_15]
    simp only [w_iconst (M := mX11_apartDraws) (v := 0) dX11_apartDraws_0 rfl, w_istore (M := mX11_apartDraws) dX11_apartDraws_1 (by decide), w_iconst (M := mX11_apartDraws) (v := 0) dX11_apartDraws_3 rfl, w_istore (M := mX11_apartDraws) dX11_apartDraws_4 (by decide), w_iload_n2 (M := mX11_apartDraws) dX11_apartDraws_8, w_ic_gt (M := mX11_apartDraws) (tgt := 58) dX11_apartDraws_9 (by decide), w_iconst (M := mX11_apartDraws) (v := 0) dX11_apartDraws_12 rfl, w_istore (M := mX11_apartDraws) dX11_apartDraws_13 (by decide), w_iload_n3 (M := mX11_apartDraws) dX11_apartDraws_17, w_ic_gt (M := mX11_apartDraws) (tgt := 52) dX11_apartDraws_18 (by decide), w_iload5 (M := mX11_apartDraws) dX11_apartDraws_21, w_iconst (M := mX11_apartDraws) (v := 1) dX11_apartDraws_23 rfl, w_iadd (M := mX11_apartDraws) dX11_apartDraws_24, w_iload_n0 (M := mX11_apartDraws) dX11_apartDraws_25, w_iadd (M := mX11_apartDraws) dX11_apartDraws_26, w_iload6 (M := mX11_apartDraws) dX11_apartDraws_27, w_ic_le (M := mX11_apartDraws) (tgt := 43) dX11_apartDraws_29 (by decide), w_iload6 (M := mX11_apartDraws) dX11_apartDraws_32, w_iconst (M := mX11_apartDraws) (v := 1) dX11_apartDraws_34 rfl, w_iadd (M := mX11_apartDraws) dX11_apartDraws_35, w_iload_n1 (M := mX11_apartDraws) dX11_apartDraws_36, w_iadd (M := mX11_apartDraws) dX11_apartDraws_37, w_iload5 (M := mX11_apartDraws) dX11_apartDraws_38, w_ic_gt (M := mX11_apartDraws) (tgt := 46) dX11_apartDraws_40 (by decide), w_iinc4 (M := mX11_apartDraws) (v := 1) dX11_apartDraws_43 rfl (by decide), w_iinc6 (M := mX11_apartDraws) (v := 1) dX11_apartDraws_46 rfl (by decide), w_goto (M := mX11_apartDraws) (tgt := 15) dX11_apartDraws_49 (by decide), w_iinc5 (M := mX11_apartDraws) (v := 1) dX11_apartDraws_52 rfl (by decide), w_goto (M := mX11_apartDraws) (tgt := 6) dX11_apartDraws_55 (by decide), w_iload4 (M := mX11_apartDraws) dX11_apartDraws_58, w_iret (M := mX11_apartDraws) dX11_apartDraws_60 rfl, Kn_v_, Kn_n_, kl_i_, kl_a_, kl_l_, kl_n_, s1_0_, s2_0_, s1_1, s1_2, s1_3, s1_4, s1_5, s1_6, s1_7, s1_8, s1_9, s1_10, s1_11, s1_12, s1_13, s1_14, s2_1, s2_2, s2_3, s2_4, s2_5, s2_6, s2_7, s2_8, s2_9, s2_10, s2_11, s2_12, s2_13, s2_14, List.map_nil, List.map_cons, List.sum_nil, List.sum_cons, ct_i_, ct_r_, ct_l_, t_si_, t_sl_, t_sr_, n_si_, n_sl_, n_sr_, i_si_, i_sl_, i_sr_, l_si_, l_sl_, l_sr_, r_si_, r_sl_, r_sr_, vr_s_, vr_n_, nz_0_, nz_1_, e1, e2, e3, nI_s, if_false, Nat.reduceAdd, Int32.add_zero]
    unfold dr_in
    by_cases q1 : b < a + 1 + t
    · by_cases q2 : a < b + 1 + k
      · rw [if_pos q1, if_pos q2, if_neg (by omega)]
      · rw [if_pos q1, if_neg q2, if_pos (by omega)]
    · rw [if_neg q1, if_pos (by omega)]
  · have e1 : (nI s1 < nI (s1 + 1)) = True := nI_ltT (by omega) (by omega)
    rw [w_iload6 (M := mX11_apartDraws) dX11_apartDraws_15]
    simp only [w_iload_n3 (M := mX11_apartDraws) dX11_apartDraws_17, w_ic_gt (M := mX11_apartDraws) (tgt := 52) dX11_apartDraws_18 (by decide), Kn_v_, Kn_n_, kl_i_, kl_a_, kl_l_, kl_n_, s1_0_, s2_0_, s1_1, s1_2, s1_3, s1_4, s1_5, s1_6, s1_7, s1_8, s1_9, s1_10, s1_11, s1_12, s1_13, s1_14, s2_1, s2_2, s2_3, s2_4, s2_5, s2_6, s2_7, s2_8, s2_9, s2_10, s2_11, s2_12, s2_13, s2_14, List.map_nil, List.map_cons, List.sum_nil, List.sum_cons, ct_i_, ct_r_, ct_l_, t_si_, t_sl_, t_sr_, n_si_, n_sl_, n_sr_, i_si_, i_sl_, i_sr_, l_si_, l_sl_, l_sr_, r_si_, r_sl_, r_sr_, vr_s_, vr_n_, nz_0_, nz_1_, e1, if_true, Nat.reduceAdd]
    rfl
set_option maxRecDepth 20000 in
theorem dd_X11_apartDraws {c a v : Int32} : WP d mX11_apartDraws 6 [some (.int (nI t)), some (.int (nI k)), some (.int (nI s0)), some (.int (nI s1)), some (.int c), some (.int a), some (.int v)] [] h Q = WP d mX11_apartDraws 6 [some (.int (nI t)), some (.int (nI k)), some (.int (nI s0)), some (.int (nI s1)), some (.int c), some (.int a), none] [] h Q := by
  rw [w_iload5 (M := mX11_apartDraws) dX11_apartDraws_6, w_iload5 (M := mX11_apartDraws) dX11_apartDraws_6]
  simp [w_iload_n2 (M := mX11_apartDraws) dX11_apartDraws_8, w_ic_gt (M := mX11_apartDraws) (tgt := 58) dX11_apartDraws_9 (by decide), w_iconst (M := mX11_apartDraws) (v := 0) dX11_apartDraws_12 rfl, w_istore (M := mX11_apartDraws) dX11_apartDraws_13 (by decide), w_iload4 (M := mX11_apartDraws) dX11_apartDraws_58, w_iret (M := mX11_apartDraws) dX11_apartDraws_60 rfl, Kn_v_, Kn_n_, kl_i_, kl_a_, kl_l_, kl_n_, s1_0_, s2_0_, s1_1, s1_2, s1_3, s1_4, s1_5, s1_6, s1_7, s1_8, s1_9, s1_10, s1_11, s1_12, s1_13, s1_14, s2_1, s2_2, s2_3, s2_4, s2_5, s2_6, s2_7, s2_8, s2_9, s2_10, s2_11, s2_12, s2_13, s2_14, List.map_nil, List.map_cons, List.sum_nil, List.sum_cons, ct_i_, ct_r_, ct_l_, t_si_, t_sl_, t_sr_, n_si_, n_sl_, n_sr_, i_si_, i_sl_, i_sr_, l_si_, l_sl_, l_sr_, r_si_, r_sl_, r_sr_, vr_s_, vr_n_, nz_0_, nz_1_]
set_option maxRecDepth 20000 in
set_option maxHeartbeats 4000000 in
theorem q_X11_apartDraws (ht : t ≤ 60) (hk : k ≤ 60) (h0 : s0 ≤ 24) (h1 : s1 ≤ 24) : Cal d mX11_apartDraws [.int (nI t), .int (nI k), .int (nI s0), .int (nI s1)] h Q = Q (some (.int (nI (dr_all t k s0 s1)))) h := by
  unfold Cal
  rw [l_X11_apartDraws]
  simp only [am_en, am_ag, ct_i, ct_r, ct_l, List.length_cons, List.length_nil, List.replicate]
  simp [w_iconst (M := mX11_apartDraws) (v := 0) dX11_apartDraws_0 rfl, w_istore (M := mX11_apartDraws) dX11_apartDraws_1 (by decide), w_iconst (M := mX11_apartDraws) (v := 0) dX11_apartDraws_3 rfl, w_istore (M := mX11_apartDraws) dX11_apartDraws_4 (by decide), Kn_v_, Kn_n_, kl_i_, kl_a_, kl_l_, kl_n_, s1_0_, s2_0_, s1_1, s1_2, s1_3, s1_4, s1_5, s1_6, s1_7, s1_8, s1_9, s1_10, s1_11, s1_12, s1_13, s1_14, s2_1, s2_2, s2_3, s2_4, s2_5, s2_6, s2_7, s2_8, s2_9, s2_10, s2_11, s2_12, s2_13, s2_14, List.map_nil, List.map_cons, List.sum_nil, List.sum_cons, ct_i_, ct_r_, ct_l_, t_si_, t_sl_, t_sr_, n_si_, n_sl_, n_sr_, i_si_, i_sl_, i_sr_, l_si_, l_sl_, l_sr_, r_si_, r_sl_, r_sr_, vr_s_, vr_n_, nz_0_, nz_1_]
  refine Eq.to_iff ((itr_eq (n := s0 + 1) (f := dr_row t k s1) (I := fun _ _ => True) (G := fun a c => WP d mX11_apartDraws 6 [some (.int (nI t)), some (.int (nI k)), some (.int (nI s0)), some (.int (nI s1)), some (.int (nI c)), some (.int (nI a)), none] [] h Q) (fun _ _ _ _ => trivial) (fun a c hb _ => ?_) (s0 + 1) 0 0 (by omega) trivial).trans ?_)
  · have e1 : (nI s0 < nI a) = False := nI_ltF (by omega) (by omega)
    rw [w_iload5 (M := mX11_apartDraws) dX11_apartDraws_6]
    simp only [w_iload_n2 (M := mX11_apartDraws) dX11_apartDraws_8, w_ic_gt (M := mX11_apartDraws) (tgt := 58) dX11_apartDraws_9 (by decide), w_iconst (M := mX11_apartDraws) (v := 0) dX11_apartDraws_12 rfl, w_istore (M := mX11_apartDraws) dX11_apartDraws_13 (by decide), Kn_v_, Kn_n_, kl_i_, kl_a_, kl_l_, kl_n_, s1_0_, s2_0_, s1_1, s1_2, s1_3, s1_4, s1_5, s1_6, s1_7, s1_8, s1_9, s1_10, s1_11, s1_12, s1_13, s1_14, s2_1, s2_2, s2_3, s2_4, s2_5, s2_6, s2_7, s2_8, s2_9, s2_10, s2_11, s2_12, s2_13, s2_14, List.map_nil, List.map_cons, List.sum_nil, List.sum_cons, ct_i_, ct_r_, ct_l_, t_si_, t_sl_, t_sr_, n_si_, n_sl_, n_sr_, i_si_, i_sl_, i_sr_, l_si_, l_sl_, l_sr_, r_si_, r_sl_, r_sr_, vr_s_, vr_n_, nz_0_, nz_1_, e1, if_false, Nat.reduceAdd]
    rw [show (0 : Int32) = nI 0 from rfl, di_X11_apartDraws ht hk h1 (by omega)]
    simp only [w_iinc5 (M := mX11_apartDraws) (v := 1) dX11_apartDraws_52 rfl (by decide), w_goto (M := mX11_apartDraws) (tgt := 6) dX11_apartDraws_55 (by decide), Kn_v_, Kn_n_, kl_i_, kl_a_, kl_l_, kl_n_, s1_0_, s2_0_, s1_1, s1_2, s1_3, s1_4, s1_5, s1_6, s1_7, s1_8, s1_9, s1_10, s1_11, s1_12, s1_13, s1_14, s2_1, s2_2, s2_3, s2_4, s2_5, s2_6, s2_7, s2_8, s2_9, s2_10, s2_11, s2_12, s2_13, s2_14, List.map_nil, List.map_cons, List.sum_nil, List.sum_cons, ct_i_, ct_r_, ct_l_, t_si_, t_sl_, t_sr_, n_si_, n_sl_, n_sr_, i_si_, i_sl_, i_sr_, l_si_, l_sl_, l_sr_, r_si_, r_sl_, r_sr_, vr_s_, vr_n_, nz_0_, nz_1_, nI_s, Nat.reduceAdd]
    rw [dd_X11_apartDraws]
  · have e1 : (nI s0 < nI (s0 + 1)) = True := nI_ltT (by omega) (by omega)
    rw [w_iload5 (M := mX11_apartDraws) dX11_apartDraws_6]
    simp only [w_iload_n2 (M := mX11_apartDraws) dX11_apartDraws_8, w_ic_gt (M := mX11_apartDraws) (tgt := 58) dX11_apartDraws_9 (by decide), w_iload4 (M := mX11_apartDraws) dX11_apartDraws_58, w_iret (M := mX11_apartDraws) dX11_apartDraws_60 rfl, Kn_v_, Kn_n_, kl_i_, kl_a_, kl_l_, kl_n_, s1_0_, s2_0_, s1_1, s1_2, s1_3, s1_4, s1_5, s1_6, s1_7, s1_8, s1_9, s1_10, s1_11, s1_12, s1_13, s1_14, s2_1, s2_2, s2_3, s2_4, s2_5, s2_6, s2_7, s2_8, s2_9, s2_10, s2_11, s2_12, s2_13, s2_14, List.map_nil, List.map_cons, List.sum_nil, List.sum_cons, ct_i_, ct_r_, ct_l_, t_si_, t_sl_, t_sr_, n_si_, n_sl_, n_sr_, i_si_, i_sl_, i_sr_, l_si_, l_sl_, l_sr_, r_si_, r_sl_, r_sr_, vr_s_, vr_n_, nz_0_, nz_1_, e1, if_true, Nat.reduceAdd]
    rfl
end
section
variable {t k s0 s1 : Nat} (ht : t ≤ 60) (hk : k ≤ 60) (h0 : s0 ≤ 24) (h1 : s1 ≤ 24)
set_option maxRecDepth 20000 in
set_option maxHeartbeats 4000000 in
theorem di_X12_comeApart {a c : Nat} (ht : t ≤ 60) (hk : k ≤ 60) (h1 : s1 ≤ 24) (ha : a ≤ 24) : WP d mX12_comeApart 15 [some (.int (nI t)), some (.int (nI k)), some (.int (nI s0)), some (.int (nI s1)), some (.int (nI c)), some (.int (nI a)), some (.int (nI 0))] [] h Q = WP d mX12_comeApart 59 [some (.int (nI t)), some (.int (nI k)), some (.int (nI s0)), some (.int (nI s1)), some (.int (nI (dr_row t k s1 a c))), some (.int (nI a)), some (.int (nI (s1 + 1)))] [] h Q := by
  refine (itr_eq (n := s1 + 1) (f := dr_in t k a) (I := fun _ _ => True) (G := fun b c => WP d mX12_comeApart 15 [some (.int (nI t)), some (.int (nI k)), some (.int (nI s0)), some (.int (nI s1)), some (.int (nI c)), some (.int (nI a)), some (.int (nI b))] [] h Q) (fun _ _ _ _ => trivial) (fun b c hb _ => ?_) (s1 + 1) 0 c (by omega) trivial).trans ?_
  · have e1 : (nI s1 < nI b) = False := nI_ltF (by omega) (by omega)
    have e2 : (nI b < nI (a + 1) + nI t) = (b < a + 1 + t) := by rw [nI_a, nI_lI (by omega) (by omega)]
    have e3 : (nI a < nI (b + 1) + nI k) = (a < b + 1 + k) := by rw [nI_a, nI_lI (by omega) (by omega)]
    rw [w_iload6 (M := mX12_comeApart) dX12_comeApart_15]
    simp only [w_iconst (M := mX12_comeApart) (v := 0) dX12_comeApart_0 rfl, w_istore (M := mX12_comeApart) dX12_comeApart_1 (by decide), w_iconst (M := mX12_comeApart) (v := 0) dX12_comeApart_3 rfl, w_istore (M := mX12_comeApart) dX12_comeApart_4 (by decide), w_iload_n2 (M := mX12_comeApart) dX12_comeApart_8, w_ic_gt (M := mX12_comeApart) (tgt := 65) dX12_comeApart_9 (by decide), w_iconst (M := mX12_comeApart) (v := 0) dX12_comeApart_12 rfl, w_istore (M := mX12_comeApart) dX12_comeApart_13 (by decide), w_iload_n3 (M := mX12_comeApart) dX12_comeApart_17, w_ic_gt (M := mX12_comeApart) (tgt := 59) dX12_comeApart_18 (by decide), w_iload4 (M := mX12_comeApart) dX12_comeApart_21, w_iload5 (M := mX12_comeApart) dX12_comeApart_23, w_iconst (M := mX12_comeApart) (v := 1) dX12_comeApart_25 rfl, w_iadd (M := mX12_comeApart) dX12_comeApart_26, w_iload_n0 (M := mX12_comeApart) dX12_comeApart_27, w_iadd (M := mX12_comeApart) dX12_comeApart_28, w_iload6 (M := mX12_comeApart) dX12_comeApart_29, w_ic_le (M := mX12_comeApart) (tgt := 45) dX12_comeApart_31 (by decide), w_iload6 (M := mX12_comeApart) dX12_comeApart_34, w_iconst (M := mX12_comeApart) (v := 1) dX12_comeApart_36 rfl, w_iadd (M := mX12_comeApart) dX12_comeApart_37, w_iload_n1 (M := mX12_comeApart) dX12_comeApart_38, w_iadd (M := mX12_comeApart) dX12_comeApart_39, w_iload5 (M := mX12_comeApart) dX12_comeApart_40, w_ic_gt (M := mX12_comeApart) (tgt := 49) dX12_comeApart_42 (by decide), w_iconst (M := mX12_comeApart) (v := 1) dX12_comeApart_45 rfl, w_goto (M := mX12_comeApart) (tgt := 50) dX12_comeApart_46 (by decide), w_iconst (M := mX12_comeApart) (v := 0) dX12_comeApart_49 rfl, w_iadd (M := mX12_comeApart) dX12_comeApart_50, w_istore (M := mX12_comeApart) dX12_comeApart_51 (by decide), w_iinc6 (M := mX12_comeApart) (v := 1) dX12_comeApart_53 rfl (by decide), w_goto (M := mX12_comeApart) (tgt := 15) dX12_comeApart_56 (by decide), w_iinc5 (M := mX12_comeApart) (v := 1) dX12_comeApart_59 rfl (by decide), w_goto (M := mX12_comeApart) (tgt := 6) dX12_comeApart_62 (by decide), w_iload4 (M := mX12_comeApart) dX12_comeApart_65, w_iret (M := mX12_comeApart) dX12_comeApart_67 rfl, Kn_v_, Kn_n_, kl_i_, kl_a_, kl_l_, kl_n_, s1_0_, s2_0_, s1_1, s1_2, s1_3, s1_4, s1_5, s1_6, s1_7, s1_8, s1_9, s1_10, s1_11, s1_12, s1_13, s1_14, s2_1, s2_2, s2_3, s2_4, s2_5, s2_6, s2_7, s2_8, s2_9, s2_10, s2_11, s2_12, s2_13, s2_14, List.map_nil, List.map_cons, List.sum_nil, List.sum_cons, ct_i_, ct_r_, ct_l_, t_si_, t_sl_, t_sr_, n_si_, n_sl_, n_sr_, i_si_, i_sl_, i_sr_, l_si_, l_sl_, l_sr_, r_si_, r_sl_, r_sr_, vr_s_, vr_n_, nz_0_, nz_1_, e1, e2, e3, nI_s, if_false, Nat.reduceAdd, Int32.add_zero]
    unfold dr_in
    by_cases q1 : b < a + 1 + t
    · by_cases q2 : a < b + 1 + k
      · rw [if_pos q1, if_pos q2, if_neg (by omega)]
      · rw [if_pos q1, if_neg q2, if_pos (by omega)]
    · rw [if_neg q1, if_pos (by omega)]
  · have e1 : (nI s1 < nI (s1 + 1)) = True := nI_ltT (by omega) (by omega)
    rw [w_iload6 (M := mX12_comeApart) dX12_comeApart_15]
    simp only [w_iload_n3 (M := mX12_comeApart) dX12_comeApart_17, w_ic_gt (M := mX12_comeApart) (tgt := 59) dX12_comeApart_18 (by decide), Kn_v_, Kn_n_, kl_i_, kl_a_, kl_l_, kl_n_, s1_0_, s2_0_, s1_1, s1_2, s1_3, s1_4, s1_5, s1_6, s1_7, s1_8, s1_9, s1_10, s1_11, s1_12, s1_13, s1_14, s2_1, s2_2, s2_3, s2_4, s2_5, s2_6, s2_7, s2_8, s2_9, s2_10, s2_11, s2_12, s2_13, s2_14, List.map_nil, List.map_cons, List.sum_nil, List.sum_cons, ct_i_, ct_r_, ct_l_, t_si_, t_sl_, t_sr_, n_si_, n_sl_, n_sr_, i_si_, i_sl_, i_sr_, l_si_, l_sl_, l_sr_, r_si_, r_sl_, r_sr_, vr_s_, vr_n_, nz_0_, nz_1_, e1, if_true, Nat.reduceAdd]
    rfl
set_option maxRecDepth 20000 in
theorem dd_X12_comeApart {c a v : Int32} : WP d mX12_comeApart 6 [some (.int (nI t)), some (.int (nI k)), some (.int (nI s0)), some (.int (nI s1)), some (.int c), some (.int a), some (.int v)] [] h Q = WP d mX12_comeApart 6 [some (.int (nI t)), some (.int (nI k)), some (.int (nI s0)), some (.int (nI s1)), some (.int c), some (.int a), none] [] h Q := by
  rw [w_iload5 (M := mX12_comeApart) dX12_comeApart_6, w_iload5 (M := mX12_comeApart) dX12_comeApart_6]
  simp [w_iload_n2 (M := mX12_comeApart) dX12_comeApart_8, w_ic_gt (M := mX12_comeApart) (tgt := 65) dX12_comeApart_9 (by decide), w_iconst (M := mX12_comeApart) (v := 0) dX12_comeApart_12 rfl, w_istore (M := mX12_comeApart) dX12_comeApart_13 (by decide), w_iload4 (M := mX12_comeApart) dX12_comeApart_65, w_iret (M := mX12_comeApart) dX12_comeApart_67 rfl, Kn_v_, Kn_n_, kl_i_, kl_a_, kl_l_, kl_n_, s1_0_, s2_0_, s1_1, s1_2, s1_3, s1_4, s1_5, s1_6, s1_7, s1_8, s1_9, s1_10, s1_11, s1_12, s1_13, s1_14, s2_1, s2_2, s2_3, s2_4, s2_5, s2_6, s2_7, s2_8, s2_9, s2_10, s2_11, s2_12, s2_13, s2_14, List.map_nil, List.map_cons, List.sum_nil, List.sum_cons, ct_i_, ct_r_, ct_l_, t_si_, t_sl_, t_sr_, n_si_, n_sl_, n_sr_, i_si_, i_sl_, i_sr_, l_si_, l_sl_, l_sr_, r_si_, r_sl_, r_sr_, vr_s_, vr_n_, nz_0_, nz_1_]
set_option maxRecDepth 20000 in
set_option maxHeartbeats 4000000 in
theorem q_X12_comeApart (ht : t ≤ 60) (hk : k ≤ 60) (h0 : s0 ≤ 24) (h1 : s1 ≤ 24) : Cal d mX12_comeApart [.int (nI t), .int (nI k), .int (nI s0), .int (nI s1)] h Q = Q (some (.int (nI (dr_all t k s0 s1)))) h := by
  unfold Cal
  rw [l_X12_comeApart]
  simp only [am_en, am_ag, ct_i, ct_r, ct_l, List.length_cons, List.length_nil, List.replicate]
  simp [w_iconst (M := mX12_comeApart) (v := 0) dX12_comeApart_0 rfl, w_istore (M := mX12_comeApart) dX12_comeApart_1 (by decide), w_iconst (M := mX12_comeApart) (v := 0) dX12_comeApart_3 rfl, w_istore (M := mX12_comeApart) dX12_comeApart_4 (by decide), Kn_v_, Kn_n_, kl_i_, kl_a_, kl_l_, kl_n_, s1_0_, s2_0_, s1_1, s1_2, s1_3, s1_4, s1_5, s1_6, s1_7, s1_8, s1_9, s1_10, s1_11, s1_12, s1_13, s1_14, s2_1, s2_2, s2_3, s2_4, s2_5, s2_6, s2_7, s2_8, s2_9, s2_10, s2_11, s2_12, s2_13, s2_14, List.map_nil, List.map_cons, List.sum_nil, List.sum_cons, ct_i_, ct_r_, ct_l_, t_si_, t_sl_, t_sr_, n_si_, n_sl_, n_sr_, i_si_, i_sl_, i_sr_, l_si_, l_sl_, l_sr_, r_si_, r_sl_, r_sr_, vr_s_, vr_n_, nz_0_, nz_1_]
  refine Eq.to_iff ((itr_eq (n := s0 + 1) (f := dr_row t k s1) (I := fun _ _ => True) (G := fun a c => WP d mX12_comeApart 6 [some (.int (nI t)), some (.int (nI k)), some (.int (nI s0)), some (.int (nI s1)), some (.int (nI c)), some (.int (nI a)), none] [] h Q) (fun _ _ _ _ => trivial) (fun a c hb _ => ?_) (s0 + 1) 0 0 (by omega) trivial).trans ?_)
  · have e1 : (nI s0 < nI a) = False := nI_ltF (by omega) (by omega)
    rw [w_iload5 (M := mX12_comeApart) dX12_comeApart_6]
    simp only [w_iload_n2 (M := mX12_comeApart) dX12_comeApart_8, w_ic_gt (M := mX12_comeApart) (tgt := 65) dX12_comeApart_9 (by decide), w_iconst (M := mX12_comeApart) (v := 0) dX12_comeApart_12 rfl, w_istore (M := mX12_comeApart) dX12_comeApart_13 (by decide), Kn_v_, Kn_n_, kl_i_, kl_a_, kl_l_, kl_n_, s1_0_, s2_0_, s1_1, s1_2, s1_3, s1_4, s1_5, s1_6, s1_7, s1_8, s1_9, s1_10, s1_11, s1_12, s1_13, s1_14, s2_1, s2_2, s2_3, s2_4, s2_5, s2_6, s2_7, s2_8, s2_9, s2_10, s2_11, s2_12, s2_13, s2_14, List.map_nil, List.map_cons, List.sum_nil, List.sum_cons, ct_i_, ct_r_, ct_l_, t_si_, t_sl_, t_sr_, n_si_, n_sl_, n_sr_, i_si_, i_sl_, i_sr_, l_si_, l_sl_, l_sr_, r_si_, r_sl_, r_sr_, vr_s_, vr_n_, nz_0_, nz_1_, e1, if_false, Nat.reduceAdd]
    rw [show (0 : Int32) = nI 0 from rfl, di_X12_comeApart ht hk h1 (by omega)]
    simp only [w_iinc5 (M := mX12_comeApart) (v := 1) dX12_comeApart_59 rfl (by decide), w_goto (M := mX12_comeApart) (tgt := 6) dX12_comeApart_62 (by decide), Kn_v_, Kn_n_, kl_i_, kl_a_, kl_l_, kl_n_, s1_0_, s2_0_, s1_1, s1_2, s1_3, s1_4, s1_5, s1_6, s1_7, s1_8, s1_9, s1_10, s1_11, s1_12, s1_13, s1_14, s2_1, s2_2, s2_3, s2_4, s2_5, s2_6, s2_7, s2_8, s2_9, s2_10, s2_11, s2_12, s2_13, s2_14, List.map_nil, List.map_cons, List.sum_nil, List.sum_cons, ct_i_, ct_r_, ct_l_, t_si_, t_sl_, t_sr_, n_si_, n_sl_, n_sr_, i_si_, i_sl_, i_sr_, l_si_, l_sl_, l_sr_, r_si_, r_sl_, r_sr_, vr_s_, vr_n_, nz_0_, nz_1_, nI_s, Nat.reduceAdd]
    rw [dd_X12_comeApart]
  · have e1 : (nI s0 < nI (s0 + 1)) = True := nI_ltT (by omega) (by omega)
    rw [w_iload5 (M := mX12_comeApart) dX12_comeApart_6]
    simp only [w_iload_n2 (M := mX12_comeApart) dX12_comeApart_8, w_ic_gt (M := mX12_comeApart) (tgt := 65) dX12_comeApart_9 (by decide), w_iload4 (M := mX12_comeApart) dX12_comeApart_65, w_iret (M := mX12_comeApart) dX12_comeApart_67 rfl, Kn_v_, Kn_n_, kl_i_, kl_a_, kl_l_, kl_n_, s1_0_, s2_0_, s1_1, s1_2, s1_3, s1_4, s1_5, s1_6, s1_7, s1_8, s1_9, s1_10, s1_11, s1_12, s1_13, s1_14, s2_1, s2_2, s2_3, s2_4, s2_5, s2_6, s2_7, s2_8, s2_9, s2_10, s2_11, s2_12, s2_13, s2_14, List.map_nil, List.map_cons, List.sum_nil, List.sum_cons, ct_i_, ct_r_, ct_l_, t_si_, t_sl_, t_sr_, n_si_, n_sl_, n_sr_, i_si_, i_sl_, i_sr_, l_si_, l_sl_, l_sr_, r_si_, r_sl_, r_sr_, vr_s_, vr_n_, nz_0_, nz_1_, e1, if_true, Nat.reduceAdd]
    rfl
end
end DRAW
