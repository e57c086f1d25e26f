/-! laws: reckoning, on both sides -/
section LAWS1
theorem lc_eq {x y : Int64} : (lg_cmp x y = 0) = (x = y) := by
  unfold lg_cmp
  by_cases h1 : x > y
  · have : ¬ x = y := by
      intro e
      subst e
      exact absurd h1 (Int64.lt_irrefl)
    simp [h1, this]
  · by_cases h2 : x = y
    · subst h2; simp [Int64.lt_irrefl]
    · simp [h1, h2]
variable {d : Nat} {h : am_h} {Q : Option Value → am_h → Prop} {x y : Int64}
/-- within a million -/
def mil (v : Int64) : Int64 := if (if v < 1000000 then v else 1000000) < -1000000 then -1000000 else (if v < 1000000 then v else 1000000)
def rkF (op : Nat) (x y : Int64) : Int64 := match op with
  | 6 => mil (x + y)
  | 7 => mil (x - y)
  | 8 => mil (x * y)
  | _ => mil (if y = 0 then 0 else x / y)
set_option maxRecDepth 20000 in
set_option maxHeartbeats 1000000 in
theorem q_reckon {op : Nat} (ho : 6 ≤ op ∧ op < 10) : Cal d mX4_reckon [.int (nI op), .long x, .long y] h Q = Q (some (.int (rkF op x y).toInt32)) h := by
  unfold Cal
  rw [l_X4_reckon]
  simp only [am_en, am_ag, ct_i, ct_r, ct_l, List.length_cons, List.length_nil, List.replicate]
  have : op = 6 ∨ op = 7 ∨ op = 8 ∨ op = 9 := by omega
  rcases this with rfl | rfl | rfl | rfl
  · simp only [show nI 6 = 6 from rfl, rkF]
    simp [w_iload_n0 (M := mX4_reckon) dX4_reckon_0, sw_X4_reckon_1, w_lload_n1 (M := mX4_reckon) dX4_reckon_28, w_lload_n3 (M := mX4_reckon) dX4_reckon_29, w_ladd (M := mX4_reckon) dX4_reckon_30, w_lstore (M := mX4_reckon) dX4_reckon_31 (by decide), w_goto (M := mX4_reckon) (tgt := 67) dX4_reckon_33 (by decide), w_lload_n1 (M := mX4_reckon) dX4_reckon_36, w_lload_n3 (M := mX4_reckon) dX4_reckon_37, w_lsub (M := mX4_reckon) dX4_reckon_38, w_lstore (M := mX4_reckon) dX4_reckon_39 (by decide), w_goto (M := mX4_reckon) (tgt := 67) dX4_reckon_41 (by decide), w_lload_n1 (M := mX4_reckon) dX4_reckon_44, w_lload_n3 (M := mX4_reckon) dX4_reckon_45, w_lmul (M := mX4_reckon) dX4_reckon_46, w_lstore (M := mX4_reckon) dX4_reckon_47 (by decide), w_goto (M := mX4_reckon) (tgt := 67) dX4_reckon_49 (by decide), w_lload_n3 (M := mX4_reckon) dX4_reckon_52, w_lconst (M := mX4_reckon) (v := 0) dX4_reckon_53 rfl, w_lcmp (M := mX4_reckon) dX4_reckon_54, w_if_ne (M := mX4_reckon) (tgt := 62) dX4_reckon_55 (by decide), w_lconst (M := mX4_reckon) (v := 0) dX4_reckon_58 rfl, w_goto (M := mX4_reckon) (tgt := 65) dX4_reckon_59 (by decide), w_lload_n1 (M := mX4_reckon) dX4_reckon_62, w_lload_n3 (M := mX4_reckon) dX4_reckon_63, w_ldiv (M := mX4_reckon) dX4_reckon_64, w_lstore (M := mX4_reckon) dX4_reckon_65 (by decide), w_ldc2 (M := mX4_reckon) dX4_reckon_67 j_4_116, w_ldc2 (M := mX4_reckon) dX4_reckon_70 j_4_118, w_lload5 (M := mX4_reckon) dX4_reckon_73, w_mnl (M := mX4_reckon) dX4_reckon_75 lk_4_120, w_mxl (M := mX4_reckon) dX4_reckon_78 lk_4_123, w_l2i (M := mX4_reckon) dX4_reckon_81, w_iret (M := mX4_reckon) dX4_reckon_82 rfl, Kn_v_, Kn_n_, kl_i_, kl_a_, kl_l_, kl_n_, s1_0_, s2_0_, s1_1, s1_2, s1_3, s1_4, s1_5, s1_6, s1_7, s1_8, s1_9, s1_10, s1_11, s1_12, s1_13, s1_14, s2_1, s2_2, s2_3, s2_4, s2_5, s2_6, s2_7, s2_8, s2_9, s2_10, s2_11, s2_12, s2_13, s2_14, List.map_nil, List.map_cons, List.sum_nil, List.sum_cons, ct_i_, ct_r_, ct_l_, t_si_, t_sl_, t_sr_, n_si_, n_sl_, n_sr_, i_si_, i_sl_, i_sr_, l_si_, l_sl_, l_sr_, r_si_, r_sl_, r_sr_, vr_s_, vr_n_, nz_0_, nz_1_, mil]
  · simp only [show nI 7 = 7 from rfl, rkF]
    simp [w_iload_n0 (M := mX4_reckon) dX4_reckon_0, sw_X4_reckon_1, w_lload_n1 (M := mX4_reckon) dX4_reckon_28, w_lload_n3 (M := mX4_reckon) dX4_reckon_29, w_ladd (M := mX4_reckon) dX4_reckon_30, w_lstore (M := mX4_reckon) dX4_reckon_31 (by decide), w_goto (M := mX4_reckon) (tgt := 67) dX4_reckon_33 (by decide), w_lload_n1 (M := mX4_reckon) dX4_reckon_36, w_lload_n3 (M := mX4_reckon) dX4_reckon_37, w_lsub (M := mX4_reckon) dX4_reckon_38, w_lstore (M := mX4_reckon) dX4_reckon_39 (by decide), w_goto (M := mX4_reckon) (tgt := 67) dX4_reckon_41 (by decide), w_lload_n1 (M := mX4_reckon) dX4_reckon_44, w_lload_n3 (M := mX4_reckon) dX4_reckon_45, w_lmul (M := mX4_reckon) dX4_reckon_46, w_lstore (M := mX4_reckon) dX4_reckon_47 (by decide), w_goto (M := mX4_reckon) (tgt := 67) dX4_reckon_49 (by decide), w_lload_n3 (M := mX4_reckon) dX4_reckon_52, w_lconst (M := mX4_reckon) (v := 0) dX4_reckon_53 rfl, w_lcmp (M := mX4_reckon) dX4_reckon_54, w_if_ne (M := mX4_reckon) (tgt := 62) dX4_reckon_55 (by decide), w_lconst (M := mX4_reckon) (v := 0) dX4_reckon_58 rfl, w_goto (M := mX4_reckon) (tgt := 65) dX4_reckon_59 (by decide), w_lload_n1 (M := mX4_reckon) dX4_reckon_62, w_lload_n3 (M := mX4_reckon) dX4_reckon_63, w_ldiv (M := mX4_reckon) dX4_reckon_64, w_lstore (M := mX4_reckon) dX4_reckon_65 (by decide), w_ldc2 (M := mX4_reckon) dX4_reckon_67 j_4_116, w_ldc2 (M := mX4_reckon) dX4_reckon_70 j_4_118, w_lload5 (M := mX4_reckon) dX4_reckon_73, w_mnl (M := mX4_reckon) dX4_reckon_75 lk_4_120, w_mxl (M := mX4_reckon) dX4_reckon_78 lk_4_123, w_l2i (M := mX4_reckon) dX4_reckon_81, w_iret (M := mX4_reckon) dX4_reckon_82 rfl, Kn_v_, Kn_n_, kl_i_, kl_a_, kl_l_, kl_n_, s1_0_, s2_0_, s1_1, s1_2, s1_3, s1_4, s1_5, s1_6, s1_7, s1_8, s1_9, s1_10, s1_11, s1_12, s1_13, s1_14, s2_1, s2_2, s2_3, s2_4, s2_5, s2_6, s2_7, s2_8, s2_9, s2_10, s2_11, s2_12, s2_13, s2_14, List.map_nil, List.map_cons, List.sum_nil, List.sum_cons, ct_i_, ct_r_, ct_l_, t_si_, t_sl_, t_sr_, n_si_, n_sl_, n_sr_, i_si_, i_sl_, i_sr_, l_si_, l_sl_, l_sr_, r_si_, r_sl_, r_sr_, vr_s_, vr_n_, nz_0_, nz_1_, mil]
  · simp only [show nI 8 = 8 from rfl, rkF]
    simp [w_iload_n0 (M := mX4_reckon) dX4_reckon_0, sw_X4_reckon_1, w_lload_n1 (M := mX4_reckon) dX4_reckon_28, w_lload_n3 (M := mX4_reckon) dX4_reckon_29, w_ladd (M := mX4_reckon) dX4_reckon_30, w_lstore (M := mX4_reckon) dX4_reckon_31 (by decide), w_goto (M := mX4_reckon) (tgt := 67) dX4_reckon_33 (by decide), w_lload_n1 (M := mX4_reckon) dX4_reckon_36, w_lload_n3 (M := mX4_reckon) dX4_reckon_37, w_lsub (M := mX4_reckon) dX4_reckon_38, w_lstore (M := mX4_reckon) dX4_reckon_39 (by decide), w_goto (M := mX4_reckon) (tgt := 67) dX4_reckon_41 (by decide), w_lload_n1 (M := mX4_reckon) dX4_reckon_44, w_lload_n3 (M := mX4_reckon) dX4_reckon_45, w_lmul (M := mX4_reckon) dX4_reckon_46, w_lstore (M := mX4_reckon) dX4_reckon_47 (by decide), w_goto (M := mX4_reckon) (tgt := 67) dX4_reckon_49 (by decide), w_lload_n3 (M := mX4_reckon) dX4_reckon_52, w_lconst (M := mX4_reckon) (v := 0) dX4_reckon_53 rfl, w_lcmp (M := mX4_reckon) dX4_reckon_54, w_if_ne (M := mX4_reckon) (tgt := 62) dX4_reckon_55 (by decide), w_lconst (M := mX4_reckon) (v := 0) dX4_reckon_58 rfl, w_goto (M := mX4_reckon) (tgt := 65) dX4_reckon_59 (by decide), w_lload_n1 (M := mX4_reckon) dX4_reckon_62, w_lload_n3 (M := mX4_reckon) dX4_reckon_63, w_ldiv (M := mX4_reckon) dX4_reckon_64, w_lstore (M := mX4_reckon) dX4_reckon_65 (by decide), w_ldc2 (M := mX4_reckon) dX4_reckon_67 j_4_116, w_ldc2 (M := mX4_reckon) dX4_reckon_70 j_4_118, w_lload5 (M := mX4_reckon) dX4_reckon_73, w_mnl (M := mX4_reckon) dX4_reckon_75 lk_4_120, w_mxl (M := mX4_reckon) dX4_reckon_78 lk_4_123, w_l2i (M := mX4_reckon) dX4_reckon_81, w_iret (M := mX4_reckon) dX4_reckon_82 rfl, Kn_v_, Kn_n_, kl_i_, kl_a_, kl_l_, kl_n_, s1_0_, s2_0_, s1_1, s1_2, s1_3, s1_4, s1_5, s1_6, s1_7, s1_8, s1_9, s1_10, s1_11, s1_12, s1_13, s1_14, s2_1, s2_2, s2_3, s2_4, s2_5, s2_6, s2_7, s2_8, s2_9, s2_10, s2_11, s2_12, s2_13, s2_14, List.map_nil, List.map_cons, List.sum_nil, List.sum_cons, ct_i_, ct_r_, ct_l_, t_si_, t_sl_, t_sr_, n_si_, n_sl_, n_sr_, i_si_, i_sl_, i_sr_, l_si_, l_sl_, l_sr_, r_si_, r_sl_, r_sr_, vr_s_, vr_n_, nz_0_, nz_1_, mil]
  · simp only [show nI 9 = 9 from rfl, rkF]
    by_cases c : y = 0 <;> simp [w_iload_n0 (M := mX4_reckon) dX4_reckon_0, sw_X4_reckon_1, w_lload_n1 (M := mX4_reckon) dX4_reckon_28, w_lload_n3 (M := mX4_reckon) dX4_reckon_29, w_ladd (M := mX4_reckon) dX4_reckon_30, w_lstore (M := mX4_reckon) dX4_reckon_31 (by decide), w_goto (M := mX4_reckon) (tgt := 67) dX4_reckon_33 (by decide), w_lload_n1 (M := mX4_reckon) dX4_reckon_36, w_lload_n3 (M := mX4_reckon) dX4_reckon_37, w_lsub (M := mX4_reckon) dX4_reckon_38, w_lstore (M := mX4_reckon) dX4_reckon_39 (by decide), w_goto (M := mX4_reckon) (tgt := 67) dX4_reckon_41 (by decide), w_lload_n1 (M := mX4_reckon) dX4_reckon_44, w_lload_n3 (M := mX4_reckon) dX4_reckon_45, w_lmul (M := mX4_reckon) dX4_reckon_46, w_lstore (M := mX4_reckon) dX4_reckon_47 (by decide), w_goto (M := mX4_reckon) (tgt := 67) dX4_reckon_49 (by decide), w_lload_n3 (M := mX4_reckon) dX4_reckon_52, w_lconst (M := mX4_reckon) (v := 0) dX4_reckon_53 rfl, w_lcmp (M := mX4_reckon) dX4_reckon_54, w_if_ne (M := mX4_reckon) (tgt := 62) dX4_reckon_55 (by decide), w_lconst (M := mX4_reckon) (v := 0) dX4_reckon_58 rfl, w_goto (M := mX4_reckon) (tgt := 65) dX4_reckon_59 (by decide), w_lload_n1 (M := mX4_reckon) dX4_reckon_62, w_lload_n3 (M := mX4_reckon) dX4_reckon_63, w_ldiv (M := mX4_reckon) dX4_reckon_64, w_lstore (M := mX4_reckon) dX4_reckon_65 (by decide), w_ldc2 (M := mX4_reckon) dX4_reckon_67 j_4_116, w_ldc2 (M := mX4_reckon) dX4_reckon_70 j_4_118, w_lload5 (M := mX4_reckon) dX4_reckon_73, w_mnl (M := mX4_reckon) dX4_reckon_75 lk_4_120, w_mxl (M := mX4_reckon) dX4_reckon_78 lk_4_123, w_l2i (M := mX4_reckon) dX4_reckon_81, w_iret (M := mX4_reckon) dX4_reckon_82 rfl, Kn_v_, Kn_n_, kl_i_, kl_a_, kl_l_, kl_n_, s1_0_, s2_0_, s1_1, s1_2, s1_3, s1_4, s1_5, s1_6, s1_7, s1_8, s1_9, s1_10, s1_11, s1_12, s1_13, s1_14, s2_1, s2_2, s2_3, s2_4, s2_5, s2_6, s2_7, s2_8, s2_9, s2_10, s2_11, s2_12, s2_13, s2_14, List.map_nil, List.map_cons, List.sum_nil, List.sum_cons, ct_i_, ct_r_, ct_l_, t_si_, t_sl_, t_sr_, n_si_, n_sl_, n_sr_, i_si_, i_sl_, i_sr_, l_si_, l_sl_, l_sr_, r_si_, r_sl_, r_sr_, vr_s_, vr_n_, nz_0_, nz_1_, mil, c, lc_eq]
theorem l_lt {a b : Int64} : (a < b) = (a.toInt < b.toInt) := propext Int64.lt_iff_toInt_lt
theorem mil_b {z : Int64} : -1000000 ≤ (mil z).toInt ∧ (mil z).toInt ≤ 1000000 := by
  have c1 : (1000000 : Int64).toInt = 1000000 := by decide
  have c2 : (-1000000 : Int64).toInt = -1000000 := by decide
  unfold mil
  simp only [l_lt, c1, c2]
  split <;> (try split) <;> omega
theorem mil_e {z : Int64} : (if (1000000 : Int64) < z then (1000000 : Int64) else if z < -1000000 then -1000000 else z) = mil z := by
  have c1 : (1000000 : Int64).toInt = 1000000 := by decide
  have c2 : (-1000000 : Int64).toInt = -1000000 := by decide
  apply Int64.toInt_inj.mp
  unfold mil
  simp only [l_lt, c1, c2]
  repeat' split
  all_goals (try simp only [c1, c2] at *)
  all_goals omega
theorem i64_32 {w : Int64} (k : -1000000 ≤ w.toInt ∧ w.toInt ≤ 1000000) : w.toInt32.toInt64 = w := by
  apply Int64.toInt_inj.mp
  rw [Int32.toInt_toInt64, Int64.toInt_toInt32, Int.bmod_eq_of_le (by omega) (by omega)]
/-- what a word of two values makes -/
def valF (op : Nat) (x y : Int32) : Int32 := if op < 10 then (rkF op x.toInt64 y.toInt64).toInt32 else askF op x y
def inM (x : Int32) : Prop := -1000000 ≤ x.toInt ∧ x.toInt ≤ 1000000
theorem l32_lt {x y : Int32} : (x.toInt64 < y.toInt64) = (x < y) := by rw [l_lt, i_lt, Int32.toInt_toInt64, Int32.toInt_toInt64]
theorem l32_eq {x y : Int32} : (x.toInt64 = y.toInt64) = (x = y) := by
  apply propext
  constructor
  · intro e
    have := congrArg Int64.toInt e
    rw [Int32.toInt_toInt64, Int32.toInt_toInt64] at this
    exact Int32.toInt_inj.mp this
  · intro e; rw [e]
end LAWS1
