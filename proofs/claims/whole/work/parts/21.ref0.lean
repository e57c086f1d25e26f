/-! small words for contracts -/
section REF0
variable {d : Nat} {h : am_h} {Q : Option Value → am_h → Prop}
def inn (v lo hi : Int32) : Bool := decide (lo ≤ v) && decide (v ≤ hi)
theorem inn_if {α : Type} {v lo hi : Int32} {a b : α} : (if v < lo then b else if hi < v then b else a) = if inn v lo hi = true then a else b := by
  unfold inn
  by_cases h1 : v < lo
  · rw [if_pos h1, if_neg (fun z => by simp only [Bool.and_eq_true, decide_eq_true_eq] at z; exact Int32.not_le.mpr h1 z.1)]
  · rw [if_neg h1]
    by_cases h2 : hi < v
    · rw [if_pos h2, if_neg (fun z => by simp only [Bool.and_eq_true, decide_eq_true_eq] at z; exact Int32.not_le.mpr h2 z.2)]
    · rw [if_neg h2, if_pos (by simp only [Bool.and_eq_true, decide_eq_true_eq]; exact ⟨Int32.not_lt.mp h1, Int32.not_lt.mp h2⟩)]
/-- a truth as an int -/
def bI (b : Bool) : Int32 := if b = true then 1 else 0
theorem bI_0 {b : Bool} : (bI b = 0) = (b = false) := by cases b <;> decide
theorem bI_n {b : Bool} : narrow .boolean (.int (bI b)) = .int (bI b) := by cases b <;> rfl
theorem bI_if {β : Sort _} {b : Bool} {f : Int32 → β} : (if b = true then f 1 else f 0) = f (bI b) := by cases b <;> rfl
theorem bI_t : bI true = 1 := rfl
theorem bI_f : bI false = 0 := rfl
theorem q_X12_in {v0 v1 v2 : Int32} : Cal d mX12_in [.int v0, .int v1, .int v2] h Q = Q (some (.int (bI (inn v0 v1 v2)))) h := by
  unfold Cal
  rw [l_X12_in]
  simp only [am_en, am_ag, ct_i, ct_r, List.length_cons, List.length_nil, List.replicate]
  refine Eq.trans (b := if v0 < v1 then Q (some (.int 0)) h else if v2 < v0 then Q (some (.int 0)) h else Q (some (.int 1)) h) (by simp [w_iload_n0 (M := mX12_in) dX12_in_0, w_iload_n1 (M := mX12_in) dX12_in_1, w_ic_lt (M := mX12_in) (tgt := 14) dX12_in_2 (by decide), w_iload_n0 (M := mX12_in) dX12_in_5, w_iload_n2 (M := mX12_in) dX12_in_6, w_ic_gt (M := mX12_in) (tgt := 14) dX12_in_7 (by decide), w_iconst (M := mX12_in) (v := 1) dX12_in_10 rfl, w_goto (M := mX12_in) (tgt := 15) dX12_in_11 (by decide), w_iconst (M := mX12_in) (v := 0) dX12_in_14 rfl, w_ireturn (M := mX12_in) dX12_in_15 rfl, Kn_v_, Kn_n_, kl_i_, kl_a_, kl_l_, kl_n_, s1_0_, s2_0_, s1_1, s1_2, s1_3, s1_4, s1_5, s1_6, s1_7, s1_8, s1_9, s1_10, s1_11, s1_12, s1_13, s1_14, s2_1, s2_2, s2_3, s2_4, s2_5, s2_6, s2_7, s2_8, s2_9, s2_10, s2_11, s2_12, s2_13, s2_14, List.map_nil, List.map_cons, List.sum_nil, List.sum_cons, ct_i_, ct_r_, ct_l_, t_si_, t_sl_, t_sr_, n_si_, n_sl_, n_sr_, i_si_, i_sl_, i_sr_, l_si_, l_sl_, l_sr_, r_si_, r_sl_, r_sr_, vr_s_, vr_n_, nz_0_, nz_1_]) ?_
  rw [inn_if]
  exact bI_if (f := fun x => Q (some (.int x)) h)
theorem q_X11_within {v0 v1 v2 : Int32} : Cal d mX11_within [.int v0, .int v1, .int v2] h Q = Q (some (.int (bI (inn v0 v1 v2)))) h := by
  unfold Cal
  rw [l_X11_within]
  simp only [am_en, am_ag, ct_i, ct_r, List.length_cons, List.length_nil, List.replicate]
  refine Eq.trans (b := if v0 < v1 then Q (some (.int 0)) h else if v2 < v0 then Q (some (.int 0)) h else Q (some (.int 1)) h) (by simp [w_iload_n1 (M := mX11_within) dX11_within_0, w_iload_n0 (M := mX11_within) dX11_within_1, w_ic_gt (M := mX11_within) (tgt := 14) dX11_within_2 (by decide), w_iload_n0 (M := mX11_within) dX11_within_5, w_iload_n2 (M := mX11_within) dX11_within_6, w_ic_gt (M := mX11_within) (tgt := 14) dX11_within_7 (by decide), w_iconst (M := mX11_within) (v := 1) dX11_within_10 rfl, w_goto (M := mX11_within) (tgt := 15) dX11_within_11 (by decide), w_iconst (M := mX11_within) (v := 0) dX11_within_14 rfl, w_ireturn (M := mX11_within) dX11_within_15 rfl, Kn_v_, Kn_n_, kl_i_, kl_a_, kl_l_, kl_n_, s1_0_, s2_0_, s1_1, s1_2, s1_3, s1_4, s1_5, s1_6, s1_7, s1_8, s1_9, s1_10, s1_11, s1_12, s1_13, s1_14, s2_1, s2_2, s2_3, s2_4, s2_5, s2_6, s2_7, s2_8, s2_9, s2_10, s2_11, s2_12, s2_13, s2_14, List.map_nil, List.map_cons, List.sum_nil, List.sum_cons, ct_i_, ct_r_, ct_l_, t_si_, t_sl_, t_sr_, n_si_, n_sl_, n_sr_, i_si_, i_sl_, i_sr_, l_si_, l_sl_, l_sr_, r_si_, r_sl_, r_sr_, vr_s_, vr_n_, nz_0_, nz_1_]) ?_
  rw [inn_if]
  exact bI_if (f := fun x => Q (some (.int x)) h)
end REF0
