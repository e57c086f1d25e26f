/-! forPence: both sides alike -/
section FORP
variable {X : PX} {d : Nat} {h : am_h}
/-- pence for so many minutes -/
def pcF (g : Nat → Int32) (m : Nat) : Int32 := if g 8 < nI m then g 6 * g 8 + g 7 * (nI m - g 8) else g 6 * nI m
/-- the most minutes, m at most, that these pence buy -/
def mnF (g : Nat → Int32) (p : Int32) : Nat → Nat
  | 0 => 0
  | m + 1 => if p < pcF g (m + 1) then mnF g p m else m + 1
theorem mnF_le {g : Nat → Int32} {p : Int32} : ∀ m, mnF g p m ≤ m := by
  intro m
  induction m with
  | zero => exact Nat.le_refl _
  | succ m ih =>
    show (if p < pcF g (m + 1) then mnF g p m else m + 1) ≤ m + 1
    split
    · omega
    · omega
theorem ng1 {m : Nat} (hm : m < 2000000) : nI (m + 1) + -1 = nI m := (Int32.sub_eq_add_neg _ 1).symm.trans (nI_sb (b := 1) (by omega))
set_option maxRecDepth 20000 in
set_option maxHeartbeats 4000000 in
theorem op_forPence (k : Inv X h) (ol : rOl h) {v0 v1 : Int32} : opS X (d + 9) mX11_forPence mX12_forPence [.ref 0, .int v0, .int v1] [.ref 126, .int v0, .int v1] h := by
  have hC := k.1.1
  have hR := k.1.2.1
  by_cases c : inn v0 0 9999 = true ∧ inn v1 0 3 = true
  · obtain ⟨c0, c1⟩ := c
    obtain ⟨n, T, g, VW, VS, VL, x, tb⟩ := TB_ex k ol
    have tb0 := tb
    have hg : a_i h 127 = g := tb.2.2.2.2.2.1
    have g8 : bt 0 (g 8) 99 := by rw [← hg]; exact k.2.1.1.2.2.2.2.2.2.2.2.2.2.2.2.1
    have v00 : 0 ≤ v0.toInt := (inn_bt c0).1
    -- the minutes, of the class
    have pc : ∀ (z : am_h) d Q (m : Nat), sh_C (a_t z) (a_r z) → a_i z 1 11 = g 8 → a_i z 1 9 = g 6 → a_i z 1 10 = g 7 → Cal d mX8_penceFor [.ref 1, .int (nI m)] z Q = Q (some (.int (pcF g m))) z := by
      intro z d Q m zC z1 z2 z3
      rw [q_X8_penceFor (eq_true zC), z1, z2, z3]
      unfold pcF
      congr 3
      split
      · rw [Int32.mul_comm (g 8), Int32.mul_comm _ (g 7)]
      · rw [Int32.sub_self, Int32.zero_mul, Int32.add_zero, Int32.mul_comm]
    have e9 := k.e
    have pcC := fun d Q m => pc h d Q m hC (by simp [e9, hg]) (by simp [e9, hg]) (by simp [e9, hg])
    have cm : ∀ m, m ≤ 5 → ∀ Q, WP (d + 9) mX11_forPence 24 [some (.ref 0), some (.int v0), some (.int v1), some (.int (nI m))] [] h Q = WP (d + 9) mX11_forPence 46 [some (.ref 0), some (.int v0), some (.int v1), some (.int (nI (mnF g v0 m)))] [] h Q := by
      intro m
      induction m with
      | zero =>
        intro _ Q
        rw [w_iload_n3 (M := mX11_forPence) dX11_forPence_24]
        simp [w_if_le (M := mX11_forPence) (tgt := 46) dX11_forPence_25 (by decide), Kn_v_, Kn_n_, kl_i_, kl_a_, kl_l_, kl_n_, s1_0_, s2_0_, s1_1, s1_2, s1_3, s1_4, s1_5, s1_6, s1_7, s1_8, s1_9, s1_10, s1_11, s1_12, s1_13, s1_14, s2_1, s2_2, s2_3, s2_4, s2_5, s2_6, s2_7, s2_8, s2_9, s2_10, s2_11, s2_12, s2_13, s2_14, List.map_nil, List.map_cons, List.sum_nil, List.sum_cons, ct_i_, ct_r_, ct_l_, t_si_, t_sl_, t_sr_, n_si_, n_sl_, n_sr_, i_si_, i_sl_, i_sr_, l_si_, l_sl_, l_sr_, r_si_, r_sl_, r_sr_, vr_s_, vr_n_, nz_0_, nz_1_, show (0 < nI 0) = False from eq_false (by decide), mnF]
      | succ m ih =>
        intro hm Q
        have gt : (0 < nI (m + 1)) = True := nI_ltT (a := 0) (by omega) (by omega)
        rw [w_iload_n3 (M := mX11_forPence) dX11_forPence_24]
        show _ = WP (d + 9) mX11_forPence 46 [some (.ref 0), some (.int v0), some (.int v1), some (.int (nI (if v0 < pcF g (m + 1) then mnF g v0 m else m + 1)))] [] h Q
        by_cases q : v0 < pcF g (m + 1)
        · rw [if_pos q]
          rw [← ih (by omega) Q]
          simp [w_if_le (M := mX11_forPence) (tgt := 46) dX11_forPence_25 (by decide), w_aload_n0 (M := mX11_forPence) dX11_forPence_28, w_getO (M := mX11_forPence) dX11_forPence_29 f_11_10 rfl (by decide) (by decide), w_iload_n3 (M := mX11_forPence) dX11_forPence_32, c_11_328 (M := mX11_forPence) dX11_forPence_33 rfl, w_iload_n1 (M := mX11_forPence) dX11_forPence_36, w_ic_le (M := mX11_forPence) (tgt := 46) dX11_forPence_37 (by decide), w_iinc3 (M := mX11_forPence) (v := (-1)) dX11_forPence_40 rfl (by decide), w_goto (M := mX11_forPence) (tgt := 24) dX11_forPence_43 (by decide), Kn_v_, Kn_n_, kl_i_, kl_a_, kl_l_, kl_n_, s1_0_, s2_0_, s1_1, s1_2, s1_3, s1_4, s1_5, s1_6, s1_7, s1_8, s1_9, s1_10, s1_11, s1_12, s1_13, s1_14, s2_1, s2_2, s2_3, s2_4, s2_5, s2_6, s2_7, s2_8, s2_9, s2_10, s2_11, s2_12, s2_13, s2_14, List.map_nil, List.map_cons, List.sum_nil, List.sum_cons, ct_i_, ct_r_, ct_l_, t_si_, t_sl_, t_sr_, n_si_, n_sl_, n_sr_, i_si_, i_sl_, i_sr_, l_si_, l_sl_, l_sr_, r_si_, r_sl_, r_sr_, vr_s_, vr_n_, nz_0_, nz_1_, hC.e, gt, pcC, q, ng1 (m := m) (by omega)]
        · rw [if_neg q]
          simp [w_if_le (M := mX11_forPence) (tgt := 46) dX11_forPence_25 (by decide), w_aload_n0 (M := mX11_forPence) dX11_forPence_28, w_getO (M := mX11_forPence) dX11_forPence_29 f_11_10 rfl (by decide) (by decide), w_iload_n3 (M := mX11_forPence) dX11_forPence_32, c_11_328 (M := mX11_forPence) dX11_forPence_33 rfl, w_iload_n1 (M := mX11_forPence) dX11_forPence_36, w_ic_le (M := mX11_forPence) (tgt := 46) dX11_forPence_37 (by decide), w_iinc3 (M := mX11_forPence) (v := (-1)) dX11_forPence_40 rfl (by decide), w_goto (M := mX11_forPence) (tgt := 24) dX11_forPence_43 (by decide), Kn_v_, Kn_n_, kl_i_, kl_a_, kl_l_, kl_n_, s1_0_, s2_0_, s1_1, s1_2, s1_3, s1_4, s1_5, s1_6, s1_7, s1_8, s1_9, s1_10, s1_11, s1_12, s1_13, s1_14, s2_1, s2_2, s2_3, s2_4, s2_5, s2_6, s2_7, s2_8, s2_9, s2_10, s2_11, s2_12, s2_13, s2_14, List.map_nil, List.map_cons, List.sum_nil, List.sum_cons, ct_i_, ct_r_, ct_l_, t_si_, t_sl_, t_sr_, n_si_, n_sl_, n_sr_, i_si_, i_sl_, i_sr_, l_si_, l_sl_, l_sr_, r_si_, r_sl_, r_sr_, vr_s_, vr_n_, nz_0_, nz_1_, hC.e, gt, pcC, q]
    obtain ⟨M, hM⟩ : ∃ M, M = mnF g v0 5 := ⟨_, rfl⟩
    have M5 : M ≤ 5 := by rw [hM]; exact mnF_le 5
    obtain ⟨h1, p1, p2, p3, p4⟩ := c_try (d := d + 3) (t := M * 600) tb c1 (by omega) (near_0 _)
    have k1 := p2.Iv tb.1
    have hC1 := k1.1.1
    have hR1 := k1.1.2.1
    have s8 : sum16 (a_i h1 69) = sum16 (TKS g VW VS VL 1 n (M * 600) (tryS x v1) 8) := sum16_c (fun i hi => (p4 i hi).1)
    have tt := fun d Q => q_tot (d := d) (Q := Q) (h := h1) (r := 69) (by simp [hC1.e])
    rw [s8] at tt
    have m6 : nI M * 600 = nI (M * 600) := by rw [show (600 : Int32) = nI 600 from rfl, nI_m]
    have m6' : 600 * nI M = nI (M * 600) := by rw [show (600 : Int32) = nI 600 from rfl, nI_m, Nat.mul_comm]
    have i127 : a_i h1 127 = g := by
      have : a_i h1 127 = a_i h 127 := funext fun j => p2.2.2.2.1 127 j (by unfold scr; omega)
      rw [this]; exact hg
    -- of the other side
    have rm : ∀ m, m ≤ 5 → ∀ Q, WP (d + 9) mX12_forPence 24 [some (.ref 126), some (.int v0), some (.int v1), some (.int (nI m))] [] h1 Q = WP (d + 9) mX12_forPence 39 [some (.ref 126), some (.int v0), some (.int v1), some (.int (nI (mnF g v0 m)))] [] h1 Q := by
      have pr : ∀ d Q (m : Nat), Cal d mX12_penceOf [.ref 126, .int (nI m)] h1 Q = Q (some (.int (pcF g m))) h1 := by
        intro d Q m
        rw [q_X12_penceOf (eq_true hR1), i127]
        unfold pcF
        exact (apply_ite (fun x => Q (some (.int x)) h1) _ _ _).symm
      intro m
      induction m with
      | zero =>
        intro _ Q
        have z : (v0 < pcF g 0) = False := by
          have e : pcF g 0 = 0 := by
            unfold pcF
            rw [if_neg (by
              rw [i_lt, nI_i (by omega)]
              unfold bt at g8
              omega)]
            show g 6 * 0 = 0
            exact Int32.mul_zero
          rw [e, i_lt]
          apply eq_false
          show ¬ _ < (0 : Int)
          omega
        rw [w_aload_n0 (M := mX12_forPence) dX12_forPence_24]
        simp [w_iload_n3 (M := mX12_forPence) dX12_forPence_25, c_12_585 (M := mX12_forPence) dX12_forPence_26 rfl, w_iload_n1 (M := mX12_forPence) dX12_forPence_29, w_ic_le (M := mX12_forPence) (tgt := 39) dX12_forPence_30 (by decide), w_iinc3 (M := mX12_forPence) (v := (-1)) dX12_forPence_33 rfl (by decide), w_goto (M := mX12_forPence) (tgt := 24) dX12_forPence_36 (by decide), Kn_v_, Kn_n_, kl_i_, kl_a_, kl_l_, kl_n_, s1_0_, s2_0_, s1_1, s1_2, s1_3, s1_4, s1_5, s1_6, s1_7, s1_8, s1_9, s1_10, s1_11, s1_12, s1_13, s1_14, s2_1, s2_2, s2_3, s2_4, s2_5, s2_6, s2_7, s2_8, s2_9, s2_10, s2_11, s2_12, s2_13, s2_14, List.map_nil, List.map_cons, List.sum_nil, List.sum_cons, ct_i_, ct_r_, ct_l_, t_si_, t_sl_, t_sr_, n_si_, n_sl_, n_sr_, i_si_, i_sl_, i_sr_, l_si_, l_sl_, l_sr_, r_si_, r_sl_, r_sr_, vr_s_, vr_n_, nz_0_, nz_1_, hR1.e, pr, z, mnF]
      | succ m ih =>
        intro hm Q
        rw [w_aload_n0 (M := mX12_forPence) dX12_forPence_24]
        show _ = WP (d + 9) mX12_forPence 39 [some (.ref 126), some (.int v0), some (.int v1), some (.int (nI (if v0 < pcF g (m + 1) then mnF g v0 m else m + 1)))] [] h1 Q
        by_cases q : v0 < pcF g (m + 1)
        · rw [if_pos q]
          rw [← ih (by omega) Q]
          simp [w_iload_n3 (M := mX12_forPence) dX12_forPence_25, c_12_585 (M := mX12_forPence) dX12_forPence_26 rfl, w_iload_n1 (M := mX12_forPence) dX12_forPence_29, w_ic_le (M := mX12_forPence) (tgt := 39) dX12_forPence_30 (by decide), w_iinc3 (M := mX12_forPence) (v := (-1)) dX12_forPence_33 rfl (by decide), w_goto (M := mX12_forPence) (tgt := 24) dX12_forPence_36 (by decide), Kn_v_, Kn_n_, kl_i_, kl_a_, kl_l_, kl_n_, s1_0_, s2_0_, s1_1, s1_2, s1_3, s1_4, s1_5, s1_6, s1_7, s1_8, s1_9, s1_10, s1_11, s1_12, s1_13, s1_14, s2_1, s2_2, s2_3, s2_4, s2_5, s2_6, s2_7, s2_8, s2_9, s2_10, s2_11, s2_12, s2_13, s2_14, List.map_nil, List.map_cons, List.sum_nil, List.sum_cons, ct_i_, ct_r_, ct_l_, t_si_, t_sl_, t_sr_, n_si_, n_sl_, n_sr_, i_si_, i_sl_, i_sr_, l_si_, l_sl_, l_sr_, r_si_, r_sl_, r_sr_, vr_s_, vr_n_, nz_0_, nz_1_, hR1.e, pr, q, ng1 (m := m) (by omega)]
        · rw [if_neg q]
          simp [w_iload_n3 (M := mX12_forPence) dX12_forPence_25, c_12_585 (M := mX12_forPence) dX12_forPence_26 rfl, w_iload_n1 (M := mX12_forPence) dX12_forPence_29, w_ic_le (M := mX12_forPence) (tgt := 39) dX12_forPence_30 (by decide), w_iinc3 (M := mX12_forPence) (v := (-1)) dX12_forPence_33 rfl (by decide), w_goto (M := mX12_forPence) (tgt := 24) dX12_forPence_36 (by decide), Kn_v_, Kn_n_, kl_i_, kl_a_, kl_l_, kl_n_, s1_0_, s2_0_, s1_1, s1_2, s1_3, s1_4, s1_5, s1_6, s1_7, s1_8, s1_9, s1_10, s1_11, s1_12, s1_13, s1_14, s2_1, s2_2, s2_3, s2_4, s2_5, s2_6, s2_7, s2_8, s2_9, s2_10, s2_11, s2_12, s2_13, s2_14, List.map_nil, List.map_cons, List.sum_nil, List.sum_cons, ct_i_, ct_r_, ct_l_, t_si_, t_sl_, t_sr_, n_si_, n_sl_, n_sr_, i_si_, i_sl_, i_sr_, l_si_, l_sl_, l_sr_, r_si_, r_sl_, r_sr_, vr_s_, vr_n_, nz_0_, nz_1_, hR1.e, pr, q]
    have cl : ∀ Q, Cal (d + 9) mX11_forPence [.ref 0, .int v0, .int v1] h Q = Q (some (.int (sum16 (TKS g VW VS VL 1 n (M * 600) (tryS x v1) 8)))) h1 := by
      intro Q
      have c5 := cm 5 (by omega) Q
      rw [← hM] at c5
      unfold Cal
      rw [l_X11_forPence]
      simp only [am_en, am_ag, ct_i, ct_r, ct_l, List.length_cons, List.length_nil, List.replicate]
      simp [w_iload_n1 (M := mX11_forPence) dX11_forPence_0, w_iconst (M := mX11_forPence) (v := 0) dX11_forPence_1 rfl, w_sipush (M := mX11_forPence) (v := 9999) dX11_forPence_2 rfl, c_11_56 (M := mX11_forPence) dX11_forPence_5 rfl, w_if_eq (M := mX11_forPence) (tgt := 20) dX11_forPence_8 (by decide), w_iload_n2 (M := mX11_forPence) dX11_forPence_11, w_iconst (M := mX11_forPence) (v := 0) dX11_forPence_12 rfl, w_iconst (M := mX11_forPence) (v := 3) dX11_forPence_13 rfl, c_11_56 (M := mX11_forPence) dX11_forPence_14 rfl, w_if_ne (M := mX11_forPence) (tgt := 22) dX11_forPence_17 (by decide), w_iconst (M := mX11_forPence) (v := (-1)) dX11_forPence_20 rfl, w_iret (M := mX11_forPence) dX11_forPence_21 rfl, w_iconst (M := mX11_forPence) (v := 5) dX11_forPence_22 rfl, w_istore_n (M := mX11_forPence) (i := 3) dX11_forPence_23 rfl (by decide), Kn_v_, Kn_n_, kl_i_, kl_a_, kl_l_, kl_n_, s1_0_, s2_0_, s1_1, s1_2, s1_3, s1_4, s1_5, s1_6, s1_7, s1_8, s1_9, s1_10, s1_11, s1_12, s1_13, s1_14, s2_1, s2_2, s2_3, s2_4, s2_5, s2_6, s2_7, s2_8, s2_9, s2_10, s2_11, s2_12, s2_13, s2_14, List.map_nil, List.map_cons, List.sum_nil, List.sum_cons, ct_i_, ct_r_, ct_l_, t_si_, t_sl_, t_sr_, n_si_, n_sl_, n_sr_, i_si_, i_sl_, i_sr_, l_si_, l_sl_, l_sr_, r_si_, r_sl_, r_sr_, vr_s_, vr_n_, nz_0_, nz_1_, bI_0, bI_n, bI_t, bI_f, q_X11_within, hC, hC.e, c0, c1]
      refine Eq.to_iff (Eq.trans c5 ?_)
      simp [w_aload_n0 (M := mX11_forPence) dX11_forPence_46, w_iload_n2 (M := mX11_forPence) dX11_forPence_47, w_iload_n3 (M := mX11_forPence) dX11_forPence_48, w_sipush (M := mX11_forPence) (v := 600) dX11_forPence_49 rfl, w_imul (M := mX11_forPence) dX11_forPence_52, c_11_321 (M := mX11_forPence) dX11_forPence_53 rfl, w_aload_n0 (M := mX11_forPence) dX11_forPence_56, w_getO (M := mX11_forPence) dX11_forPence_57 f_11_22 rfl (by decide) (by decide), w_getA (M := mX11_forPence) dX11_forPence_60 f_11_259 rfl (by decide) (by decide), c_11_324 (M := mX11_forPence) dX11_forPence_63 rfl, w_iret (M := mX11_forPence) dX11_forPence_66 rfl, Kn_v_, Kn_n_, kl_i_, kl_a_, kl_l_, kl_n_, s1_0_, s2_0_, s1_1, s1_2, s1_3, s1_4, s1_5, s1_6, s1_7, s1_8, s1_9, s1_10, s1_11, s1_12, s1_13, s1_14, s2_1, s2_2, s2_3, s2_4, s2_5, s2_6, s2_7, s2_8, s2_9, s2_10, s2_11, s2_12, s2_13, s2_14, List.map_nil, List.map_cons, List.sum_nil, List.sum_cons, ct_i_, ct_r_, ct_l_, t_si_, t_sl_, t_sr_, n_si_, n_sl_, n_sr_, i_si_, i_sl_, i_sr_, l_si_, l_sl_, l_sr_, r_si_, r_sl_, r_sr_, vr_s_, vr_n_, nz_0_, nz_1_, hC.e, m6, p1, hC1.e, tt]
    have r5 : ∀ Q, Cal (d + 9) mX12_forPence [.ref 126, .int v0, .int v1] h1 Q = WP (d + 9) mX12_forPence 39 [some (.ref 126), some (.int v0), some (.int v1), some (.int (nI M))] [] h1 Q := by
      intro Q
      have c5 := rm 5 (by omega) Q
      rw [← hM] at c5
      rw [← c5]
      unfold Cal
      rw [l_X12_forPence]
      simp only [am_en, am_ag, ct_i, ct_r, ct_l, List.length_cons, List.length_nil, List.replicate]
      simp [w_iload_n1 (M := mX12_forPence) dX12_forPence_0, w_iconst (M := mX12_forPence) (v := 0) dX12_forPence_1 rfl, w_sipush (M := mX12_forPence) (v := 9999) dX12_forPence_2 rfl, c_12_173 (M := mX12_forPence) dX12_forPence_5 rfl, w_if_eq (M := mX12_forPence) (tgt := 20) dX12_forPence_8 (by decide), w_iload_n2 (M := mX12_forPence) dX12_forPence_11, w_iconst (M := mX12_forPence) (v := 0) dX12_forPence_12 rfl, w_iconst (M := mX12_forPence) (v := 3) dX12_forPence_13 rfl, c_12_173 (M := mX12_forPence) dX12_forPence_14 rfl, w_if_ne (M := mX12_forPence) (tgt := 22) dX12_forPence_17 (by decide), w_iconst (M := mX12_forPence) (v := (-1)) dX12_forPence_20 rfl, w_iret (M := mX12_forPence) dX12_forPence_21 rfl, w_iconst (M := mX12_forPence) (v := 5) dX12_forPence_22 rfl, w_istore_n (M := mX12_forPence) (i := 3) dX12_forPence_23 rfl (by decide), Kn_v_, Kn_n_, kl_i_, kl_a_, kl_l_, kl_n_, s1_0_, s2_0_, s1_1, s1_2, s1_3, s1_4, s1_5, s1_6, s1_7, s1_8, s1_9, s1_10, s1_11, s1_12, s1_13, s1_14, s2_1, s2_2, s2_3, s2_4, s2_5, s2_6, s2_7, s2_8, s2_9, s2_10, s2_11, s2_12, s2_13, s2_14, List.map_nil, List.map_cons, List.sum_nil, List.sum_cons, ct_i_, ct_r_, ct_l_, t_si_, t_sl_, t_sr_, n_si_, n_sl_, n_sr_, i_si_, i_sl_, i_sr_, l_si_, l_sl_, l_sr_, r_si_, r_sl_, r_sr_, vr_s_, vr_n_, nz_0_, nz_1_, bI_0, bI_n, bI_t, bI_f, q_X12_in, hR1.e, c0, c1, show nI 5 = 5 from rfl]
    by_cases M0 : M = 0
    · subst M0
      have z8 : sum16 (TKS g VW VS VL 1 n (0 * 600) (tryS x v1) 8) = 0 := by
        rw [sum16_c (g := fun _ => 0) (fun k _ => by
          show tryS x v1 8 k = 0
          unfold tryS
          rw [if_neg (by omega), if_pos (Or.inl rfl)])]
        decide
      rw [z8] at cl
      refine ⟨0, h1, h1, cl, fun Q => ?_, k1⟩
      rw [r5 Q]
      simp [w_iload_n3 (M := mX12_forPence) dX12_forPence_39, w_if_ne (M := mX12_forPence) (tgt := 45) dX12_forPence_40 (by decide), w_iconst (M := mX12_forPence) (v := 0) dX12_forPence_43 rfl, w_iret (M := mX12_forPence) dX12_forPence_44 rfl, w_aload_n0 (M := mX12_forPence) dX12_forPence_45, w_iload_n2 (M := mX12_forPence) dX12_forPence_46, w_sipush (M := mX12_forPence) (v := 600) dX12_forPence_47 rfl, w_iload_n3 (M := mX12_forPence) dX12_forPence_50, w_imul (M := mX12_forPence) dX12_forPence_51, c_12_582 (M := mX12_forPence) dX12_forPence_52 rfl, w_aload_n0 (M := mX12_forPence) dX12_forPence_55, w_getI (M := mX12_forPence) dX12_forPence_56 f_12_436 rfl (by decide) (by decide), w_iret (M := mX12_forPence) dX12_forPence_59 rfl, Kn_v_, Kn_n_, kl_i_, kl_a_, kl_l_, kl_n_, s1_0_, s2_0_, s1_1, s1_2, s1_3, s1_4, s1_5, s1_6, s1_7, s1_8, s1_9, s1_10, s1_11, s1_12, s1_13, s1_14, s2_1, s2_2, s2_3, s2_4, s2_5, s2_6, s2_7, s2_8, s2_9, s2_10, s2_11, s2_12, s2_13, s2_14, List.map_nil, List.map_cons, List.sum_nil, List.sum_cons, ct_i_, ct_r_, ct_l_, t_si_, t_sl_, t_sr_, n_si_, n_sl_, n_sr_, i_si_, i_sl_, i_sr_, l_si_, l_sl_, l_sr_, r_si_, r_sl_, r_sr_, vr_s_, vr_n_, nz_0_, nz_1_, show nI 0 = 0 from rfl]
    · obtain ⟨h2, q1, q2, q3, q4, q5⟩ := r_try (d := d) (t := M * 600) tb c1 (by omega) p2 p3
      have k2 := q2.Iv tb.1
      have hR2 := k2.1.2.1
      refine ⟨_, h1, h2, cl, fun Q => ?_, k2⟩
      rw [r5 Q]
      have n0 : ¬ nI M = 0 := by rw [nI_e0 (by omega)]; exact M0
      simp [w_iload_n3 (M := mX12_forPence) dX12_forPence_39, w_if_ne (M := mX12_forPence) (tgt := 45) dX12_forPence_40 (by decide), w_iconst (M := mX12_forPence) (v := 0) dX12_forPence_43 rfl, w_iret (M := mX12_forPence) dX12_forPence_44 rfl, w_aload_n0 (M := mX12_forPence) dX12_forPence_45, w_iload_n2 (M := mX12_forPence) dX12_forPence_46, w_sipush (M := mX12_forPence) (v := 600) dX12_forPence_47 rfl, w_iload_n3 (M := mX12_forPence) dX12_forPence_50, w_imul (M := mX12_forPence) dX12_forPence_51, c_12_582 (M := mX12_forPence) dX12_forPence_52 rfl, w_aload_n0 (M := mX12_forPence) dX12_forPence_55, w_getI (M := mX12_forPence) dX12_forPence_56 f_12_436 rfl (by decide) (by decide), w_iret (M := mX12_forPence) dX12_forPence_59 rfl, Kn_v_, Kn_n_, kl_i_, kl_a_, kl_l_, kl_n_, s1_0_, s2_0_, s1_1, s1_2, s1_3, s1_4, s1_5, s1_6, s1_7, s1_8, s1_9, s1_10, s1_11, s1_12, s1_13, s1_14, s2_1, s2_2, s2_3, s2_4, s2_5, s2_6, s2_7, s2_8, s2_9, s2_10, s2_11, s2_12, s2_13, s2_14, List.map_nil, List.map_cons, List.sum_nil, List.sum_cons, ct_i_, ct_r_, ct_l_, t_si_, t_sl_, t_sr_, n_si_, n_sl_, n_sr_, i_si_, i_sl_, i_sr_, l_si_, l_sl_, l_sr_, r_si_, r_sl_, r_sr_, vr_s_, vr_n_, nz_0_, nz_1_, n0, hR1.e, m6', q1, hR2.e, q4]
  · refine op0 k (-1) (fun Q => ?_) (fun Q => ?_)
    · unfold Cal
      rw [l_X11_forPence]
      simp only [am_en, am_ag, ct_i, ct_r, ct_l, List.length_cons, List.length_nil, List.replicate]
      by_cases c0 : inn v0 0 9999 = true <;> by_cases c1 : inn v1 0 3 = true <;> simp [c0, c1] at c <;> simp [w_iload_n1 (M := mX11_forPence) dX11_forPence_0, w_iconst (M := mX11_forPence) (v := 0) dX11_forPence_1 rfl, w_sipush (M := mX11_forPence) (v := 9999) dX11_forPence_2 rfl, c_11_56 (M := mX11_forPence) dX11_forPence_5 rfl, w_if_eq (M := mX11_forPence) (tgt := 20) dX11_forPence_8 (by decide), w_iload_n2 (M := mX11_forPence) dX11_forPence_11, w_iconst (M := mX11_forPence) (v := 0) dX11_forPence_12 rfl, w_iconst (M := mX11_forPence) (v := 3) dX11_forPence_13 rfl, c_11_56 (M := mX11_forPence) dX11_forPence_14 rfl, w_if_ne (M := mX11_forPence) (tgt := 22) dX11_forPence_17 (by decide), w_iconst (M := mX11_forPence) (v := (-1)) dX11_forPence_20 rfl, w_iret (M := mX11_forPence) dX11_forPence_21 rfl, w_iconst (M := mX11_forPence) (v := 5) dX11_forPence_22 rfl, w_istore_n (M := mX11_forPence) (i := 3) dX11_forPence_23 rfl (by decide), Kn_v_, Kn_n_, kl_i_, kl_a_, kl_l_, kl_n_, s1_0_, s2_0_, s1_1, s1_2, s1_3, s1_4, s1_5, s1_6, s1_7, s1_8, s1_9, s1_10, s1_11, s1_12, s1_13, s1_14, s2_1, s2_2, s2_3, s2_4, s2_5, s2_6, s2_7, s2_8, s2_9, s2_10, s2_11, s2_12, s2_13, s2_14, List.map_nil, List.map_cons, List.sum_nil, List.sum_cons, ct_i_, ct_r_, ct_l_, t_si_, t_sl_, t_sr_, n_si_, n_sl_, n_sr_, i_si_, i_sl_, i_sr_, l_si_, l_sl_, l_sr_, r_si_, r_sl_, r_sr_, vr_s_, vr_n_, nz_0_, nz_1_, bI_0, bI_n, bI_t, bI_f, q_X11_within, hC, hC.e, c0, c1]
    · unfold Cal
      rw [l_X12_forPence]
      simp only [am_en, am_ag, ct_i, ct_r, ct_l, List.length_cons, List.length_nil, List.replicate]
      by_cases c0 : inn v0 0 9999 = true <;> by_cases c1 : inn v1 0 3 = true <;> simp [c0, c1] at c <;> simp [w_iload_n1 (M := mX12_forPence) dX12_forPence_0, w_iconst (M := mX12_forPence) (v := 0) dX12_forPence_1 rfl, w_sipush (M := mX12_forPence) (v := 9999) dX12_forPence_2 rfl, c_12_173 (M := mX12_forPence) dX12_forPence_5 rfl, w_if_eq (M := mX12_forPence) (tgt := 20) dX12_forPence_8 (by decide), w_iload_n2 (M := mX12_forPence) dX12_forPence_11, w_iconst (M := mX12_forPence) (v := 0) dX12_forPence_12 rfl, w_iconst (M := mX12_forPence) (v := 3) dX12_forPence_13 rfl, c_12_173 (M := mX12_forPence) dX12_forPence_14 rfl, w_if_ne (M := mX12_forPence) (tgt := 22) dX12_forPence_17 (by decide), w_iconst (M := mX12_forPence) (v := (-1)) dX12_forPence_20 rfl, w_iret (M := mX12_forPence) dX12_forPence_21 rfl, w_iconst (M := mX12_forPence) (v := 5) dX12_forPence_22 rfl, w_istore_n (M := mX12_forPence) (i := 3) dX12_forPence_23 rfl (by decide), Kn_v_, Kn_n_, kl_i_, kl_a_, kl_l_, kl_n_, s1_0_, s2_0_, s1_1, s1_2, s1_3, s1_4, s1_5, s1_6, s1_7, s1_8, s1_9, s1_10, s1_11, s1_12, s1_13, s1_14, s2_1, s2_2, s2_3, s2_4, s2_5, s2_6, s2_7, s2_8, s2_9, s2_10, s2_11, s2_12, s2_13, s2_14, List.map_nil, List.map_cons, List.sum_nil, List.sum_cons, ct_i_, ct_r_, ct_l_, t_si_, t_sl_, t_sr_, n_si_, n_sl_, n_sr_, i_si_, i_sl_, i_sr_, l_si_, l_sl_, l_sr_, r_si_, r_sl_, r_sr_, vr_s_, vr_n_, nz_0_, nz_1_, bI_0, bI_n, bI_t, bI_f, q_X12_in, hR, hR.e, c0, c1]
end FORP
