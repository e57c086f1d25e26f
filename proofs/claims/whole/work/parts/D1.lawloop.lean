/-! the law's loop -/
section LAWLOOP
variable {h0 h : am_h} {n i : Nat}
set_option maxRecDepth 20000 in
set_option maxHeartbeats 4000000 in
/-- one round of the law's loop -/
theorem lw_round (z : LW0 h0 n) (tx : ∀ h, LWI h0 h → opS XP 100 mX11_text mX12_text [.ref 0] [.ref 126] h) (W : LWI h0 h) (hi : i + 7 ≤ n) : ∃ h2, (∀ Q, WP 101 mL_law 18 (lwL i) [] h Q = WP 101 mL_law 18 (lwL (i + 7)) [] h2 Q) ∧ LWI h0 h2 := by
  obtain ⟨t0, i0⟩ := lw_sc z W.2.2
  have n2 := z.2.2.2
  have x0 : am_in1 (nI i) n = True := by rw [in1_n (by omega)]; exact eq_true (by omega)
  have c0 := nI_c (a := i) (by omega)
  have l1 : Int32.ofNat n - 7 = nI (n - 7) := nI_sb (a := n) (b := 7) (by omega)
  have l2 : (nI (n - 7) < nI i) = False := nI_ltF (by omega) (by omega)
  have l3 : nI i + 7 = nI (i + 7) := nI_a (b := 7)
  -- the end of a case
  have tail : ∀ (h2 : am_h) Q, WP 101 mL_law 1851 (lwL i) [] h2 Q = WP 101 mL_law 18 (lwL (i + 7)) [] h2 Q := fun h2 Q => by
    unfold lwL
    simp [w_iinc3 (M := mL_law) (v := 7) dL_law_1851 rfl (by decide), w_goto (M := mL_law) (tgt := 18) dL_law_1854 (by decide), Kn_v_, Kn_n_, kl_i_, kl_a_, kl_l_, kl_n_, s1_0_, s2_0_, s1_1, s1_2, s1_3, s1_4, s1_5, s1_6, s1_7, s1_8, s1_9, s1_10, s1_11, s1_12, s1_13, s1_14, s2_1, s2_2, s2_3, s2_4, s2_5, s2_6, s2_7, s2_8, s2_9, s2_10, s2_11, s2_12, s2_13, s2_14, List.map_nil, List.map_cons, List.sum_nil, List.sum_cons, ct_i_, ct_r_, ct_l_, t_si_, t_sl_, t_sr_, n_si_, n_sl_, n_sr_, i_si_, i_sl_, i_sr_, l_si_, l_sl_, l_sr_, r_si_, r_sl_, r_sr_, vr_s_, vr_n_, nz_0_, nz_1_, l3]
  have sum : ∀ pc : Nat, (∀ Q, WP 101 mL_law 18 (lwL i) [] h Q = WP 101 mL_law pc (lwL i) [] h Q) → (∃ h2, (∀ Q, WP 101 mL_law pc (lwL i) [] h Q = WP 101 mL_law 1851 (lwL i) [] h2 Q) ∧ LWI h0 h2) → ∃ h2, (∀ Q, WP 101 mL_law 18 (lwL i) [] h Q = WP 101 mL_law 18 (lwL (i + 7)) [] h2 Q) ∧ LWI h0 h2 := by
    rintro pc e ⟨h2, a, b⟩
    exact ⟨h2, fun Q => (e Q).trans ((a Q).trans (tail h2 Q)), b⟩
  obtain ⟨v, ev⟩ : ∃ v, v = a_i h 1000000 i &&& 63 := ⟨_, rfl⟩
  have hd : ∀ Q, WP 101 mL_law 18 (lwL i) [] h Q = WP 101 mL_law 33 (lwL i) [.int v] h Q := fun Q => by
    unfold lwL
    simp [w_iload_n3 (M := mL_law) dL_law_18, w_aload_n0 (M := mL_law) dL_law_19, w_alen (M := mL_law) dL_law_20, w_bipush (M := mL_law) (v := 7) dL_law_21 rfl, w_isub (M := mL_law) dL_law_23, w_ic_gt (M := mL_law) (tgt := 1857) dL_law_24 (by decide), w_aload_n0 (M := mL_law) dL_law_27, w_iload_n3 (M := mL_law) dL_law_28, w_iaload (M := mL_law) dL_law_29, w_bipush (M := mL_law) (v := 63) dL_law_30 rfl, w_iand (M := mL_law) dL_law_32, Kn_v_, Kn_n_, kl_i_, kl_a_, kl_l_, kl_n_, s1_0_, s2_0_, s1_1, s1_2, s1_3, s1_4, s1_5, s1_6, s1_7, s1_8, s1_9, s1_10, s1_11, s1_12, s1_13, s1_14, s2_1, s2_2, s2_3, s2_4, s2_5, s2_6, s2_7, s2_8, s2_9, s2_10, s2_11, s2_12, s2_13, s2_14, List.map_nil, List.map_cons, List.sum_nil, List.sum_cons, ct_i_, ct_r_, ct_l_, t_si_, t_sl_, t_sr_, n_si_, n_sl_, n_sr_, i_si_, i_sl_, i_sr_, l_si_, l_sl_, l_sr_, r_si_, r_sl_, r_sr_, vr_s_, vr_n_, nz_0_, nz_1_, t0, l1, l2, x0, c0, ← ev]
  by_cases c0 : v = 0
  · refine sum 220 (fun Q => ?_) (lw_0 z W hi)
    rw [hd Q, sw_L_law_33]
    simp only [if_false, if_pos c0]
  by_cases c1 : v = 1
  · refine sum 273 (fun Q => ?_) (lw_1 z W hi)
    rw [hd Q, sw_L_law_33]
    simp only [c0, if_false, if_pos c1]
  by_cases c2 : v = 2
  · refine sum 296 (fun Q => ?_) (lw_2 z W hi)
    rw [hd Q, sw_L_law_33]
    simp only [c0, c1, if_false, if_pos c2]
  by_cases c3 : v = 3
  · refine sum 339 (fun Q => ?_) (lw_3 z W hi)
    rw [hd Q, sw_L_law_33]
    simp only [c0, c1, c2, if_false, if_pos c3]
  by_cases c4 : v = 4
  · refine sum 362 (fun Q => ?_) (lw_4 z W hi)
    rw [hd Q, sw_L_law_33]
    simp only [c0, c1, c2, c3, if_false, if_pos c4]
  by_cases c5 : v = 5
  · refine sum 395 (fun Q => ?_) (lw_5 z W hi)
    rw [hd Q, sw_L_law_33]
    simp only [c0, c1, c2, c3, c4, if_false, if_pos c5]
  by_cases c6 : v = 6
  · refine sum 418 (fun Q => ?_) (lw_6 z W hi)
    rw [hd Q, sw_L_law_33]
    simp only [c0, c1, c2, c3, c4, c5, if_false, if_pos c6]
  by_cases c7 : v = 7
  · refine sum 441 (fun Q => ?_) (lw_7 z W hi)
    rw [hd Q, sw_L_law_33]
    simp only [c0, c1, c2, c3, c4, c5, c6, if_false, if_pos c7]
  by_cases c8 : v = 8
  · refine sum 464 (fun Q => ?_) (lw_8 z W hi)
    rw [hd Q, sw_L_law_33]
    simp only [c0, c1, c2, c3, c4, c5, c6, c7, if_false, if_pos c8]
  by_cases c9 : v = 9
  · refine sum 527 (fun Q => ?_) (lw_9 z W hi)
    rw [hd Q, sw_L_law_33]
    simp only [c0, c1, c2, c3, c4, c5, c6, c7, c8, if_false, if_pos c9]
  by_cases c10 : v = 10
  · refine sum 550 (fun Q => ?_) (lw_10 z W hi (tx h W))
    rw [hd Q, sw_L_law_33]
    simp only [c0, c1, c2, c3, c4, c5, c6, c7, c8, c9, if_false, if_pos c10]
  by_cases c11 : v = 11
  · refine sum 563 (fun Q => ?_) (lw_11 z W hi)
    rw [hd Q, sw_L_law_33]
    simp only [c0, c1, c2, c3, c4, c5, c6, c7, c8, c9, c10, if_false, if_pos c11]
  by_cases c12 : v = 12
  · refine sum 586 (fun Q => ?_) (lw_12 z W hi)
    rw [hd Q, sw_L_law_33]
    simp only [c0, c1, c2, c3, c4, c5, c6, c7, c8, c9, c10, c11, if_false, if_pos c12]
  by_cases c13 : v = 13
  · refine sum 609 (fun Q => ?_) (lw_13 z W hi)
    rw [hd Q, sw_L_law_33]
    simp only [c0, c1, c2, c3, c4, c5, c6, c7, c8, c9, c10, c11, c12, if_false, if_pos c13]
  by_cases c14 : v = 14
  · refine sum 632 (fun Q => ?_) (lw_14 z W hi)
    rw [hd Q, sw_L_law_33]
    simp only [c0, c1, c2, c3, c4, c5, c6, c7, c8, c9, c10, c11, c12, c13, if_false, if_pos c14]
  by_cases c15 : v = 15
  · refine sum 645 (fun Q => ?_) (lw_15 z W hi)
    rw [hd Q, sw_L_law_33]
    simp only [c0, c1, c2, c3, c4, c5, c6, c7, c8, c9, c10, c11, c12, c13, c14, if_false, if_pos c15]
  by_cases c16 : v = 16
  · refine sum 678 (fun Q => ?_) (lw_16 z W hi)
    rw [hd Q, sw_L_law_33]
    simp only [c0, c1, c2, c3, c4, c5, c6, c7, c8, c9, c10, c11, c12, c13, c14, c15, if_false, if_pos c16]
  by_cases c17 : v = 17
  · refine sum 737 (fun Q => ?_) (lw_17 z W hi)
    rw [hd Q, sw_L_law_33]
    simp only [c0, c1, c2, c3, c4, c5, c6, c7, c8, c9, c10, c11, c12, c13, c14, c15, c16, if_false, if_pos c17]
  by_cases c18 : v = 18
  · refine sum 770 (fun Q => ?_) (lw_18 z W hi)
    rw [hd Q, sw_L_law_33]
    simp only [c0, c1, c2, c3, c4, c5, c6, c7, c8, c9, c10, c11, c12, c13, c14, c15, c16, c17, if_false, if_pos c18]
  by_cases c19 : v = 19
  · refine sum 803 (fun Q => ?_) (lw_19 z W hi)
    rw [hd Q, sw_L_law_33]
    simp only [c0, c1, c2, c3, c4, c5, c6, c7, c8, c9, c10, c11, c12, c13, c14, c15, c16, c17, c18, if_false, if_pos c19]
  by_cases c20 : v = 20
  · refine sum 816 (fun Q => ?_) (lw_20 z W hi)
    rw [hd Q, sw_L_law_33]
    simp only [c0, c1, c2, c3, c4, c5, c6, c7, c8, c9, c10, c11, c12, c13, c14, c15, c16, c17, c18, c19, if_false, if_pos c20]
  by_cases c21 : v = 21
  · refine sum 907 (fun Q => ?_) (lw_21 z W hi)
    rw [hd Q, sw_L_law_33]
    simp only [c0, c1, c2, c3, c4, c5, c6, c7, c8, c9, c10, c11, c12, c13, c14, c15, c16, c17, c18, c19, c20, if_false, if_pos c21]
  by_cases c22 : v = 22
  · refine sum 950 (fun Q => ?_) (lw_22 z W hi)
    rw [hd Q, sw_L_law_33]
    simp only [c0, c1, c2, c3, c4, c5, c6, c7, c8, c9, c10, c11, c12, c13, c14, c15, c16, c17, c18, c19, c20, c21, if_false, if_pos c22]
  by_cases c23 : v = 23
  · refine sum 1009 (fun Q => ?_) (lw_23 z W hi)
    rw [hd Q, sw_L_law_33]
    simp only [c0, c1, c2, c3, c4, c5, c6, c7, c8, c9, c10, c11, c12, c13, c14, c15, c16, c17, c18, c19, c20, c21, c22, if_false, if_pos c23]
  by_cases c24 : v = 24
  · refine sum 1068 (fun Q => ?_) (lw_24 z W hi)
    rw [hd Q, sw_L_law_33]
    simp only [c0, c1, c2, c3, c4, c5, c6, c7, c8, c9, c10, c11, c12, c13, c14, c15, c16, c17, c18, c19, c20, c21, c22, c23, if_false, if_pos c24]
  by_cases c25 : v = 25
  · refine sum 1127 (fun Q => ?_) (lw_25 z W hi)
    rw [hd Q, sw_L_law_33]
    simp only [c0, c1, c2, c3, c4, c5, c6, c7, c8, c9, c10, c11, c12, c13, c14, c15, c16, c17, c18, c19, c20, c21, c22, c23, c24, if_false, if_pos c25]
  by_cases c26 : v = 26
  · refine sum 1150 (fun Q => ?_) (lw_26 z W hi)
    rw [hd Q, sw_L_law_33]
    simp only [c0, c1, c2, c3, c4, c5, c6, c7, c8, c9, c10, c11, c12, c13, c14, c15, c16, c17, c18, c19, c20, c21, c22, c23, c24, c25, if_false, if_pos c26]
  by_cases c27 : v = 27
  · refine sum 1193 (fun Q => ?_) (lw_27 z W hi)
    rw [hd Q, sw_L_law_33]
    simp only [c0, c1, c2, c3, c4, c5, c6, c7, c8, c9, c10, c11, c12, c13, c14, c15, c16, c17, c18, c19, c20, c21, c22, c23, c24, c25, c26, if_false, if_pos c27]
  by_cases c28 : v = 28
  · refine sum 1216 (fun Q => ?_) (lw_28 z W hi)
    rw [hd Q, sw_L_law_33]
    simp only [c0, c1, c2, c3, c4, c5, c6, c7, c8, c9, c10, c11, c12, c13, c14, c15, c16, c17, c18, c19, c20, c21, c22, c23, c24, c25, c26, c27, if_false, if_pos c28]
  by_cases c29 : v = 29
  · refine sum 1249 (fun Q => ?_) (lw_29 z W hi)
    rw [hd Q, sw_L_law_33]
    simp only [c0, c1, c2, c3, c4, c5, c6, c7, c8, c9, c10, c11, c12, c13, c14, c15, c16, c17, c18, c19, c20, c21, c22, c23, c24, c25, c26, c27, c28, if_false, if_pos c29]
  by_cases c30 : v = 30
  · refine sum 1324 (fun Q => ?_) (lw_30 z W hi)
    rw [hd Q, sw_L_law_33]
    simp only [c0, c1, c2, c3, c4, c5, c6, c7, c8, c9, c10, c11, c12, c13, c14, c15, c16, c17, c18, c19, c20, c21, c22, c23, c24, c25, c26, c27, c28, c29, if_false, if_pos c30]
  by_cases c31 : v = 31
  · refine sum 1387 (fun Q => ?_) (lw_31 z W hi)
    rw [hd Q, sw_L_law_33]
    simp only [c0, c1, c2, c3, c4, c5, c6, c7, c8, c9, c10, c11, c12, c13, c14, c15, c16, c17, c18, c19, c20, c21, c22, c23, c24, c25, c26, c27, c28, c29, c30, if_false, if_pos c31]
  by_cases c32 : v = 32
  · refine sum 1466 (fun Q => ?_) (lw_32 z W hi)
    rw [hd Q, sw_L_law_33]
    simp only [c0, c1, c2, c3, c4, c5, c6, c7, c8, c9, c10, c11, c12, c13, c14, c15, c16, c17, c18, c19, c20, c21, c22, c23, c24, c25, c26, c27, c28, c29, c30, c31, if_false, if_pos c32]
  by_cases c33 : v = 33
  · refine sum 1499 (fun Q => ?_) (lw_33 z W hi)
    rw [hd Q, sw_L_law_33]
    simp only [c0, c1, c2, c3, c4, c5, c6, c7, c8, c9, c10, c11, c12, c13, c14, c15, c16, c17, c18, c19, c20, c21, c22, c23, c24, c25, c26, c27, c28, c29, c30, c31, c32, if_false, if_pos c33]
  by_cases c34 : v = 34
  · refine sum 1578 (fun Q => ?_) (lw_34 z W hi)
    rw [hd Q, sw_L_law_33]
    simp only [c0, c1, c2, c3, c4, c5, c6, c7, c8, c9, c10, c11, c12, c13, c14, c15, c16, c17, c18, c19, c20, c21, c22, c23, c24, c25, c26, c27, c28, c29, c30, c31, c32, c33, if_false, if_pos c34]
  by_cases c35 : v = 35
  · refine sum 1621 (fun Q => ?_) (lw_35 z W hi)
    rw [hd Q, sw_L_law_33]
    simp only [c0, c1, c2, c3, c4, c5, c6, c7, c8, c9, c10, c11, c12, c13, c14, c15, c16, c17, c18, c19, c20, c21, c22, c23, c24, c25, c26, c27, c28, c29, c30, c31, c32, c33, c34, if_false, if_pos c35]
  by_cases c36 : v = 36
  · refine sum 1644 (fun Q => ?_) (lw_36 z W hi)
    rw [hd Q, sw_L_law_33]
    simp only [c0, c1, c2, c3, c4, c5, c6, c7, c8, c9, c10, c11, c12, c13, c14, c15, c16, c17, c18, c19, c20, c21, c22, c23, c24, c25, c26, c27, c28, c29, c30, c31, c32, c33, c34, c35, if_false, if_pos c36]
  by_cases c37 : v = 37
  · refine sum 1697 (fun Q => ?_) (lw_37 z W hi)
    rw [hd Q, sw_L_law_33]
    simp only [c0, c1, c2, c3, c4, c5, c6, c7, c8, c9, c10, c11, c12, c13, c14, c15, c16, c17, c18, c19, c20, c21, c22, c23, c24, c25, c26, c27, c28, c29, c30, c31, c32, c33, c34, c35, c36, if_false, if_pos c37]
  by_cases c38 : v = 38
  · refine sum 1736 (fun Q => ?_) (lw_38 z W hi)
    rw [hd Q, sw_L_law_33]
    simp only [c0, c1, c2, c3, c4, c5, c6, c7, c8, c9, c10, c11, c12, c13, c14, c15, c16, c17, c18, c19, c20, c21, c22, c23, c24, c25, c26, c27, c28, c29, c30, c31, c32, c33, c34, c35, c36, c37, if_false, if_pos c38]
  by_cases c39 : v = 39
  · refine sum 1779 (fun Q => ?_) (lw_39 z W hi)
    rw [hd Q, sw_L_law_33]
    simp only [c0, c1, c2, c3, c4, c5, c6, c7, c8, c9, c10, c11, c12, c13, c14, c15, c16, c17, c18, c19, c20, c21, c22, c23, c24, c25, c26, c27, c28, c29, c30, c31, c32, c33, c34, c35, c36, c37, c38, if_false, if_pos c39]
  by_cases c40 : v = 40
  · refine sum 1802 (fun Q => ?_) (lw_40 z W hi)
    rw [hd Q, sw_L_law_33]
    simp only [c0, c1, c2, c3, c4, c5, c6, c7, c8, c9, c10, c11, c12, c13, c14, c15, c16, c17, c18, c19, c20, c21, c22, c23, c24, c25, c26, c27, c28, c29, c30, c31, c32, c33, c34, c35, c36, c37, c38, c39, if_false, if_pos c40]
  by_cases c41 : v = 41
  · refine sum 1815 (fun Q => ?_) (lw_41 z W hi)
    rw [hd Q, sw_L_law_33]
    simp only [c0, c1, c2, c3, c4, c5, c6, c7, c8, c9, c10, c11, c12, c13, c14, c15, c16, c17, c18, c19, c20, c21, c22, c23, c24, c25, c26, c27, c28, c29, c30, c31, c32, c33, c34, c35, c36, c37, c38, c39, c40, if_false, if_pos c41]
  by_cases c42 : v = 42
  · refine sum 1828 (fun Q => ?_) (lw_42 z W hi)
    rw [hd Q, sw_L_law_33]
    simp only [c0, c1, c2, c3, c4, c5, c6, c7, c8, c9, c10, c11, c12, c13, c14, c15, c16, c17, c18, c19, c20, c21, c22, c23, c24, c25, c26, c27, c28, c29, c30, c31, c32, c33, c34, c35, c36, c37, c38, c39, c40, c41, if_false, if_pos c42]
  refine sum 1851 (fun Q => ?_) ⟨h, fun _ => rfl, W⟩
  rw [hd Q, sw_L_law_33]
  simp only [c0, c1, c2, c3, c4, c5, c6, c7, c8, c9, c10, c11, c12, c13, c14, c15, c16, c17, c18, c19, c20, c21, c22, c23, c24, c25, c26, c27, c28, c29, c30, c31, c32, c33, c34, c35, c36, c37, c38, c39, c40, c41, c42, if_false]
theorem lw_loop (z : LW0 h0 n) (tx : ∀ h, LWI h0 h → opS XP 100 mX11_text mX12_text [.ref 0] [.ref 126] h) : ∀ (k i : Nat) (h : am_h), n ≤ i + 7 * k → i ≤ n + 7 → LWI h0 h → ∃ h2, (∀ Q, WP 101 mL_law 18 (lwL i) [] h Q = Q (some (.int 1)) h2) ∧ LWI h0 h2 := by
  have n2 := z.2.2.2
  have ex : ∀ (i : Nat) (h : am_h), i ≤ n + 7 → LWI h0 h → ¬ i + 7 ≤ n → ∃ h2, (∀ Q, WP 101 mL_law 18 (lwL i) [] h Q = Q (some (.int 1)) h2) ∧ LWI h0 h2 := fun i h e2 W c => by
    obtain ⟨t0, i0⟩ := lw_sc z W.2.2
    have l2 : (Int32.ofNat n - 7 < nI i) = True := by
      apply eq_true
      have e := nI_sI (a := n) (b := 7) (by omega) (by omega)
      rw [i_lt, nI_i (by omega)]
      show (nI n - nI 7).toInt < _
      rw [e]; omega
    refine ⟨h, fun Q => ?_, W⟩
    unfold lwL
    simp [w_iload_n3 (M := mL_law) dL_law_18, w_aload_n0 (M := mL_law) dL_law_19, w_alen (M := mL_law) dL_law_20, w_bipush (M := mL_law) (v := 7) dL_law_21 rfl, w_isub (M := mL_law) dL_law_23, w_ic_gt (M := mL_law) (tgt := 1857) dL_law_24 (by decide), w_iconst (M := mL_law) (v := 1) dL_law_1857 rfl, w_ireturn (M := mL_law) dL_law_1858 rfl, Kn_v_, Kn_n_, kl_i_, kl_a_, kl_l_, kl_n_, s1_0_, s2_0_, s1_1, s1_2, s1_3, s1_4, s1_5, s1_6, s1_7, s1_8, s1_9, s1_10, s1_11, s1_12, s1_13, s1_14, s2_1, s2_2, s2_3, s2_4, s2_5, s2_6, s2_7, s2_8, s2_9, s2_10, s2_11, s2_12, s2_13, s2_14, List.map_nil, List.map_cons, List.sum_nil, List.sum_cons, ct_i_, ct_r_, ct_l_, t_si_, t_sl_, t_sr_, n_si_, n_sl_, n_sr_, i_si_, i_sl_, i_sr_, l_si_, l_sl_, l_sr_, r_si_, r_sl_, r_sr_, vr_s_, vr_n_, nz_0_, nz_1_, t0, l2, show narrow .boolean (.int 1) = .int 1 from rfl]
  intro k
  induction k with
  | zero =>
    intro i h e1 e2 W
    exact ex i h e2 W (by omega)
  | succ k ih =>
    intro i h e1 e2 W
    by_cases c : i + 7 ≤ n
    · obtain ⟨h2, a1, a2⟩ := lw_round z tx W c
      obtain ⟨h3, b1, b2⟩ := ih (i + 7) h2 (by omega) (by omega) a2
      exact ⟨h3, fun Q => (a1 Q).trans (b1 Q), b2⟩
    · exact ex i h e2 W c
end LAWLOOP
