/-! way stands -/
section WAYD
variable {X : PX} {d : Nat} {h y : am_h}
set_option maxRecDepth 20000 in
set_option maxHeartbeats 4000000 in
theorem wyI (hR : sh_R (a_t h) (a_r h)) {o1 o2 w : Nat} {x4 x5 x6 x7 x8 x9 x10 : Option Value} : ∃ (y : am_h) (z6 z7 z8 z9 z10 : Option Value), (∀ Q, WP (d + 1) mX12_way 33 [some (.ref 126), some (.int (nI o1)), some (.int (nI o2)), some (.int (nI w)), x4, x5, x6, x7, x8, x9, x10] [] h Q = WP (d + 1) mX12_way 112 [some (.ref 126), some (.int (nI o1)), some (.int (nI o2)), some (.int (nI w)), some (.int (wI false false)), some (.int (nI 0)), z6, z7, z8, z9, z10] [] y Q) ∧ RW w 0 wInit h y := by
  have key := lp (n := 600) (W := fun i (s : am_h) Q => WP (d + 1) mX12_way 36 [some (.ref 126), some (.int (nI o1)), some (.int (nI o2)), some (.int (nI w)), some (.int (nI i)), x5, x6, x7, x8, x9, x10] [] s Q) (P := fun i s => wv h s ∧ ∀ u, u < i → a_i s 176 u = 0) (fun i s hi hs => by
    obtain ⟨v, z⟩ := hs
    have hRs := v.R hR
    refine ⟨s_i s 176 i 0, fun Q => ?_, v.si (by omega), fun u hu => ?_⟩
    · rw [w_iload4 (M := mX12_way) dX12_way_36]
      simp [w_sipush (M := mX12_way) (v := 600) dX12_way_38 rfl, w_ic_ge (M := mX12_way) (tgt := 58) dX12_way_41 (by decide), w_aload_n0 (M := mX12_way) dX12_way_44, w_getA (M := mX12_way) dX12_way_45 f_12_166 rfl (by decide) (by decide), w_iload4 (M := mX12_way) dX12_way_48, w_iconst (M := mX12_way) (v := 0) dX12_way_50 rfl, w_iastore (M := mX12_way) dX12_way_51, w_iinc4 (M := mX12_way) (v := 1) dX12_way_52 rfl (by decide), w_goto (M := mX12_way) (tgt := 36) dX12_way_55 (by decide), Kn_v_, Kn_n_, kl_i_, kl_a_, kl_l_, kl_n_, s1_0_, s2_0_, s1_1, s1_2, s1_3, s1_4, s1_5, s1_6, s1_7, s1_8, s1_9, s1_10, s1_11, s1_12, s1_13, s1_14, s2_1, s2_2, s2_3, s2_4, s2_5, s2_6, s2_7, s2_8, s2_9, s2_10, s2_11, s2_12, s2_13, s2_14, List.map_nil, List.map_cons, List.sum_nil, List.sum_cons, ct_i_, ct_r_, ct_l_, t_si_, t_sl_, t_sr_, n_si_, n_sl_, n_sr_, i_si_, i_sl_, i_sr_, l_si_, l_sl_, l_sr_, r_si_, r_sl_, r_sr_, vr_s_, vr_n_, nz_0_, nz_1_, hRs.e, show (nI i < 600) = True from nI_ltT (b := 600) hi (by omega), in1_n (k := i) (n := 600) (by omega), hi, nI_c (a := i) (by omega), nI_s]
    · by_cases c : u = i
      · rw [ieq rfl c]
      · rw [ine (by omega)]; exact z u (by omega)) 600 0 h (by omega) ⟨wv.refl, fun u hu => by omega⟩
  obtain ⟨s, k1, v, z⟩ := key
  have hRs := v.R hR
  obtain ⟨y, ey⟩ : ∃ y, y = s_i (s_i (s_i (s_i (s_i (s_i s 173 0 0) 174 0 0) 175 0 0) 173 1 0) 174 1 (nI w)) 175 1 0 := ⟨_, rfl⟩
  refine ⟨y, x6, x7, x8, x9, x10, fun Q => ?_, ?_⟩
  · simp [w_iconst (M := mX12_way) (v := 0) dX12_way_33 rfl, w_istore (M := mX12_way) dX12_way_34 (by decide), Kn_v_, Kn_n_, kl_i_, kl_a_, kl_l_, kl_n_, s1_0_, s2_0_, s1_1, s1_2, s1_3, s1_4, s1_5, s1_6, s1_7, s1_8, s1_9, s1_10, s1_11, s1_12, s1_13, s1_14, s2_1, s2_2, s2_3, s2_4, s2_5, s2_6, s2_7, s2_8, s2_9, s2_10, s2_11, s2_12, s2_13, s2_14, List.map_nil, List.map_cons, List.sum_nil, List.sum_cons, ct_i_, ct_r_, ct_l_, t_si_, t_sl_, t_sr_, n_si_, n_sl_, n_sr_, i_si_, i_sl_, i_sr_, l_si_, l_sl_, l_sr_, r_si_, r_sl_, r_sr_, vr_s_, vr_n_, nz_0_, nz_1_]
    refine Eq.to_iff ((k1 Q).trans ?_)
    rw [w_iload4 (M := mX12_way) dX12_way_36]
    simp [w_sipush (M := mX12_way) (v := 600) dX12_way_38 rfl, w_ic_ge (M := mX12_way) (tgt := 58) dX12_way_41 (by decide), w_aload_n0 (M := mX12_way) dX12_way_44, w_getA (M := mX12_way) dX12_way_45 f_12_166 rfl (by decide) (by decide), w_iload4 (M := mX12_way) dX12_way_48, w_iconst (M := mX12_way) (v := 0) dX12_way_50 rfl, w_iastore (M := mX12_way) dX12_way_51, w_iinc4 (M := mX12_way) (v := 1) dX12_way_52 rfl (by decide), w_goto (M := mX12_way) (tgt := 36) dX12_way_55 (by decide), w_iconst (M := mX12_way) (v := 0) dX12_way_58 rfl, w_istore (M := mX12_way) dX12_way_59 (by decide), w_iload4 (M := mX12_way) dX12_way_61, w_iconst (M := mX12_way) (v := 2) dX12_way_63 rfl, w_ic_ge (M := mX12_way) (tgt := 106) dX12_way_64 (by decide), w_aload_n0 (M := mX12_way) dX12_way_67, w_getA (M := mX12_way) dX12_way_68 f_12_157 rfl (by decide) (by decide), w_iload4 (M := mX12_way) dX12_way_71, w_iconst (M := mX12_way) (v := 0) dX12_way_73 rfl, w_iastore (M := mX12_way) dX12_way_74, w_aload_n0 (M := mX12_way) dX12_way_75, w_getA (M := mX12_way) dX12_way_76 f_12_160 rfl (by decide) (by decide), w_iload4 (M := mX12_way) dX12_way_79, w_iload4 (M := mX12_way) dX12_way_81, w_if_ne (M := mX12_way) (tgt := 90) dX12_way_83 (by decide), w_iconst (M := mX12_way) (v := 0) dX12_way_86 rfl, w_goto (M := mX12_way) (tgt := 91) dX12_way_87 (by decide), w_iload_n3 (M := mX12_way) dX12_way_90, w_iastore (M := mX12_way) dX12_way_91, w_aload_n0 (M := mX12_way) dX12_way_92, w_getA (M := mX12_way) dX12_way_93 f_12_163 rfl (by decide) (by decide), w_iload4 (M := mX12_way) dX12_way_96, w_iconst (M := mX12_way) (v := 0) dX12_way_98 rfl, w_iastore (M := mX12_way) dX12_way_99, w_iinc4 (M := mX12_way) (v := 1) dX12_way_100 rfl (by decide), w_goto (M := mX12_way) (tgt := 61) dX12_way_103 (by decide), w_iconst (M := mX12_way) (v := 0) dX12_way_106 rfl, w_istore (M := mX12_way) dX12_way_107 (by decide), w_iconst (M := mX12_way) (v := 0) dX12_way_109 rfl, w_istore (M := mX12_way) dX12_way_110 (by decide), Kn_v_, Kn_n_, kl_i_, kl_a_, kl_l_, kl_n_, s1_0_, s2_0_, s1_1, s1_2, s1_3, s1_4, s1_5, s1_6, s1_7, s1_8, s1_9, s1_10, s1_11, s1_12, s1_13, s1_14, s2_1, s2_2, s2_3, s2_4, s2_5, s2_6, s2_7, s2_8, s2_9, s2_10, s2_11, s2_12, s2_13, s2_14, List.map_nil, List.map_cons, List.sum_nil, List.sum_cons, ct_i_, ct_r_, ct_l_, t_si_, t_sl_, t_sr_, n_si_, n_sl_, n_sr_, i_si_, i_sl_, i_sr_, l_si_, l_sl_, l_sr_, r_si_, r_sl_, r_sr_, vr_s_, vr_n_, nz_0_, nz_1_, hRs.e, show (nI 600 < 600) = False from nI_ltF (b := 600) (Nat.le_refl _) (by omega), show ((0 : Int32) < 2) = True from eq_true (by decide), show ((1 : Int32) < 2) = True from eq_true (by decide), show ((2 : Int32) < 2) = False from eq_false (by decide), am_in1, show (1 + 1 : Int32) = 2 from rfl]
    rw [ey]
    exact Iff.rfl
  · have vy : wv h y := by
      rw [ey]
      exact (((((v.si (by omega)).si (by omega)).si (by omega)).si (by omega)).si (by omega)).si (by omega)
    refine ⟨vy, ?_, ?_, ?_, ?_, fun _ => ?_, fun _ => ?_, fun u hu => by omega, fun u h1 h2 => ?_⟩
    · rw [ey]; simp (disch := omega) only [ine, ieq]; rfl
    · rw [ey]; simp (disch := omega) only [ine, ieq]; rw [if_pos (Nat.zero_le _)]
    · rw [ey]; simp (disch := omega) only [ine, ieq]; rfl
    · rw [ey]; simp (disch := omega) only [ine, ieq]
    · rw [ey]; simp (disch := omega) only [ine, ieq]; rfl
    · rw [ey]; simp (disch := omega) only [ine, ieq]; rfl
    · rw [ey]; simp (disch := omega) only [ine]; exact z u h2
set_option maxRecDepth 20000 in
set_option maxHeartbeats 4000000 in
theorem q_X12_way (hR : sh_R (a_t h) (a_r h)) {n o1 o2 w A B S0 S1 L0 L1 : Nat} (hn : a_i h 127 0 = nI n) (n4 : n ≤ 4) (n1 : o1 < n) (n2 : o2 < n) (ne : ¬ o1 = o2) (hw : w ≤ 99) (hA : A ≤ 60) (hB : B ≤ 60) (hS0 : S0 ≤ 99) (hS1 : S1 ≤ 99) (hL0 : L0 ≤ 99) (hL1 : L1 ≤ 99) (l0 : 1 ≤ L0) (l1 : 1 ≤ L1)
    (dA : a_i h 127 (117 + 4 * o1 + o2) = nI A) (dB : a_i h 127 (117 + 4 * o2 + o1) = nI B) (s0 : a_i h 127 (12 + 4 * o1 + 2) = nI S0) (s1 : a_i h 127 (12 + 4 * o2 + 2) = nI S1) (m0 : a_i h 127 (12 + 4 * o1 + 3) = nI L0) (m1 : a_i h 127 (12 + 4 * o2 + 3) = nI L1) : ∃ y, (∀ Q, Cal (d + 2) mX12_way [.ref 126, .int (nI o1), .int (nI o2), .int (nI w)] h Q = Q (some (.int (wAns w A B S0 S1 L0 L1))) y) ∧ wv h y := by
  obtain ⟨y0, z6, z7, z8, z9, z10, k0, r0⟩ := wyI (d := d + 1) hR (o1 := o1) (o2 := o2) (w := w) (x4 := none) (x5 := none) (x6 := none) (x7 := none) (x8 := none) (x9 := none) (x10 := none)
  have key := lp (n := 300) (W := fun t (s : (am_h × WT) × Option Value × Option Value × Option Value × Option Value × Option Value) Q => WP (d + 2) mX12_way 112 [some (.ref 126), some (.int (nI o1)), some (.int (nI o2)), some (.int (nI w)), some (.int (wI s.1.2.2.1 s.1.2.2.2)), some (.int (nI t)), s.2.1, s.2.2.1, s.2.2.2.1, s.2.2.2.2.1, s.2.2.2.2.2] [] s.1.1 Q) (P := fun t s => RW w t s.1.2 h s.1.1 ∧ wOk w L0 L1 t s.1.2 ∧ s.1.2 = itr (wSt w A B S0 S1 L0 L1) 0 t wInit) (fun t s ht hs => by
    obtain ⟨⟨s1a, s1b⟩, x6, x7, x8, x9, x10⟩ := s
    obtain ⟨a1, a2, a3⟩ := hs
    simp only at a1 a2 a3
    obtain ⟨y', z6, z7, z8, z9, z10, b1, b2⟩ := wyT (d := d + 1) hR (by omega) (by omega) hw hA hB hS0 hS1 hL0 hL1 l0 l1 dA dB s0 s1 m0 m1 ht a2 a1 x6 x7 x8 x9 x10
    refine ⟨((y', wSt w A B S0 S1 L0 L1 t s1b), z6, z7, z8, z9, z10), b1, b2, wOk_s l0 l1 a2, ?_⟩
    show wSt w A B S0 S1 L0 L1 t s1b = itr (wSt w A B S0 S1 L0 L1) 0 (t + 1) wInit
    rw [itr_cut t 0 1, ← a3, Nat.zero_add]
    rfl) 300 0 ((y0, wInit), z6, z7, z8, z9, z10) (by omega) ⟨r0, wOk_0 l0 l1, rfl⟩
  obtain ⟨⟨⟨y, s⟩, x6, x7, x8, x9, x10⟩, k1, ⟨v, _⟩, _, es⟩ := key
  simp only at k1 es v
  have e1 : nI n - 1 = nI (n - 1) := nI_sb (b := 1) (by omega)
  have c1 : inn (nI o1) 0 (nI n - 1) = true := by rw [e1]; exact inn_t (a := 0) (by omega) (by omega) (by omega)
  have c2 : inn (nI o2) 0 (nI n - 1) = true := by rw [e1]; exact inn_t (a := 0) (by omega) (by omega) (by omega)
  have c3 : (nI o1 = nI o2) = False := by rw [nI_inj (by omega) (by omega)]; exact eq_false ne
  have c4 : inn (nI w) 0 99 = true := inn_t (a := 0) (b := 99) (by omega) (by omega) (by omega)
  refine ⟨y, fun Q => ?_, v⟩
  have k0' := k0 Q
  have k1' := k1 Q
  unfold Cal
  rw [l_X12_way]
  simp only [am_en, am_ag, ct_i, ct_r, ct_l, List.length_cons, List.length_nil, List.replicate]
  simp [w_aload_n0 (M := mX12_way) dX12_way_0, w_iload_n1 (M := mX12_way) dX12_way_1, c_12_185 (M := mX12_way) dX12_way_2 rfl, w_if_eq (M := mX12_way) (tgt := 31) dX12_way_5 (by decide), w_aload_n0 (M := mX12_way) dX12_way_8, w_iload_n2 (M := mX12_way) dX12_way_9, c_12_185 (M := mX12_way) dX12_way_10 rfl, w_if_eq (M := mX12_way) (tgt := 31) dX12_way_13 (by decide), w_iload_n1 (M := mX12_way) dX12_way_16, w_iload_n2 (M := mX12_way) dX12_way_17, w_ic_eq (M := mX12_way) (tgt := 31) dX12_way_18 (by decide), w_iload_n3 (M := mX12_way) dX12_way_21, w_iconst (M := mX12_way) (v := 0) dX12_way_22 rfl, w_bipush (M := mX12_way) (v := 99) dX12_way_23 rfl, c_12_173 (M := mX12_way) dX12_way_25 rfl, w_if_ne (M := mX12_way) (tgt := 33) dX12_way_28 (by decide), w_iconst (M := mX12_way) (v := (-1)) dX12_way_31 rfl, w_iret (M := mX12_way) dX12_way_32 rfl, Kn_v_, Kn_n_, kl_i_, kl_a_, kl_l_, kl_n_, s1_0_, s2_0_, s1_1, s1_2, s1_3, s1_4, s1_5, s1_6, s1_7, s1_8, s1_9, s1_10, s1_11, s1_12, s1_13, s1_14, s2_1, s2_2, s2_3, s2_4, s2_5, s2_6, s2_7, s2_8, s2_9, s2_10, s2_11, s2_12, s2_13, s2_14, List.map_nil, List.map_cons, List.sum_nil, List.sum_cons, ct_i_, ct_r_, ct_l_, t_si_, t_sl_, t_sr_, n_si_, n_sl_, n_sr_, i_si_, i_sl_, i_sr_, l_si_, l_sl_, l_sr_, r_si_, r_sl_, r_sr_, vr_s_, vr_n_, nz_0_, nz_1_, q_X12_isEnd, q_X12_in, hR, hR.e, hn, c1, c2, c3, c4, bI_t, k0']
  refine Eq.to_iff (k1'.trans ?_)
  rw [← wAns_300 l0 l1 hw hL0 hL1, ← es]
  rw [w_iload5 (M := mX12_way) dX12_way_112]
  simp [w_sipush (M := mX12_way) (v := 300) dX12_way_114 rfl, w_ic_ge (M := mX12_way) (tgt := 379) dX12_way_117 (by decide), w_iload4 (M := mX12_way) dX12_way_379, w_iret (M := mX12_way) dX12_way_381 rfl, Kn_v_, Kn_n_, kl_i_, kl_a_, kl_l_, kl_n_, s1_0_, s2_0_, s1_1, s1_2, s1_3, s1_4, s1_5, s1_6, s1_7, s1_8, s1_9, s1_10, s1_11, s1_12, s1_13, s1_14, s2_1, s2_2, s2_3, s2_4, s2_5, s2_6, s2_7, s2_8, s2_9, s2_10, s2_11, s2_12, s2_13, s2_14, List.map_nil, List.map_cons, List.sum_nil, List.sum_cons, ct_i_, ct_r_, ct_l_, t_si_, t_sl_, t_sr_, n_si_, n_sl_, n_sr_, i_si_, i_sl_, i_sr_, l_si_, l_sl_, l_sr_, r_si_, r_sl_, r_sr_, vr_s_, vr_n_, nz_0_, nz_1_, show (nI 300 < 300) = False from nI_ltF (b := 300) (Nat.le_refl _) (by omega)]
set_option maxRecDepth 20000 in
set_option maxHeartbeats 4000000 in
theorem q_X11_way (hC : sh_C (a_t h) (a_r h)) {n o1 o2 w A B S0 S1 L0 L1 : Nat} (hn : a_i h 2 4 = nI n) (n4 : n ≤ 4) (n1 : o1 < n) (n2 : o2 < n) (ne : ¬ o1 = o2) (hw : w ≤ 99) (hA : A ≤ 60) (hB : B ≤ 60) (hS0 : S0 ≤ 99) (hS1 : S1 ≤ 99) (hL0 : L0 ≤ 99) (hL1 : L1 ≤ 99) (l0 : 1 ≤ L0) (l1 : 1 ≤ L1)
    (dA : a_i h 8 (o1 * 4 + o2) = nI A) (dB : a_i h 8 (o2 * 4 + o1) = nI B) (s0 : a_i h 5 o1 = nI S0) (s1 : a_i h 5 o2 = nI S1) (m0 : a_i h 6 o1 = nI L0) (m1 : a_i h 6 o2 = nI L1) {Q : Option Value → am_h → Prop} : Cal (d + 3) mX11_way [.ref 0, .int (nI o1), .int (nI o2), .int (nI w)] h Q = Q (some (.int (wAns w A B S0 S1 L0 L1))) h := by
  have e1 : nI n - 1 = nI (n - 1) := nI_sb (b := 1) (by omega)
  have c1 : inn (nI o1) 0 (nI n - 1) = true := by rw [e1]; exact inn_t (a := 0) (by omega) (by omega) (by omega)
  have c2 : inn (nI o2) 0 (nI n - 1) = true := by rw [e1]; exact inn_t (a := 0) (by omega) (by omega) (by omega)
  have c3 : (nI o1 = nI o2) = False := by rw [nI_inj (by omega) (by omega)]; exact eq_false ne
  have c4 : inn (nI w) 0 99 = true := inn_t (a := 0) (b := 99) (by omega) (by omega) (by omega)
  obtain ⟨j1, j2⟩ := nI_wl (w := o1) (e := o2) (by omega) (by omega)
  obtain ⟨j3, j4⟩ := nI_wl (w := o2) (e := o1) (by omega) (by omega)
  have ok1 : wOk w L0 L1 1 wInit := by
    have := wOk_s (A := A) (B := B) (S0 := S0) (S1 := S1) l0 l1 (wOk_0 (w := w) l0 l1)
    rwa [wSt_0 l0 l1] at this
  have wy : ∀ Q, Cal (d + 2) mX11_whoYields [.ref 0, .int (nI o1), .int (nI o2), .int (nI w)] h Q = Q (some (.int (wAns w A B S0 S1 L0 L1))) h := fun Q => by
    have z := wyCl (d := d + 1) hC (o1 := o1) (o2 := o2) (by omega) (by omega) hw hA hB hS0 hS1 hL0 hL1 l0 l1 s0 s1 m0 m1 (w + 99) 1 wInit (none, none, none) (by omega) (Nat.le_refl _) ok1 Q
    unfold wyL wInit at z
    simp only [] at z
    unfold Cal
    rw [l_X11_whoYields]
    simp only [am_en, am_ag, ct_i, ct_r, ct_l, List.length_cons, List.length_nil, List.replicate]
    simp [w_aload_n0 (M := mX11_whoYields) dX11_whoYields_0, w_getO (M := mX11_whoYields) dX11_whoYields_1 f_11_10 rfl (by decide) (by decide), w_getO (M := mX11_whoYields) dX11_whoYields_4 f_11_82 rfl (by decide) (by decide), w_iload_n1 (M := mX11_whoYields) dX11_whoYields_7, w_iload_n2 (M := mX11_whoYields) dX11_whoYields_8, c_11_292 (M := mX11_whoYields) dX11_whoYields_9 rfl, w_istore (M := mX11_whoYields) dX11_whoYields_12 (by decide), w_aload_n0 (M := mX11_whoYields) dX11_whoYields_14, w_getO (M := mX11_whoYields) dX11_whoYields_15 f_11_10 rfl (by decide) (by decide), w_getO (M := mX11_whoYields) dX11_whoYields_18 f_11_82 rfl (by decide) (by decide), w_iload_n2 (M := mX11_whoYields) dX11_whoYields_21, w_iload_n1 (M := mX11_whoYields) dX11_whoYields_22, c_11_292 (M := mX11_whoYields) dX11_whoYields_23 rfl, w_istore (M := mX11_whoYields) dX11_whoYields_26 (by decide), w_iconst (M := mX11_whoYields) (v := (-1)) dX11_whoYields_28 rfl, w_istore (M := mX11_whoYields) dX11_whoYields_29 (by decide), w_iconst (M := mX11_whoYields) (v := (-1)) dX11_whoYields_31 rfl, w_istore (M := mX11_whoYields) dX11_whoYields_32 (by decide), w_iconst (M := mX11_whoYields) (v := 0) dX11_whoYields_34 rfl, w_istore (M := mX11_whoYields) dX11_whoYields_35 (by decide), w_iconst (M := mX11_whoYields) (v := 0) dX11_whoYields_37 rfl, w_istore (M := mX11_whoYields) dX11_whoYields_38 (by decide), w_iconst (M := mX11_whoYields) (v := 0) dX11_whoYields_40 rfl, w_istore (M := mX11_whoYields) dX11_whoYields_41 (by decide), w_iconst (M := mX11_whoYields) (v := 1) dX11_whoYields_43 rfl, w_istore (M := mX11_whoYields) dX11_whoYields_44 (by decide), Kn_v_, Kn_n_, kl_i_, kl_a_, kl_l_, kl_n_, s1_0_, s2_0_, s1_1, s1_2, s1_3, s1_4, s1_5, s1_6, s1_7, s1_8, s1_9, s1_10, s1_11, s1_12, s1_13, s1_14, s2_1, s2_2, s2_3, s2_4, s2_5, s2_6, s2_7, s2_8, s2_9, s2_10, s2_11, s2_12, s2_13, s2_14, List.map_nil, List.map_cons, List.sum_nil, List.sum_cons, ct_i_, ct_r_, ct_l_, t_si_, t_sl_, t_sr_, n_si_, n_sl_, n_sr_, i_si_, i_sl_, i_sr_, l_si_, l_sl_, l_sr_, r_si_, r_sl_, r_sr_, vr_s_, vr_n_, nz_0_, nz_1_, hC, hC.e, q_X5_lag_7, j1, j2, j3, j4, dA, dB, show o1 * 4 + o2 < 16 by omega, show o2 * 4 + o1 < 16 by omega]
    exact Eq.to_iff z
  unfold Cal
  rw [l_X11_way]
  simp only [am_en, am_ag, ct_i, ct_r, ct_l, List.length_cons, List.length_nil, List.replicate]
  simp [w_aload_n0 (M := mX11_way) dX11_way_0, w_iload_n1 (M := mX11_way) dX11_way_1, w_iload_n2 (M := mX11_way) dX11_way_2, c_11_88 (M := mX11_way) dX11_way_3 rfl, w_if_eq (M := mX11_way) (tgt := 19) dX11_way_6 (by decide), w_iload_n3 (M := mX11_way) dX11_way_9, w_iconst (M := mX11_way) (v := 0) dX11_way_10 rfl, w_bipush (M := mX11_way) (v := 99) dX11_way_11 rfl, c_11_56 (M := mX11_way) dX11_way_13 rfl, w_if_ne (M := mX11_way) (tgt := 21) dX11_way_16 (by decide), w_iconst (M := mX11_way) (v := (-1)) dX11_way_19 rfl, w_iret (M := mX11_way) dX11_way_20 rfl, w_aload_n0 (M := mX11_way) dX11_way_21, w_iload_n1 (M := mX11_way) dX11_way_22, w_iload_n2 (M := mX11_way) dX11_way_23, w_iload_n3 (M := mX11_way) dX11_way_24, c_11_373 (M := mX11_way) dX11_way_25 rfl, w_iret (M := mX11_way) dX11_way_28 rfl, Kn_v_, Kn_n_, kl_i_, kl_a_, kl_l_, kl_n_, s1_0_, s2_0_, s1_1, s1_2, s1_3, s1_4, s1_5, s1_6, s1_7, s1_8, s1_9, s1_10, s1_11, s1_12, s1_13, s1_14, s2_1, s2_2, s2_3, s2_4, s2_5, s2_6, s2_7, s2_8, s2_9, s2_10, s2_11, s2_12, s2_13, s2_14, List.map_nil, List.map_cons, List.sum_nil, List.sum_cons, ct_i_, ct_r_, ct_l_, t_si_, t_sl_, t_sr_, n_si_, n_sl_, n_sr_, i_si_, i_sl_, i_sr_, l_si_, l_sl_, l_sr_, r_si_, r_sl_, r_sr_, vr_s_, vr_n_, nz_0_, nz_1_, hC, hC.e, q_X11_areTwoEnds, q_X11_within, hn, c1, c2, c3, c4, bI_t, wy]
set_option maxRecDepth 20000 in
set_option maxHeartbeats 4000000 in
theorem op_way (k : Inv X h) {v0 v1 v2 : Int32} : opS X (d + 3) mX11_way mX12_way [.ref 0, .int v0, .int v1, .int v2] [.ref 126, .int v0, .int v1, .int v2] h := by
  have hC := k.1.1
  have hR := k.1.2.1
  have kf := k.e
  obtain ⟨N, e1, e2, e3⟩ := k.N
  by_cases c : inn v0 0 (a_i h 127 0 - 1) = true ∧ inn v1 0 (a_i h 127 0 - 1) = true ∧ ¬ v0 = v1 ∧ inn v2 0 99 = true
  · obtain ⟨c0, c1, c2, c3⟩ := c
    obtain ⟨a, a1, rfl⟩ := inn_ix (n := N) (by omega) (by rw [e1] at c0; exact c0)
    obtain ⟨b, b1, rfl⟩ := inn_ix (n := N) (by omega) (by rw [e1] at c1; exact c1)
    obtain ⟨w, w1, w2, rfl⟩ := inn_n c3 (a := 0) (b := 99) rfl rfl (by omega) (by omega)
    have ne : ¬ a = b := fun z => c2 (by rw [z])
    have rT := k.2.1.1.1.2
    have wg := k.2.1.1.2.2.2.2.2.2.2.2.2.2.2.2.2.1
    have ws := k.2.1.2.2.2.2.1.2.2.2.2.2.1
    have D : ∀ i, i < 16 → ∃ A, A ≤ 60 ∧ a_i h 127 (117 + i) = nI A := fun i hi => by
      have z := ws i hi
      rw [dec_c7 hi] at z
      obtain ⟨A, y1, y2, y3⟩ := btn z (by omega) (by omega)
      exact ⟨A, by have := z.2; omega, y1⟩
    have E : ∀ e, e < N → ∃ S L, S ≤ 99 ∧ 1 ≤ L ∧ L ≤ 99 ∧ a_i h 127 (12 + 4 * e + 2) = nI S ∧ a_i h 127 (12 + 4 * e + 3) = nI L ∧ a_i h 5 e = nI S ∧ a_i h 6 e = nI L := fun e he => by
      obtain ⟨x1, x2, x3, x4⟩ := wg e (by omega)
      obtain ⟨z1, z2, z3, z4⟩ := rT e (by omega)
      obtain ⟨S, y1, y2, y3⟩ := btn x3 (by omega) (by omega)
      obtain ⟨L, y4, y5, y6⟩ := btn x4 (by omega) (by omega)
      exact ⟨S, L, by have := x3.2; omega, by have := x4.1; omega, by have := x4.2; omega, y1, y4, by rw [← y1]; exact z3, by rw [← y4]; exact z4⟩
    obtain ⟨A, A1, A2⟩ := D (4 * a + b) (by omega)
    obtain ⟨B, B1, B2⟩ := D (4 * b + a) (by omega)
    rw [← Nat.add_assoc] at A2 B2
    obtain ⟨S0, L0, p1, p2, p3, p4, p5, p6, p7⟩ := E a a1
    obtain ⟨S1, L1, q1, q2, q3, q4, q5, q6, q7⟩ := E b b1
    have dA : a_i h 8 (a * 4 + b) = nI A := by
      rw [(k.dl (i := a * 4 + b) (by omega)).1, show 117 + (a * 4 + b) = 117 + 4 * a + b by omega]; exact A2
    have dB : a_i h 8 (b * 4 + a) = nI B := by
      rw [(k.dl (i := b * 4 + a) (by omega)).1, show 117 + (b * 4 + a) = 117 + 4 * b + a by omega]; exact B2
    obtain ⟨y, r1, r2⟩ := q_X12_way (d := d + 1) hR e1 e2 a1 b1 ne w2 A1 B1 p1 q1 p3 q3 p2 q2 A2 B2 p4 q4 p5 q5
    refine ⟨wAns w A B S0 S1 L0 L1, h, y, fun Q => ?_, r1, ?_⟩
    · exact q_X11_way hC (by rw [kf.1]; exact e1) e2 a1 b1 ne w2 A1 B1 p1 q1 p3 q3 p2 q2 dA dB p6 q6 p7 q7
    · exact Inv_scr k r2.1.1 r2.1.2.2 (fun q j _ => by rw [r2.1.2.1]) (fun q j c => r2.2.2 q j (fun z => c (by unfold scr; omega))) (fun q _ => by rw [r2.2.1])
  · refine both0.S ⟨-1, fun Q => ?_, fun Q => ?_⟩ k
    · unfold Cal
      rw [l_X11_way]
      simp only [am_en, am_ag, ct_i, ct_r, ct_l, List.length_cons, List.length_nil, List.replicate]
      by_cases c0 : inn v0 0 (a_i h 127 0 - 1) = true <;> by_cases c1 : inn v1 0 (a_i h 127 0 - 1) = true <;> by_cases c2 : v0 = v1 <;> by_cases c3 : inn v2 0 99 = true <;> simp [c0, c1, c2, c3] at c <;> simp [w_aload_n0 (M := mX11_way) dX11_way_0, w_iload_n1 (M := mX11_way) dX11_way_1, w_iload_n2 (M := mX11_way) dX11_way_2, c_11_88 (M := mX11_way) dX11_way_3 rfl, w_if_eq (M := mX11_way) (tgt := 19) dX11_way_6 (by decide), w_iload_n3 (M := mX11_way) dX11_way_9, w_iconst (M := mX11_way) (v := 0) dX11_way_10 rfl, w_bipush (M := mX11_way) (v := 99) dX11_way_11 rfl, c_11_56 (M := mX11_way) dX11_way_13 rfl, w_if_ne (M := mX11_way) (tgt := 21) dX11_way_16 (by decide), w_iconst (M := mX11_way) (v := (-1)) dX11_way_19 rfl, w_iret (M := mX11_way) dX11_way_20 rfl, w_aload_n0 (M := mX11_way) dX11_way_21, w_iload_n1 (M := mX11_way) dX11_way_22, w_iload_n2 (M := mX11_way) dX11_way_23, w_iload_n3 (M := mX11_way) dX11_way_24, c_11_373 (M := mX11_way) dX11_way_25 rfl, w_iret (M := mX11_way) dX11_way_28 rfl, Kn_v_, Kn_n_, kl_i_, kl_a_, kl_l_, kl_n_, s1_0_, s2_0_, s1_1, s1_2, s1_3, s1_4, s1_5, s1_6, s1_7, s1_8, s1_9, s1_10, s1_11, s1_12, s1_13, s1_14, s2_1, s2_2, s2_3, s2_4, s2_5, s2_6, s2_7, s2_8, s2_9, s2_10, s2_11, s2_12, s2_13, s2_14, List.map_nil, List.map_cons, List.sum_nil, List.sum_cons, ct_i_, ct_r_, ct_l_, t_si_, t_sl_, t_sr_, n_si_, n_sl_, n_sr_, i_si_, i_sl_, i_sr_, l_si_, l_sl_, l_sr_, r_si_, r_sl_, r_sr_, vr_s_, vr_n_, nz_0_, nz_1_, bI_0, bI_n, bI_t, bI_f, q_X11_within, q_X11_areTwoEnds, hC, hC.e, kf, c0, c1, c2, c3]
    · unfold Cal
      rw [l_X12_way]
      simp only [am_en, am_ag, ct_i, ct_r, ct_l, List.length_cons, List.length_nil, List.replicate]
      by_cases c0 : inn v0 0 (a_i h 127 0 - 1) = true <;> by_cases c1 : inn v1 0 (a_i h 127 0 - 1) = true <;> by_cases c2 : v0 = v1 <;> by_cases c3 : inn v2 0 99 = true <;> simp [c0, c1, c2, c3] at c <;> simp [w_aload_n0 (M := mX12_way) dX12_way_0, w_iload_n1 (M := mX12_way) dX12_way_1, c_12_185 (M := mX12_way) dX12_way_2 rfl, w_if_eq (M := mX12_way) (tgt := 31) dX12_way_5 (by decide), w_aload_n0 (M := mX12_way) dX12_way_8, w_iload_n2 (M := mX12_way) dX12_way_9, c_12_185 (M := mX12_way) dX12_way_10 rfl, w_if_eq (M := mX12_way) (tgt := 31) dX12_way_13 (by decide), w_iload_n1 (M := mX12_way) dX12_way_16, w_iload_n2 (M := mX12_way) dX12_way_17, w_ic_eq (M := mX12_way) (tgt := 31) dX12_way_18 (by decide), w_iload_n3 (M := mX12_way) dX12_way_21, w_iconst (M := mX12_way) (v := 0) dX12_way_22 rfl, w_bipush (M := mX12_way) (v := 99) dX12_way_23 rfl, c_12_173 (M := mX12_way) dX12_way_25 rfl, w_if_ne (M := mX12_way) (tgt := 33) dX12_way_28 (by decide), w_iconst (M := mX12_way) (v := (-1)) dX12_way_31 rfl, w_iret (M := mX12_way) dX12_way_32 rfl, Kn_v_, Kn_n_, kl_i_, kl_a_, kl_l_, kl_n_, s1_0_, s2_0_, s1_1, s1_2, s1_3, s1_4, s1_5, s1_6, s1_7, s1_8, s1_9, s1_10, s1_11, s1_12, s1_13, s1_14, s2_1, s2_2, s2_3, s2_4, s2_5, s2_6, s2_7, s2_8, s2_9, s2_10, s2_11, s2_12, s2_13, s2_14, List.map_nil, List.map_cons, List.sum_nil, List.sum_cons, ct_i_, ct_r_, ct_l_, t_si_, t_sl_, t_sr_, n_si_, n_sl_, n_sr_, i_si_, i_sl_, i_sr_, l_si_, l_sl_, l_sr_, r_si_, r_sl_, r_sr_, vr_s_, vr_n_, nz_0_, nz_1_, bI_0, bI_n, bI_t, bI_f, q_X12_in, q_X12_isEnd, hR, hR.e, am_in1, c0, c1, c2, c3]
end WAYD
