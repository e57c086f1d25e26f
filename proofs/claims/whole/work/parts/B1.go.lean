/-! go: both sides alike -/
section GO
variable {X : PX} {e n m j i T r c d K Z t : Nat} {s x : TS} {h0 h h1 : am_h} {b0 v0 : Int32} {u : Nat → Int32} {VW VS VL : (Nat → Int32) → Int32 → Int32} {g : Nat → Int32} {Q : Option Value → am_h → Prop}
/-- the first i ends put down -/
def KW (g S : TS) (i : Nat) : TS := fun c j => if c = 0 ∧ j = 1 then S 0 1 else if c = 0 ∧ j = 2 then S 0 2 else if 1 ≤ c ∧ c ≤ 6 ∧ j < i then S c j else g c j
set_option maxRecDepth 20000 in
set_option maxHeartbeats 4000000 in
theorem r_keepsNow (hR : sh_R (a_t h0) (a_r h0)) (k : rJ 0 n b0 u h0 h s) : ∃ h', (∀ Q, Cal d mX12_keepsNow [.ref 126] h Q = Q none h') ∧ sm h h' ∧ a_l h' = a_l h ∧ (∀ q j, ¬ q = 127 → a_i h' q j = a_i h q j) ∧ (∀ j, (j < 90 ∨ 737 ≤ j) → a_i h' 127 j = a_i h 127 j) ∧ dec (a_i h' 127) 90 = KW (dec (a_i h 127) 90) s 4 := by
  have hRh := k.R hR
  obtain ⟨a1, a2, a3, a4, a5, a6⟩ := k.2.1
  have st : ∀ (i : Nat) (y : am_h), i < 4 → (sm h y ∧ a_l y = a_l h ∧ (∀ q j, ¬ q = 127 → a_i y q j = a_i h q j) ∧ (∀ j, (j < 90 ∨ 737 ≤ j) → a_i y 127 j = a_i h 127 j) ∧ dec (a_i y 127) 90 = KW (dec (a_i h 127) 90) s i) → ∃ y', (∀ Q, WP d mX12_keepsNow 24 [some (.ref 126), some (.int (nI i))] [] y Q = WP d mX12_keepsNow 24 [some (.ref 126), some (.int (nI (i + 1)))] [] y' Q) ∧ (sm h y' ∧ a_l y' = a_l h ∧ (∀ q j, ¬ q = 127 → a_i y' q j = a_i h q j) ∧ (∀ j, (j < 90 ∨ 737 ≤ j) → a_i y' 127 j = a_i h 127 j) ∧ dec (a_i y' 127) 90 = KW (dec (a_i h 127) 90) s (i + 1)) := by
    intro i y hi ⟨y1, y2, y3, y4, y5⟩
    have yR : sh_R (a_t y) (a_r y) := by rw [y1.1, y1.2.1]; exact hRh
    obtain ⟨z1, z2, z3, z4, z5, z6, -⟩ := k.2.2.1 i hi
    have ix : ∀ a : Nat, a < 1000 → (nI a + nI i).toNatClampNeg = a + i := fun a ha => ix_a (a := a) (by omega)
    have ip : ∀ a : Nat, a < 1000 → (0 ≤ nI a + nI i) = True := fun a ha => ip_a (a := a) (by omega)
    have x1 := ix 93 (by omega); have x2 := ix 97 (by omega); have x3 := ix 101 (by omega); have x4 := ix 105 (by omega); have x5 := ix 109 (by omega); have x6 := ix 113 (by omega)
    have w1 := ip 93 (by omega); have w2 := ip 97 (by omega); have w3 := ip 101 (by omega); have w4 := ip 105 (by omega); have w5 := ip 109 (by omega); have w6 := ip 113 (by omega)
    rw [show nI 93 = 93 from rfl] at x1 w1
    rw [show nI 97 = 97 from rfl] at x2 w2
    rw [show nI 101 = 101 from rfl] at x3 w3
    rw [show nI 105 = 105 from rfl] at x4 w4
    rw [show nI 109 = 109 from rfl] at x5 w5
    rw [show nI 113 = 113 from rfl] at x6 w6
    have v1 : a_i y 152 i = s 1 i := by rw [y3 _ _ (by omega)]; exact z1
    have v2 : a_i y 153 i = s 2 i := by rw [y3 _ _ (by omega)]; exact z2
    have v3 : a_i y 154 i = s 3 i := by rw [y3 _ _ (by omega)]; exact z3
    have v4 : a_i y 155 i = s 4 i := by rw [y3 _ _ (by omega)]; exact z4
    have v5 : a_i y 156 i = s 5 i := by rw [y3 _ _ (by omega)]; exact z5
    have v6 : a_i y 157 i = s 6 i := by rw [y3 _ _ (by omega)]; exact z6
    refine ⟨s_i (s_i (s_i (s_i (s_i (s_i y 127 (93 + i) (s 1 i)) 127 (97 + i) (s 2 i)) 127 (101 + i) (s 3 i)) 127 (105 + i) (s 4 i)) 127 (109 + i) (s 5 i)) 127 (113 + i) (s 6 i), fun Q => ?_, y1.tr ⟨rfl, rfl, rfl⟩, y2, fun q j hq => by simp (disch := omega) only [ine]; exact y3 q j hq, fun j hj => by simp (disch := omega) only [ine]; exact y4 j hj, ?_⟩
    · rw [w_iload_n1 (M := mX12_keepsNow) dX12_keepsNow_24]
      simp [w_iconst (M := mX12_keepsNow) (v := 4) dX12_keepsNow_25 rfl, w_ic_ge (M := mX12_keepsNow) (tgt := 125) dX12_keepsNow_26 (by decide), w_aload_n0 (M := mX12_keepsNow) dX12_keepsNow_29, w_getA (M := mX12_keepsNow) dX12_keepsNow_30 f_12_7 rfl (by decide) (by decide), w_bipush (M := mX12_keepsNow) (v := 93) dX12_keepsNow_33 rfl, w_iload_n1 (M := mX12_keepsNow) dX12_keepsNow_35, w_iadd (M := mX12_keepsNow) dX12_keepsNow_36, w_aload_n0 (M := mX12_keepsNow) dX12_keepsNow_37, w_getA (M := mX12_keepsNow) dX12_keepsNow_38 f_12_94 rfl (by decide) (by decide), w_iload_n1 (M := mX12_keepsNow) dX12_keepsNow_41, w_iaload (M := mX12_keepsNow) dX12_keepsNow_42, w_iastore (M := mX12_keepsNow) dX12_keepsNow_43, w_aload_n0 (M := mX12_keepsNow) dX12_keepsNow_44, w_getA (M := mX12_keepsNow) dX12_keepsNow_45 f_12_7 rfl (by decide) (by decide), w_bipush (M := mX12_keepsNow) (v := 97) dX12_keepsNow_48 rfl, w_iload_n1 (M := mX12_keepsNow) dX12_keepsNow_50, w_iadd (M := mX12_keepsNow) dX12_keepsNow_51, w_aload_n0 (M := mX12_keepsNow) dX12_keepsNow_52, w_getA (M := mX12_keepsNow) dX12_keepsNow_53 f_12_97 rfl (by decide) (by decide), w_iload_n1 (M := mX12_keepsNow) dX12_keepsNow_56, w_iaload (M := mX12_keepsNow) dX12_keepsNow_57, w_iastore (M := mX12_keepsNow) dX12_keepsNow_58, w_aload_n0 (M := mX12_keepsNow) dX12_keepsNow_59, w_getA (M := mX12_keepsNow) dX12_keepsNow_60 f_12_7 rfl (by decide) (by decide), w_bipush (M := mX12_keepsNow) (v := 101) dX12_keepsNow_63 rfl, w_iload_n1 (M := mX12_keepsNow) dX12_keepsNow_65, w_iadd (M := mX12_keepsNow) dX12_keepsNow_66, w_aload_n0 (M := mX12_keepsNow) dX12_keepsNow_67, w_getA (M := mX12_keepsNow) dX12_keepsNow_68 f_12_100 rfl (by decide) (by decide), w_iload_n1 (M := mX12_keepsNow) dX12_keepsNow_71, w_iaload (M := mX12_keepsNow) dX12_keepsNow_72, w_iastore (M := mX12_keepsNow) dX12_keepsNow_73, w_aload_n0 (M := mX12_keepsNow) dX12_keepsNow_74, w_getA (M := mX12_keepsNow) dX12_keepsNow_75 f_12_7 rfl (by decide) (by decide), w_bipush (M := mX12_keepsNow) (v := 105) dX12_keepsNow_78 rfl, w_iload_n1 (M := mX12_keepsNow) dX12_keepsNow_80, w_iadd (M := mX12_keepsNow) dX12_keepsNow_81, w_aload_n0 (M := mX12_keepsNow) dX12_keepsNow_82, w_getA (M := mX12_keepsNow) dX12_keepsNow_83 f_12_103 rfl (by decide) (by decide), w_iload_n1 (M := mX12_keepsNow) dX12_keepsNow_86, w_iaload (M := mX12_keepsNow) dX12_keepsNow_87, w_iastore (M := mX12_keepsNow) dX12_keepsNow_88, w_aload_n0 (M := mX12_keepsNow) dX12_keepsNow_89, w_getA (M := mX12_keepsNow) dX12_keepsNow_90 f_12_7 rfl (by decide) (by decide), w_bipush (M := mX12_keepsNow) (v := 109) dX12_keepsNow_93 rfl, w_iload_n1 (M := mX12_keepsNow) dX12_keepsNow_95, w_iadd (M := mX12_keepsNow) dX12_keepsNow_96, w_aload_n0 (M := mX12_keepsNow) dX12_keepsNow_97, w_getA (M := mX12_keepsNow) dX12_keepsNow_98 f_12_106 rfl (by decide) (by decide), w_iload_n1 (M := mX12_keepsNow) dX12_keepsNow_101, w_iaload (M := mX12_keepsNow) dX12_keepsNow_102, w_iastore (M := mX12_keepsNow) dX12_keepsNow_103, w_aload_n0 (M := mX12_keepsNow) dX12_keepsNow_104, w_getA (M := mX12_keepsNow) dX12_keepsNow_105 f_12_7 rfl (by decide) (by decide), w_bipush (M := mX12_keepsNow) (v := 113) dX12_keepsNow_108 rfl, w_iload_n1 (M := mX12_keepsNow) dX12_keepsNow_110, w_iadd (M := mX12_keepsNow) dX12_keepsNow_111, w_aload_n0 (M := mX12_keepsNow) dX12_keepsNow_112, w_getA (M := mX12_keepsNow) dX12_keepsNow_113 f_12_109 rfl (by decide) (by decide), w_iload_n1 (M := mX12_keepsNow) dX12_keepsNow_116, w_iaload (M := mX12_keepsNow) dX12_keepsNow_117, w_iastore (M := mX12_keepsNow) dX12_keepsNow_118, w_iinc1 (M := mX12_keepsNow) (v := 1) dX12_keepsNow_119 rfl (by decide), w_goto (M := mX12_keepsNow) (tgt := 24) dX12_keepsNow_122 (by decide), Kn_v_, Kn_n_, kl_i_, kl_a_, kl_l_, kl_n_, s1_0_, s2_0_, s1_1, s1_2, s1_3, s1_4, s1_5, s1_6, s1_7, s1_8, s1_9, s1_10, s1_11, s1_12, s1_13, s1_14, s2_1, s2_2, s2_3, s2_4, s2_5, s2_6, s2_7, s2_8, s2_9, s2_10, s2_11, s2_12, s2_13, s2_14, List.map_nil, List.map_cons, List.sum_nil, List.sum_cons, ct_i_, ct_r_, ct_l_, t_si_, t_sl_, t_sr_, n_si_, n_sl_, n_sr_, i_si_, i_sl_, i_sr_, l_si_, l_sl_, l_sr_, r_si_, r_sl_, r_sr_, vr_s_, vr_n_, nz_0_, nz_1_, yR.e, show (nI i < 4) = True from nI_ltT (b := 4) hi (by omega), in1_n (k := i) (n := 4) (by omega), hi, nI_c (a := i) (by omega), nI_s, am_in1, x1, x2, x3, x4, x5, x6, w1, w2, w3, w4, w5, w6, show 93 + i < 20150 by omega, show 97 + i < 20150 by omega, show 101 + i < 20150 by omega, show 105 + i < 20150 by omega, show 109 + i < 20150 by omega, show 113 + i < 20150 by omega, v1, v2, v3, v4, v5, v6, nI_p (a := i) (by omega)]
    · rw [a127_ud, a127_ud, a127_ud, a127_ud, a127_ud, a127_ud]
      rw [show dec (ud (ud (ud (ud (ud (ud (a_i y 127) (93 + i) (s 1 i)) (97 + i) (s 2 i)) (101 + i) (s 3 i)) (105 + i) (s 4 i)) (109 + i) (s 5 i)) (113 + i) (s 6 i)) 90 = up (up (up (up (up (up (dec (a_i y 127) 90) 1 i (s 1 i)) 2 i (s 2 i)) 3 i (s 3 i)) 4 i (s 4 i)) 5 i (s 5 i)) 6 i (s 6 i) from
        (du_c6 hi).trans (congrArg (fun y => up y 6 i (s 6 i)) ((du_c5 hi).trans (congrArg (fun y => up y 5 i (s 5 i)) ((du_c4 hi).trans (congrArg (fun y => up y 4 i (s 4 i)) ((du_c3 hi).trans (congrArg (fun y => up y 3 i (s 3 i)) ((du_c2 hi).trans (congrArg (fun y => up y 2 i (s 2 i)) (du_c1 hi))))))))))]
      rw [y5]
      funext c q
      by_cases hq : q = i ∧ 1 ≤ c ∧ c ≤ 6
      · obtain ⟨q1, q2, q3⟩ := hq
        subst q1
        have : c = 1 ∨ c = 2 ∨ c = 3 ∨ c = 4 ∨ c = 5 ∨ c = 6 := by omega
        have k1 : KW (dec (a_i h 127) 90) s (q + 1) c q = s c q := by
          unfold KW
          rw [if_neg (by omega), if_neg (by omega), if_pos (by omega)]
        rw [k1]
        rcases this with rfl | rfl | rfl | rfl | rfl | rfl <;> simp (disch := omega) only [upn, upe']
      · simp (disch := omega) only [upn]
        unfold KW
        by_cases b1 : c = 0 ∧ q = 1
        · rw [if_pos b1, if_pos b1]
        · rw [if_neg b1, if_neg b1]
          by_cases b2 : c = 0 ∧ q = 2
          · rw [if_pos b2, if_pos b2]
          · rw [if_neg b2, if_neg b2]
            by_cases b3 : 1 ≤ c ∧ c ≤ 6 ∧ q < i
            · rw [if_pos b3, if_pos (by omega)]
            · rw [if_neg b3, if_neg (by omega)]
  obtain ⟨hb, ehb⟩ : ∃ hb, hb = s_i (s_i h 127 91 (s 0 1)) 127 92 (s 0 2) := ⟨_, rfl⟩
  obtain ⟨y, p1, p2, p3, p4, p5, p6⟩ := lp (W := fun i (y : am_h) Q => WP d mX12_keepsNow 24 [some (.ref 126), some (.int (nI i))] [] y Q) (P := fun i y => sm h y ∧ a_l y = a_l h ∧ (∀ q j, ¬ q = 127 → a_i y q j = a_i h q j) ∧ (∀ j, (j < 90 ∨ 737 ≤ j) → a_i y 127 j = a_i h 127 j) ∧ dec (a_i y 127) 90 = KW (dec (a_i h 127) 90) s i) st 4 0 hb (by omega) (by
    rw [ehb]
    refine ⟨⟨rfl, rfl, rfl⟩, rfl, fun q j hq => by simp (disch := omega) only [ine], fun j hj => by simp (disch := omega) only [ine], ?_⟩
    rw [a127_ud, a127_ud]
    rw [show dec (ud (ud (a_i h 127) 91 (s 0 1)) 92 (s 0 2)) 90 = up (up (dec (a_i h 127) 90) 0 1 (s 0 1)) 0 2 (s 0 2) from du_d2.trans (congrArg (fun y => up y 0 2 (s 0 2)) du_d1)]
    funext c q
    unfold KW
    by_cases b1 : c = 0 ∧ q = 1
    · rw [if_pos b1, upn (by omega), upe' b1.1 b1.2]
    · rw [if_neg b1]
      by_cases b2 : c = 0 ∧ q = 2
      · rw [if_pos b2, upe' b2.1 b2.2]
      · rw [if_neg b2, if_neg (by omega), upn b2, upn b1])
  refine ⟨y, fun Q => ?_, p2, p3, p4, p5, p6⟩
  have yR : sh_R (a_t y) (a_r y) := by rw [p2.1, p2.2.1]; exact hRh
  have e1 := p1 Q
  have e0 : (0 : Int32) = nI 0 := rfl
  unfold Cal
  rw [l_X12_keepsNow]
  simp only [am_en, am_ag, ct_i, ct_r, ct_l, List.length_cons, List.length_nil, List.replicate]
  simp [w_aload_n0 (M := mX12_keepsNow) dX12_keepsNow_0, w_getA (M := mX12_keepsNow) dX12_keepsNow_1 f_12_7 rfl (by decide) (by decide), w_bipush (M := mX12_keepsNow) (v := 91) dX12_keepsNow_4 rfl, w_aload_n0 (M := mX12_keepsNow) dX12_keepsNow_6, w_getI (M := mX12_keepsNow) dX12_keepsNow_7 f_12_424 rfl (by decide) (by decide), w_iastore (M := mX12_keepsNow) dX12_keepsNow_10, w_aload_n0 (M := mX12_keepsNow) dX12_keepsNow_11, w_getA (M := mX12_keepsNow) dX12_keepsNow_12 f_12_7 rfl (by decide) (by decide), w_bipush (M := mX12_keepsNow) (v := 92) dX12_keepsNow_15 rfl, w_aload_n0 (M := mX12_keepsNow) dX12_keepsNow_17, w_getI (M := mX12_keepsNow) dX12_keepsNow_18 f_12_430 rfl (by decide) (by decide), w_iastore (M := mX12_keepsNow) dX12_keepsNow_21, w_iconst (M := mX12_keepsNow) (v := 0) dX12_keepsNow_22 rfl, w_istore_n (M := mX12_keepsNow) (i := 1) dX12_keepsNow_23 rfl (by decide), Kn_v_, Kn_n_, kl_i_, kl_a_, kl_l_, kl_n_, s1_0_, s2_0_, s1_1, s1_2, s1_3, s1_4, s1_5, s1_6, s1_7, s1_8, s1_9, s1_10, s1_11, s1_12, s1_13, s1_14, s2_1, s2_2, s2_3, s2_4, s2_5, s2_6, s2_7, s2_8, s2_9, s2_10, s2_11, s2_12, s2_13, s2_14, List.map_nil, List.map_cons, List.sum_nil, List.sum_cons, ct_i_, ct_r_, ct_l_, t_si_, t_sl_, t_sr_, n_si_, n_sl_, n_sr_, i_si_, i_sl_, i_sr_, l_si_, l_sl_, l_sr_, r_si_, r_sl_, r_sr_, vr_s_, vr_n_, nz_0_, nz_1_, hRh.e, am_in1, a3, a5]
  rw [← ehb, e0]
  refine Eq.to_iff (Eq.trans e1 ?_)
  show WP d mX12_keepsNow 24 _ _ _ _ = _
  rw [w_iload_n1 (M := mX12_keepsNow) dX12_keepsNow_24]
  simp [w_iconst (M := mX12_keepsNow) (v := 4) dX12_keepsNow_25 rfl, w_ic_ge (M := mX12_keepsNow) (tgt := 125) dX12_keepsNow_26 (by decide), w_vret (M := mX12_keepsNow) dX12_keepsNow_125 rfl, Kn_v_, Kn_n_, kl_i_, kl_a_, kl_l_, kl_n_, s1_0_, s2_0_, s1_1, s1_2, s1_3, s1_4, s1_5, s1_6, s1_7, s1_8, s1_9, s1_10, s1_11, s1_12, s1_13, s1_14, s2_1, s2_2, s2_3, s2_4, s2_5, s2_6, s2_7, s2_8, s2_9, s2_10, s2_11, s2_12, s2_13, s2_14, List.map_nil, List.map_cons, List.sum_nil, List.sum_cons, ct_i_, ct_r_, ct_l_, t_si_, t_sl_, t_sr_, n_si_, n_sl_, n_sr_, i_si_, i_sl_, i_sr_, l_si_, l_sl_, l_sr_, r_si_, r_sl_, r_sr_, vr_s_, vr_n_, nz_0_, nz_1_, show (nI 4 < 4) = False from eq_false (by decide)]
theorem q_lawsNow (hC : sh_C (a_t h) (a_r h)) {l : Option Nat} (hl : (a_i h 1 7 = -1 ∧ l = none) ∨ ∃ t, t < 4 ∧ a_i h 1 7 = nI t ∧ l = some (94 + 8 * t)) : Cal d mX11_lawsNow [.ref 0] h Q = Q (some (.ref 91)) (s_r h 91 0 l) := by
  unfold Cal
  rw [l_X11_lawsNow]
  simp only [am_en, am_ag, ct_i, ct_r, ct_l, List.length_cons, List.length_nil, List.replicate]
  rcases hl with ⟨z1, rfl⟩ | ⟨t, z0, z1, rfl⟩
  · simp [w_aload_n0 (M := mX11_lawsNow) dX11_lawsNow_0, w_getO (M := mX11_lawsNow) dX11_lawsNow_1 f_11_51 rfl (by decide) (by decide), w_aload_n0 (M := mX11_lawsNow) dX11_lawsNow_4, w_getO (M := mX11_lawsNow) dX11_lawsNow_5 f_11_10 rfl (by decide) (by decide), w_getI (M := mX11_lawsNow) dX11_lawsNow_8 f_11_171 rfl (by decide) (by decide), w_iconst (M := mX11_lawsNow) (v := (-1)) dX11_lawsNow_11 rfl, w_ic_ne (M := mX11_lawsNow) (tgt := 19) dX11_lawsNow_12 (by decide), w_null (M := mX11_lawsNow) dX11_lawsNow_15, w_goto (M := mX11_lawsNow) (tgt := 31) dX11_lawsNow_16 (by decide), w_aload_n0 (M := mX11_lawsNow) dX11_lawsNow_19, w_getA (M := mX11_lawsNow) dX11_lawsNow_20 f_11_37 rfl (by decide) (by decide), w_aload_n0 (M := mX11_lawsNow) dX11_lawsNow_23, w_getO (M := mX11_lawsNow) dX11_lawsNow_24 f_11_10 rfl (by decide) (by decide), w_getI (M := mX11_lawsNow) dX11_lawsNow_27 f_11_171 rfl (by decide) (by decide), w_aaload (M := mX11_lawsNow) dX11_lawsNow_30, w_putO (M := mX11_lawsNow) dX11_lawsNow_31 f_11_382 rfl (Or.inl rfl), w_putON (M := mX11_lawsNow) dX11_lawsNow_31 f_11_382 rfl (Or.inl rfl), w_aload_n0 (M := mX11_lawsNow) dX11_lawsNow_34, w_getO (M := mX11_lawsNow) dX11_lawsNow_35 f_11_51 rfl (by decide) (by decide), w_aret (M := mX11_lawsNow) dX11_lawsNow_38 rfl, Kn_v_, Kn_n_, kl_i_, kl_a_, kl_l_, kl_n_, s1_0_, s2_0_, s1_1, s1_2, s1_3, s1_4, s1_5, s1_6, s1_7, s1_8, s1_9, s1_10, s1_11, s1_12, s1_13, s1_14, s2_1, s2_2, s2_3, s2_4, s2_5, s2_6, s2_7, s2_8, s2_9, s2_10, s2_11, s2_12, s2_13, s2_14, List.map_nil, List.map_cons, List.sum_nil, List.sum_cons, ct_i_, ct_r_, ct_l_, t_si_, t_sl_, t_sr_, n_si_, n_sl_, n_sr_, i_si_, i_sl_, i_sr_, l_si_, l_sl_, l_sr_, r_si_, r_sl_, r_sr_, vr_s_, vr_n_, nz_0_, nz_1_, hC.e, z1]
  · obtain ⟨-, -, -, -, -, -, -, s8⟩ := shTx hC z0
    simp [w_aload_n0 (M := mX11_lawsNow) dX11_lawsNow_0, w_getO (M := mX11_lawsNow) dX11_lawsNow_1 f_11_51 rfl (by decide) (by decide), w_aload_n0 (M := mX11_lawsNow) dX11_lawsNow_4, w_getO (M := mX11_lawsNow) dX11_lawsNow_5 f_11_10 rfl (by decide) (by decide), w_getI (M := mX11_lawsNow) dX11_lawsNow_8 f_11_171 rfl (by decide) (by decide), w_iconst (M := mX11_lawsNow) (v := (-1)) dX11_lawsNow_11 rfl, w_ic_ne (M := mX11_lawsNow) (tgt := 19) dX11_lawsNow_12 (by decide), w_null (M := mX11_lawsNow) dX11_lawsNow_15, w_goto (M := mX11_lawsNow) (tgt := 31) dX11_lawsNow_16 (by decide), w_aload_n0 (M := mX11_lawsNow) dX11_lawsNow_19, w_getA (M := mX11_lawsNow) dX11_lawsNow_20 f_11_37 rfl (by decide) (by decide), w_aload_n0 (M := mX11_lawsNow) dX11_lawsNow_23, w_getO (M := mX11_lawsNow) dX11_lawsNow_24 f_11_10 rfl (by decide) (by decide), w_getI (M := mX11_lawsNow) dX11_lawsNow_27 f_11_171 rfl (by decide) (by decide), w_aaload (M := mX11_lawsNow) dX11_lawsNow_30, w_putO (M := mX11_lawsNow) dX11_lawsNow_31 f_11_382 rfl (Or.inl rfl), w_putON (M := mX11_lawsNow) dX11_lawsNow_31 f_11_382 rfl (Or.inl rfl), w_aload_n0 (M := mX11_lawsNow) dX11_lawsNow_34, w_getO (M := mX11_lawsNow) dX11_lawsNow_35 f_11_51 rfl (by decide) (by decide), w_aret (M := mX11_lawsNow) dX11_lawsNow_38 rfl, Kn_v_, Kn_n_, kl_i_, kl_a_, kl_l_, kl_n_, s1_0_, s2_0_, s1_1, s1_2, s1_3, s1_4, s1_5, s1_6, s1_7, s1_8, s1_9, s1_10, s1_11, s1_12, s1_13, s1_14, s2_1, s2_2, s2_3, s2_4, s2_5, s2_6, s2_7, s2_8, s2_9, s2_10, s2_11, s2_12, s2_13, s2_14, List.map_nil, List.map_cons, List.sum_nil, List.sum_cons, ct_i_, ct_r_, ct_l_, t_si_, t_sl_, t_sr_, n_si_, n_sl_, n_sr_, i_si_, i_sl_, i_sr_, l_si_, l_sl_, l_sr_, r_si_, r_sl_, r_sr_, vr_s_, vr_n_, nz_0_, nz_1_, hC.e, z1, nI_n1 (a := t) (by omega), in1_n (k := t) (n := 4) (by omega), z0, nI_c (a := t) (by omega), s8]
/-- which text rules, as the class has it -/
theorem Inv.rl (k : Inv X h) : (a_i h 1 7 = -1 ∧ a_i h 127 2 = -1) ∨ ∃ t, t < 4 ∧ a_i h 1 7 = nI t ∧ a_i h 127 2 = nI t := by
  have g := k.2.1.1.2.2.2.2
  obtain ⟨-, g1, g2, -⟩ := g
  have e7 : a_i h 1 7 = a_i h 127 2 := by simp [k.e]
  by_cases c : a_i h 127 2 = -1
  · exact Or.inl ⟨e7.trans c, c⟩
  · have c0 : 0 ≤ (a_i h 127 2).toInt := by
      have z : ¬ (a_i h 127 2).toInt = -1 := fun z => c (Int32.toInt_inj.mp (by rw [z]; rfl))
      unfold bt at g2
      omega
    obtain ⟨t, t1, t2, t3⟩ := btn (⟨c0, by unfold bt at g1 g2; omega⟩ : bt 0 (a_i h 127 2) 3) (by omega) (by omega)
    exact Or.inr ⟨t, by unfold bt at g1 g2; omega, e7.trans t1, t1⟩
end GO
