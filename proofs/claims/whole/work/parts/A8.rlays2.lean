/-! all laid out: the other side, whole -/
section RLAYS2
variable {e n m j i T r c d K Z t I : Nat} {s x y : TS} {h0 h h1 : am_h} {Q : Option Value → am_h → Prop}
/-- the first numbers laid out -/
def LN0 (m : Nat) (h y : am_h) : Prop := sm h y ∧ a_l y = a_l h ∧ a_i y 126 42 = nI m ∧ a_i y 126 43 = a_i h 127 0 ∧ a_i y 126 44 = a_i h 127 91 ∧ a_i y 126 45 = a_i h 127 90 ∧ a_i y 126 46 = a_i h 127 92 ∧ a_i y 126 47 = 0 ∧ a_i y 126 48 = 0 ∧ a_i y 126 49 = 0
theorem LN0.si {h' : am_h} {q k : Nat} {v : Int32} (L : LN0 m h h') (hq : ¬ q = 126) : LN0 m h (s_i h' q k v) := by
  obtain ⟨l1, l2, l3, l4, l5, l6, l7, l8, l9, l10⟩ := L
  refine ⟨l1.tr ⟨rfl, rfl, rfl⟩, l2, ?_, ?_, ?_, ?_, ?_, ?_, ?_, ?_⟩ <;> rw [ine (by omega)] <;> assumption
/-- an end's numbers laid out -/
def LNe (h y : am_h) (e : Nat) : Prop := a_i y 152 e = a_i h 127 (93 + e) ∧ a_i y 153 e = a_i h 127 (97 + e) ∧ a_i y 154 e = a_i h 127 (101 + e) ∧ a_i y 155 e = a_i h 127 (105 + e) ∧ a_i y 156 e = a_i h 127 (109 + e) ∧ a_i y 157 e = a_i h 127 (113 + e) ∧ a_i y 160 e = -1 ∧ a_i y 161 e = 0 ∧ a_i y 162 e = 0
/-- cells that laying out leaves -/
def lch (q j : Nat) : Prop := (q = 126 ∧ 42 ≤ j ∧ j ≤ 49) ∨ (152 ≤ q ∧ q ≤ 157) ∨ (160 ≤ q ∧ q ≤ 163) ∨ q = 165 ∨ q = 166
set_option maxRecDepth 20000 in
set_option maxHeartbeats 4000000 in
theorem r_lays0 (hR : sh_R (a_t h) (a_r h)) : ∃ h', (∀ Q, Cal (d + 3) mX12_laysNow [.ref 126, .int (nI m)] h Q = WP (d + 3) mX12_laysNow 246 [some (.ref 126), some (.int (nI m)), some (.int (nI 0))] [] h' Q) ∧ LN0 m h h' ∧ (∀ k, k < 64 → a_i h' 166 k = 0) ∧ (∀ k, k < 16 → a_i h' 165 k = a_i h 127 (117 + k)) ∧ (∀ e, e < 4 → LNe h h' e) ∧ ∀ q j, ¬ lch q j → a_i h' q j = a_i h q j := by
  obtain ⟨hb, ehb⟩ : ∃ hb, hb = s_i (s_i (s_i (s_i (s_i (s_i (s_i (s_i h 126 42 (nI m)) 126 43 (a_i h 127 0)) 126 44 (a_i h 127 91)) 126 45 (a_i h 127 90)) 126 46 (a_i h 127 92)) 126 47 0) 126 48 0) 126 49 0 := ⟨_, rfl⟩
  have Lb : LN0 m h hb := by
    rw [ehb]
    refine ⟨⟨rfl, rfl, rfl⟩, rfl, ?_, ?_, ?_, ?_, ?_, ?_, ?_, ?_⟩ <;> simp (disch := omega) only [ine, ieq]
  have bb : ∀ q j, ¬ (q = 126 ∧ 42 ≤ j ∧ j ≤ 49) → a_i hb q j = a_i h q j := by
    intro q j c
    rw [ehb]
    simp (disch := omega) only [ine]
  -- the tenths behind
  have st1 : ∀ (i : Nat) (y : am_h), i < 64 → (LN0 m h y ∧ (∀ k, k < i → a_i y 166 k = 0) ∧ ∀ q j, ¬ q = 166 → a_i y q j = a_i hb q j) → ∃ y', (∀ Q, WP (d + 3) mX12_laysNow 65 [some (.ref 126), some (.int (nI m)), some (.int (nI i))] [] y Q = WP (d + 3) mX12_laysNow 65 [some (.ref 126), some (.int (nI m)), some (.int (nI (i + 1)))] [] y' Q) ∧ (LN0 m h y' ∧ (∀ k, k < i + 1 → a_i y' 166 k = 0) ∧ ∀ q j, ¬ q = 166 → a_i y' q j = a_i hb q j) := by
    intro i y hi ⟨y1, y2, y3⟩
    have yR : sh_R (a_t y) (a_r y) := by rw [y1.1.1, y1.1.2.1]; exact hR
    refine ⟨s_i y 166 i 0, fun Q => ?_, y1.si (by omega), fun k hk => ?_, fun q j hq => by rw [ine (by omega)]; exact y3 q j hq⟩
    · rw [w_iload_n2 (M := mX12_laysNow) dX12_laysNow_65]
      simp [w_bipush (M := mX12_laysNow) (v := 64) dX12_laysNow_66 rfl, w_ic_ge (M := mX12_laysNow) (tgt := 84) dX12_laysNow_68 (by decide), w_aload_n0 (M := mX12_laysNow) dX12_laysNow_71, w_getA (M := mX12_laysNow) dX12_laysNow_72 f_12_136 rfl (by decide) (by decide), w_iload_n2 (M := mX12_laysNow) dX12_laysNow_75, w_iconst (M := mX12_laysNow) (v := 0) dX12_laysNow_76 rfl, w_iastore (M := mX12_laysNow) dX12_laysNow_77, w_iinc2 (M := mX12_laysNow) (v := 1) dX12_laysNow_78 rfl (by decide), w_goto (M := mX12_laysNow) (tgt := 65) dX12_laysNow_81 (by decide), Kn_v_, Kn_n_, kl_i_, kl_a_, kl_l_, kl_n_, s1_0_, s2_0_, s1_1, s1_2, s1_3, s1_4, s1_5, s1_6, s1_7, s1_8, s1_9, s1_10, s1_11, s1_12, s1_13, s1_14, s2_1, s2_2, s2_3, s2_4, s2_5, s2_6, s2_7, s2_8, s2_9, s2_10, s2_11, s2_12, s2_13, s2_14, List.map_nil, List.map_cons, List.sum_nil, List.sum_cons, ct_i_, ct_r_, ct_l_, t_si_, t_sl_, t_sr_, n_si_, n_sl_, n_sr_, i_si_, i_sl_, i_sr_, l_si_, l_sl_, l_sr_, r_si_, r_sl_, r_sr_, vr_s_, vr_n_, nz_0_, nz_1_, yR.e, show (nI i < 64) = True from nI_ltT (b := 64) hi (by omega), in1_n (k := i) (n := 64) (by omega), hi, nI_c (a := i) (by omega), nI_s]
    · by_cases q : k = i
      · exact ieq rfl q
      · rw [ine (by omega)]; exact y2 k (by omega)
  obtain ⟨h1, p1, p2, p3, p4⟩ := lp (W := fun i (y : am_h) Q => WP (d + 3) mX12_laysNow 65 [some (.ref 126), some (.int (nI m)), some (.int (nI i))] [] y Q) (P := fun i y => LN0 m h y ∧ (∀ k, k < i → a_i y 166 k = 0) ∧ ∀ q j, ¬ q = 166 → a_i y q j = a_i hb q j) st1 64 0 hb (by omega) ⟨Lb, fun k hk => absurd hk (by omega), fun _ _ _ => rfl⟩
  -- the delays
  have st2 : ∀ (i : Nat) (y : am_h), i < 16 → (LN0 m h y ∧ (∀ k, k < i → a_i y 165 k = a_i h 127 (117 + k)) ∧ ∀ q j, ¬ q = 165 → a_i y q j = a_i h1 q j) → ∃ y', (∀ Q, WP (d + 3) mX12_laysNow 86 [some (.ref 126), some (.int (nI m)), some (.int (nI i))] [] y Q = WP (d + 3) mX12_laysNow 86 [some (.ref 126), some (.int (nI m)), some (.int (nI (i + 1)))] [] y' Q) ∧ (LN0 m h y' ∧ (∀ k, k < i + 1 → a_i y' 165 k = a_i h 127 (117 + k)) ∧ ∀ q j, ¬ q = 165 → a_i y' q j = a_i h1 q j) := by
    intro i y hi ⟨y1, y2, y3⟩
    have yR : sh_R (a_t y) (a_r y) := by rw [y1.1.1, y1.1.2.1]; exact hR
    have g : a_i y 127 (117 + i) = a_i h 127 (117 + i) := by rw [y3 _ _ (by omega), p4 _ _ (by omega), bb _ _ (by omega)]
    have ix : (117 + nI i).toNatClampNeg = 117 + i := ix_a (a := 117) (by omega)
    have ip : (0 ≤ 117 + nI i) = True := ip_a (a := 117) (by omega)
    refine ⟨s_i y 165 i (a_i h 127 (117 + i)), fun Q => ?_, y1.si (by omega), fun k hk => ?_, fun q j hq => by rw [ine (by omega)]; exact y3 q j hq⟩
    · rw [w_iload_n2 (M := mX12_laysNow) dX12_laysNow_86]
      simp [w_bipush (M := mX12_laysNow) (v := 16) dX12_laysNow_87 rfl, w_ic_ge (M := mX12_laysNow) (tgt := 113) dX12_laysNow_89 (by decide), w_aload_n0 (M := mX12_laysNow) dX12_laysNow_92, w_getA (M := mX12_laysNow) dX12_laysNow_93 f_12_133 rfl (by decide) (by decide), w_iload_n2 (M := mX12_laysNow) dX12_laysNow_96, w_aload_n0 (M := mX12_laysNow) dX12_laysNow_97, w_getA (M := mX12_laysNow) dX12_laysNow_98 f_12_7 rfl (by decide) (by decide), w_bipush (M := mX12_laysNow) (v := 117) dX12_laysNow_101 rfl, w_iload_n2 (M := mX12_laysNow) dX12_laysNow_103, w_iadd (M := mX12_laysNow) dX12_laysNow_104, w_iaload (M := mX12_laysNow) dX12_laysNow_105, w_iastore (M := mX12_laysNow) dX12_laysNow_106, w_iinc2 (M := mX12_laysNow) (v := 1) dX12_laysNow_107 rfl (by decide), w_goto (M := mX12_laysNow) (tgt := 86) dX12_laysNow_110 (by decide), Kn_v_, Kn_n_, kl_i_, kl_a_, kl_l_, kl_n_, s1_0_, s2_0_, s1_1, s1_2, s1_3, s1_4, s1_5, s1_6, s1_7, s1_8, s1_9, s1_10, s1_11, s1_12, s1_13, s1_14, s2_1, s2_2, s2_3, s2_4, s2_5, s2_6, s2_7, s2_8, s2_9, s2_10, s2_11, s2_12, s2_13, s2_14, List.map_nil, List.map_cons, List.sum_nil, List.sum_cons, ct_i_, ct_r_, ct_l_, t_si_, t_sl_, t_sr_, n_si_, n_sl_, n_sr_, i_si_, i_sl_, i_sr_, l_si_, l_sl_, l_sr_, r_si_, r_sl_, r_sr_, vr_s_, vr_n_, nz_0_, nz_1_, yR.e, show (nI i < 16) = True from nI_ltT (b := 16) hi (by omega), in1_n (k := i) (n := 16) (by omega), hi, nI_c (a := i) (by omega), nI_s, am_in1, ix, ip, show 117 + i < 20150 by omega, g, nI_p (a := i) (by omega)]
    · by_cases q : k = i
      · rw [q]; exact ieq rfl rfl
      · rw [ine (by omega)]; exact y2 k (by omega)
  obtain ⟨h2, q1, q2, q3, q4⟩ := lp (W := fun i (y : am_h) Q => WP (d + 3) mX12_laysNow 86 [some (.ref 126), some (.int (nI m)), some (.int (nI i))] [] y Q) (P := fun i y => LN0 m h y ∧ (∀ k, k < i → a_i y 165 k = a_i h 127 (117 + k)) ∧ ∀ q j, ¬ q = 165 → a_i y q j = a_i h1 q j) st2 16 0 h1 (by omega) ⟨p2, fun k hk => absurd hk (by omega), fun _ _ _ => rfl⟩
  -- the ends
  have st3 : ∀ (i : Nat) (y : am_h), i < 4 → (LN0 m h y ∧ (∀ k, k < i → LNe h y k) ∧ ∀ q j, ¬ ((152 ≤ q ∧ q ≤ 157) ∨ (160 ≤ q ∧ q ≤ 163)) → a_i y q j = a_i h2 q j) → ∃ y', (∀ Q, WP (d + 3) mX12_laysNow 115 [some (.ref 126), some (.int (nI m)), some (.int (nI i))] [] y Q = WP (d + 3) mX12_laysNow 115 [some (.ref 126), some (.int (nI m)), some (.int (nI (i + 1)))] [] y' Q) ∧ (LN0 m h y' ∧ (∀ k, k < i + 1 → LNe h y' k) ∧ ∀ q j, ¬ ((152 ≤ q ∧ q ≤ 157) ∨ (160 ≤ q ∧ q ≤ 163)) → a_i y' q j = a_i h2 q j) := by
    intro i y hi ⟨y1, y2, y3⟩
    have yR : sh_R (a_t y) (a_r y) := by rw [y1.1.1, y1.1.2.1]; exact hR
    have g : ∀ a, a_i y 127 a = a_i h 127 a := fun a => by rw [y3 _ _ (by omega), q4 _ _ (by omega), p4 _ _ (by omega), bb _ _ (by omega)]
    have ix : ∀ a : Nat, a < 1000 → (nI a + nI i).toNatClampNeg = a + i := fun a ha => ix_a (a := a) (by omega)
    have ip : ∀ a : Nat, a < 1000 → (0 ≤ nI a + nI i) = True := fun a ha => ip_a (a := a) (by omega)
    have x1 := ix 93 (by omega); have x2 := ix 97 (by omega); have x3 := ix 101 (by omega); have x4 := ix 105 (by omega); have x5 := ix 109 (by omega); have x6 := ix 113 (by omega)
    have z1 := ip 93 (by omega); have z2 := ip 97 (by omega); have z3 := ip 101 (by omega); have z4 := ip 105 (by omega); have z5 := ip 109 (by omega); have z6 := ip 113 (by omega)
    rw [show nI 93 = 93 from rfl] at x1 z1
    rw [show nI 97 = 97 from rfl] at x2 z2
    rw [show nI 101 = 101 from rfl] at x3 z3
    rw [show nI 105 = 105 from rfl] at x4 z4
    rw [show nI 109 = 109 from rfl] at x5 z5
    rw [show nI 113 = 113 from rfl] at x6 z6
    refine ⟨s_i (s_i (s_i (s_i (s_i (s_i (s_i (s_i (s_i (s_i y 152 i (a_i h 127 (93 + i))) 153 i (a_i h 127 (97 + i))) 154 i (a_i h 127 (101 + i))) 155 i (a_i h 127 (105 + i))) 156 i (a_i h 127 (109 + i))) 157 i (a_i h 127 (113 + i))) 160 i (-1)) 161 i 0) 162 i 0) 163 i (-1), fun Q => ?_, (((((((((y1.si (by omega)).si (by omega)).si (by omega)).si (by omega)).si (by omega)).si (by omega)).si (by omega)).si (by omega)).si (by omega)).si (by omega), fun k hk => ?_, fun q j hq => by simp (disch := omega) only [ine]; exact y3 q j hq⟩
    · rw [w_iload_n2 (M := mX12_laysNow) dX12_laysNow_115]
      simp [w_iconst (M := mX12_laysNow) (v := 4) dX12_laysNow_116 rfl, w_ic_ge (M := mX12_laysNow) (tgt := 244) dX12_laysNow_117 (by decide), w_aload_n0 (M := mX12_laysNow) dX12_laysNow_120, w_getA (M := mX12_laysNow) dX12_laysNow_121 f_12_94 rfl (by decide) (by decide), w_iload_n2 (M := mX12_laysNow) dX12_laysNow_124, w_aload_n0 (M := mX12_laysNow) dX12_laysNow_125, w_getA (M := mX12_laysNow) dX12_laysNow_126 f_12_7 rfl (by decide) (by decide), w_bipush (M := mX12_laysNow) (v := 93) dX12_laysNow_129 rfl, w_iload_n2 (M := mX12_laysNow) dX12_laysNow_131, w_iadd (M := mX12_laysNow) dX12_laysNow_132, w_iaload (M := mX12_laysNow) dX12_laysNow_133, w_iastore (M := mX12_laysNow) dX12_laysNow_134, w_aload_n0 (M := mX12_laysNow) dX12_laysNow_135, w_getA (M := mX12_laysNow) dX12_laysNow_136 f_12_97 rfl (by decide) (by decide), w_iload_n2 (M := mX12_laysNow) dX12_laysNow_139, w_aload_n0 (M := mX12_laysNow) dX12_laysNow_140, w_getA (M := mX12_laysNow) dX12_laysNow_141 f_12_7 rfl (by decide) (by decide), w_bipush (M := mX12_laysNow) (v := 97) dX12_laysNow_144 rfl, w_iload_n2 (M := mX12_laysNow) dX12_laysNow_146, w_iadd (M := mX12_laysNow) dX12_laysNow_147, w_iaload (M := mX12_laysNow) dX12_laysNow_148, w_iastore (M := mX12_laysNow) dX12_laysNow_149, w_aload_n0 (M := mX12_laysNow) dX12_laysNow_150, w_getA (M := mX12_laysNow) dX12_laysNow_151 f_12_100 rfl (by decide) (by decide), w_iload_n2 (M := mX12_laysNow) dX12_laysNow_154, w_aload_n0 (M := mX12_laysNow) dX12_laysNow_155, w_getA (M := mX12_laysNow) dX12_laysNow_156 f_12_7 rfl (by decide) (by decide), w_bipush (M := mX12_laysNow) (v := 101) dX12_laysNow_159 rfl, w_iload_n2 (M := mX12_laysNow) dX12_laysNow_161, w_iadd (M := mX12_laysNow) dX12_laysNow_162, w_iaload (M := mX12_laysNow) dX12_laysNow_163, w_iastore (M := mX12_laysNow) dX12_laysNow_164, w_aload_n0 (M := mX12_laysNow) dX12_laysNow_165, w_getA (M := mX12_laysNow) dX12_laysNow_166 f_12_103 rfl (by decide) (by decide), w_iload_n2 (M := mX12_laysNow) dX12_laysNow_169, w_aload_n0 (M := mX12_laysNow) dX12_laysNow_170, w_getA (M := mX12_laysNow) dX12_laysNow_171 f_12_7 rfl (by decide) (by decide), w_bipush (M := mX12_laysNow) (v := 105) dX12_laysNow_174 rfl, w_iload_n2 (M := mX12_laysNow) dX12_laysNow_176, w_iadd (M := mX12_laysNow) dX12_laysNow_177, w_iaload (M := mX12_laysNow) dX12_laysNow_178, w_iastore (M := mX12_laysNow) dX12_laysNow_179, w_aload_n0 (M := mX12_laysNow) dX12_laysNow_180, w_getA (M := mX12_laysNow) dX12_laysNow_181 f_12_106 rfl (by decide) (by decide), w_iload_n2 (M := mX12_laysNow) dX12_laysNow_184, w_aload_n0 (M := mX12_laysNow) dX12_laysNow_185, w_getA (M := mX12_laysNow) dX12_laysNow_186 f_12_7 rfl (by decide) (by decide), w_bipush (M := mX12_laysNow) (v := 109) dX12_laysNow_189 rfl, w_iload_n2 (M := mX12_laysNow) dX12_laysNow_191, w_iadd (M := mX12_laysNow) dX12_laysNow_192, w_iaload (M := mX12_laysNow) dX12_laysNow_193, w_iastore (M := mX12_laysNow) dX12_laysNow_194, w_aload_n0 (M := mX12_laysNow) dX12_laysNow_195, w_getA (M := mX12_laysNow) dX12_laysNow_196 f_12_109 rfl (by decide) (by decide), w_iload_n2 (M := mX12_laysNow) dX12_laysNow_199, w_aload_n0 (M := mX12_laysNow) dX12_laysNow_200, w_getA (M := mX12_laysNow) dX12_laysNow_201 f_12_7 rfl (by decide) (by decide), w_bipush (M := mX12_laysNow) (v := 113) dX12_laysNow_204 rfl, w_iload_n2 (M := mX12_laysNow) dX12_laysNow_206, w_iadd (M := mX12_laysNow) dX12_laysNow_207, w_iaload (M := mX12_laysNow) dX12_laysNow_208, w_iastore (M := mX12_laysNow) dX12_laysNow_209, w_aload_n0 (M := mX12_laysNow) dX12_laysNow_210, w_getA (M := mX12_laysNow) dX12_laysNow_211 f_12_118 rfl (by decide) (by decide), w_iload_n2 (M := mX12_laysNow) dX12_laysNow_214, w_iconst (M := mX12_laysNow) (v := (-1)) dX12_laysNow_215 rfl, w_iastore (M := mX12_laysNow) dX12_laysNow_216, w_aload_n0 (M := mX12_laysNow) dX12_laysNow_217, w_getA (M := mX12_laysNow) dX12_laysNow_218 f_12_121 rfl (by decide) (by decide), w_iload_n2 (M := mX12_laysNow) dX12_laysNow_221, w_iconst (M := mX12_laysNow) (v := 0) dX12_laysNow_222 rfl, w_iastore (M := mX12_laysNow) dX12_laysNow_223, w_aload_n0 (M := mX12_laysNow) dX12_laysNow_224, w_getA (M := mX12_laysNow) dX12_laysNow_225 f_12_124 rfl (by decide) (by decide), w_iload_n2 (M := mX12_laysNow) dX12_laysNow_228, w_iconst (M := mX12_laysNow) (v := 0) dX12_laysNow_229 rfl, w_iastore (M := mX12_laysNow) dX12_laysNow_230, w_aload_n0 (M := mX12_laysNow) dX12_laysNow_231, w_getA (M := mX12_laysNow) dX12_laysNow_232 f_12_127 rfl (by decide) (by decide), w_iload_n2 (M := mX12_laysNow) dX12_laysNow_235, w_iconst (M := mX12_laysNow) (v := (-1)) dX12_laysNow_236 rfl, w_iastore (M := mX12_laysNow) dX12_laysNow_237, w_iinc2 (M := mX12_laysNow) (v := 1) dX12_laysNow_238 rfl (by decide), w_goto (M := mX12_laysNow) (tgt := 115) dX12_laysNow_241 (by decide), Kn_v_, Kn_n_, kl_i_, kl_a_, kl_l_, kl_n_, s1_0_, s2_0_, s1_1, s1_2, s1_3, s1_4, s1_5, s1_6, s1_7, s1_8, s1_9, s1_10, s1_11, s1_12, s1_13, s1_14, s2_1, s2_2, s2_3, s2_4, s2_5, s2_6, s2_7, s2_8, s2_9, s2_10, s2_11, s2_12, s2_13, s2_14, List.map_nil, List.map_cons, List.sum_nil, List.sum_cons, ct_i_, ct_r_, ct_l_, t_si_, t_sl_, t_sr_, n_si_, n_sl_, n_sr_, i_si_, i_sl_, i_sr_, l_si_, l_sl_, l_sr_, r_si_, r_sl_, r_sr_, vr_s_, vr_n_, nz_0_, nz_1_, yR.e, show (nI i < 4) = True from nI_ltT (b := 4) hi (by omega), in1_n (k := i) (n := 4) (by omega), hi, nI_c (a := i) (by omega), nI_s, am_in1, x1, x2, x3, x4, x5, x6, z1, z2, z3, z4, z5, z6, show 93 + i < 20150 by omega, show 97 + i < 20150 by omega, show 101 + i < 20150 by omega, show 105 + i < 20150 by omega, show 109 + i < 20150 by omega, show 113 + i < 20150 by omega, g, nI_p (a := i) (by omega)]
    · by_cases q : k = i
      · subst q
        refine ⟨?_, ?_, ?_, ?_, ?_, ?_, ?_, ?_, ?_⟩ <;> simp (disch := omega) only [ine, ieq]
      · have := y2 k (by omega)
        unfold LNe at this ⊢
        simp (disch := omega) only [ine]
        exact this
  obtain ⟨h3, r1, r2, r3, r4⟩ := lp (W := fun i (y : am_h) Q => WP (d + 3) mX12_laysNow 115 [some (.ref 126), some (.int (nI m)), some (.int (nI i))] [] y Q) (P := fun i y => LN0 m h y ∧ (∀ k, k < i → LNe h y k) ∧ ∀ q j, ¬ ((152 ≤ q ∧ q ≤ 157) ∨ (160 ≤ q ∧ q ≤ 163)) → a_i y q j = a_i h2 q j) st3 4 0 h2 (by omega) ⟨q2, fun k hk => absurd hk (by omega), fun _ _ _ => rfl⟩
  have e0 : (0 : Int32) = nI 0 := rfl
  have R1 : sh_R (a_t h1) (a_r h1) := by rw [p2.1.1, p2.1.2.1]; exact hR
  have R2 : sh_R (a_t h2) (a_r h2) := by rw [q2.1.1, q2.1.2.1]; exact hR
  have R3 : sh_R (a_t h3) (a_r h3) := by rw [r2.1.1, r2.1.2.1]; exact hR
  refine ⟨h3, fun Q => ?_, r2, fun k hk => by rw [r4 _ _ (by omega), q4 _ _ (by omega)]; exact p3 k hk, fun k hk => by rw [r4 _ _ (by omega)]; exact q3 k hk, r3, fun q j c => ?_⟩
  · have a1 := p1 Q
    have a2 := q1 Q
    have a3 := r1 Q
    unfold Cal
    rw [l_X12_laysNow]
    simp only [am_en, am_ag, ct_i, ct_r, ct_l, List.length_cons, List.length_nil, List.replicate]
    simp [w_aload_n0 (M := mX12_laysNow) dX12_laysNow_0, w_iload_n1 (M := mX12_laysNow) dX12_laysNow_1, w_putI (M := mX12_laysNow) dX12_laysNow_2 f_12_418 rfl (Or.inl rfl), w_aload_n0 (M := mX12_laysNow) dX12_laysNow_5, w_aload_n0 (M := mX12_laysNow) dX12_laysNow_6, w_getA (M := mX12_laysNow) dX12_laysNow_7 f_12_7 rfl (by decide) (by decide), w_iconst (M := mX12_laysNow) (v := 0) dX12_laysNow_10 rfl, w_iaload (M := mX12_laysNow) dX12_laysNow_11, w_putI (M := mX12_laysNow) dX12_laysNow_12 f_12_421 rfl (Or.inl rfl), w_aload_n0 (M := mX12_laysNow) dX12_laysNow_15, w_aload_n0 (M := mX12_laysNow) dX12_laysNow_16, w_getA (M := mX12_laysNow) dX12_laysNow_17 f_12_7 rfl (by decide) (by decide), w_bipush (M := mX12_laysNow) (v := 91) dX12_laysNow_20 rfl, w_iaload (M := mX12_laysNow) dX12_laysNow_22, w_putI (M := mX12_laysNow) dX12_laysNow_23 f_12_424 rfl (Or.inl rfl), w_aload_n0 (M := mX12_laysNow) dX12_laysNow_26, w_aload_n0 (M := mX12_laysNow) dX12_laysNow_27, w_getA (M := mX12_laysNow) dX12_laysNow_28 f_12_7 rfl (by decide) (by decide), w_bipush (M := mX12_laysNow) (v := 90) dX12_laysNow_31 rfl, w_iaload (M := mX12_laysNow) dX12_laysNow_33, w_putI (M := mX12_laysNow) dX12_laysNow_34 f_12_427 rfl (Or.inl rfl), w_aload_n0 (M := mX12_laysNow) dX12_laysNow_37, w_aload_n0 (M := mX12_laysNow) dX12_laysNow_38, w_getA (M := mX12_laysNow) dX12_laysNow_39 f_12_7 rfl (by decide) (by decide), w_bipush (M := mX12_laysNow) (v := 92) dX12_laysNow_42 rfl, w_iaload (M := mX12_laysNow) dX12_laysNow_44, w_putI (M := mX12_laysNow) dX12_laysNow_45 f_12_430 rfl (Or.inl rfl), w_aload_n0 (M := mX12_laysNow) dX12_laysNow_48, w_iconst (M := mX12_laysNow) (v := 0) dX12_laysNow_49 rfl, w_putI (M := mX12_laysNow) dX12_laysNow_50 f_12_433 rfl (Or.inl rfl), w_aload_n0 (M := mX12_laysNow) dX12_laysNow_53, w_iconst (M := mX12_laysNow) (v := 0) dX12_laysNow_54 rfl, w_putI (M := mX12_laysNow) dX12_laysNow_55 f_12_436 rfl (Or.inl rfl), w_aload_n0 (M := mX12_laysNow) dX12_laysNow_58, w_iconst (M := mX12_laysNow) (v := 0) dX12_laysNow_59 rfl, w_putI (M := mX12_laysNow) dX12_laysNow_60 f_12_439 rfl (Or.inl rfl), w_iconst (M := mX12_laysNow) (v := 0) dX12_laysNow_63 rfl, w_istore_n (M := mX12_laysNow) (i := 2) dX12_laysNow_64 rfl (by decide), Kn_v_, Kn_n_, kl_i_, kl_a_, kl_l_, kl_n_, s1_0_, s2_0_, s1_1, s1_2, s1_3, s1_4, s1_5, s1_6, s1_7, s1_8, s1_9, s1_10, s1_11, s1_12, s1_13, s1_14, s2_1, s2_2, s2_3, s2_4, s2_5, s2_6, s2_7, s2_8, s2_9, s2_10, s2_11, s2_12, s2_13, s2_14, List.map_nil, List.map_cons, List.sum_nil, List.sum_cons, ct_i_, ct_r_, ct_l_, t_si_, t_sl_, t_sr_, n_si_, n_sl_, n_sr_, i_si_, i_sl_, i_sr_, l_si_, l_sl_, l_sr_, r_si_, r_sl_, r_sr_, vr_s_, vr_n_, nz_0_, nz_1_, hR.e, am_in1]
    rw [← ehb, e0]
    refine Eq.to_iff (Eq.trans a1 ?_)
    show WP (d + 3) mX12_laysNow 65 _ _ _ _ = _
    rw [w_iload_n2 (M := mX12_laysNow) dX12_laysNow_65]
    simp [w_bipush (M := mX12_laysNow) (v := 64) dX12_laysNow_66 rfl, w_ic_ge (M := mX12_laysNow) (tgt := 84) dX12_laysNow_68 (by decide), w_iconst (M := mX12_laysNow) (v := 0) dX12_laysNow_84 rfl, w_istore_n (M := mX12_laysNow) (i := 2) dX12_laysNow_85 rfl (by decide), Kn_v_, Kn_n_, kl_i_, kl_a_, kl_l_, kl_n_, s1_0_, s2_0_, s1_1, s1_2, s1_3, s1_4, s1_5, s1_6, s1_7, s1_8, s1_9, s1_10, s1_11, s1_12, s1_13, s1_14, s2_1, s2_2, s2_3, s2_4, s2_5, s2_6, s2_7, s2_8, s2_9, s2_10, s2_11, s2_12, s2_13, s2_14, List.map_nil, List.map_cons, List.sum_nil, List.sum_cons, ct_i_, ct_r_, ct_l_, t_si_, t_sl_, t_sr_, n_si_, n_sl_, n_sr_, i_si_, i_sl_, i_sr_, l_si_, l_sl_, l_sr_, r_si_, r_sl_, r_sr_, vr_s_, vr_n_, nz_0_, nz_1_, show (nI 64 < 64) = False from eq_false (by decide)]
    rw [e0]
    refine Eq.to_iff (Eq.trans a2 ?_)
    show WP (d + 3) mX12_laysNow 86 _ _ _ _ = _
    rw [w_iload_n2 (M := mX12_laysNow) dX12_laysNow_86]
    simp [w_bipush (M := mX12_laysNow) (v := 16) dX12_laysNow_87 rfl, w_ic_ge (M := mX12_laysNow) (tgt := 113) dX12_laysNow_89 (by decide), w_iconst (M := mX12_laysNow) (v := 0) dX12_laysNow_113 rfl, w_istore_n (M := mX12_laysNow) (i := 2) dX12_laysNow_114 rfl (by decide), Kn_v_, Kn_n_, kl_i_, kl_a_, kl_l_, kl_n_, s1_0_, s2_0_, s1_1, s1_2, s1_3, s1_4, s1_5, s1_6, s1_7, s1_8, s1_9, s1_10, s1_11, s1_12, s1_13, s1_14, s2_1, s2_2, s2_3, s2_4, s2_5, s2_6, s2_7, s2_8, s2_9, s2_10, s2_11, s2_12, s2_13, s2_14, List.map_nil, List.map_cons, List.sum_nil, List.sum_cons, ct_i_, ct_r_, ct_l_, t_si_, t_sl_, t_sr_, n_si_, n_sl_, n_sr_, i_si_, i_sl_, i_sr_, l_si_, l_sl_, l_sr_, r_si_, r_sl_, r_sr_, vr_s_, vr_n_, nz_0_, nz_1_, show (nI 16 < 16) = False from eq_false (by decide)]
    rw [e0]
    refine Eq.to_iff (Eq.trans a3 ?_)
    show WP (d + 3) mX12_laysNow 115 _ _ _ _ = _
    rw [w_iload_n2 (M := mX12_laysNow) dX12_laysNow_115]
    simp [w_iconst (M := mX12_laysNow) (v := 4) dX12_laysNow_116 rfl, w_ic_ge (M := mX12_laysNow) (tgt := 244) dX12_laysNow_117 (by decide), w_iconst (M := mX12_laysNow) (v := 0) dX12_laysNow_244 rfl, w_istore_n (M := mX12_laysNow) (i := 2) dX12_laysNow_245 rfl (by decide), Kn_v_, Kn_n_, kl_i_, kl_a_, kl_l_, kl_n_, s1_0_, s2_0_, s1_1, s1_2, s1_3, s1_4, s1_5, s1_6, s1_7, s1_8, s1_9, s1_10, s1_11, s1_12, s1_13, s1_14, s2_1, s2_2, s2_3, s2_4, s2_5, s2_6, s2_7, s2_8, s2_9, s2_10, s2_11, s2_12, s2_13, s2_14, List.map_nil, List.map_cons, List.sum_nil, List.sum_cons, ct_i_, ct_r_, ct_l_, t_si_, t_sl_, t_sr_, n_si_, n_sl_, n_sr_, i_si_, i_sl_, i_sr_, l_si_, l_sl_, l_sr_, r_si_, r_sl_, r_sr_, vr_s_, vr_n_, nz_0_, nz_1_, show (nI 4 < 4) = False from eq_false (by decide), nI_z]
  · unfold lch at c
    rw [r4 _ _ (by omega), q4 _ _ (by omega), p4 _ _ (by omega), bb _ _ (by omega)]
set_option maxRecDepth 20000 in
set_option maxHeartbeats 4000000 in
theorem r_laysNow (hR : sh_R (a_t h) (a_r h)) (m1 : m ≤ 1) (n4 : n ≤ 4) (hx : ∀ c i, c < 18 → x c i = dec (a_i h 127) 90 c i) (hn : a_i h 127 0 = nI n) (w : wS n x) (d1 : D1 (fun _ => x 0 1 + 1) x) (dh : Dh x (x 0 1).toInt) (hy : m = 0 → y = x) (hy1 : m = 1 → (∀ c i, ¬ c = 8 → ¬ c = 9 → y c i = x c i) ∧ (∀ i, y 8 i = 0) ∧ ∀ i, y 9 i = 0) : ∃ h', (∀ Q, Cal (d + 3) mX12_laysNow [.ref 126, .int (nI m)] h Q = Q none h') ∧ rJ m n (x 0 3) (fun _ => x 0 1 + 1) h h' y ∧ SPK h' y (Nn (x 0 1)) := by
  have w0 := w
  obtain ⟨k1, k2, k3, k4, k5, k6, k7, k8, k9, k10⟩ := w
  have yx : ∀ c i, ¬ c = 8 → ¬ c = 9 → y c i = x c i := by
    have m01 : m = 0 ∨ m = 1 := by omega
    rcases m01 with z | z
    · intro c i _ _; rw [hy z]
    · exact (hy1 z).1
  obtain ⟨h3, r1, r2, r3, r4, r5, r6⟩ := r_lays0 (d := d) (m := m) hR
  have R3 : sh_R (a_t h3) (a_r h3) := by rw [r2.1.1, r2.1.2.1]; exact hR
  have e127 : a_i h3 127 = a_i h 127 := funext fun j => r6 _ _ (by unfold lch; omega)
  obtain ⟨l1, l2, l3, l4, l5, l6, l7, l8, l9, l10⟩ := r2
  have h03 : x 0 3 = a_i h 127 165 := hx 0 3 (by omega)
  have T90 := bt_n (m := 90) k3 (by omega) (by omega)
  have eT := bt_e k3 (by omega) (by omega)
  have st : ∀ (i : Nat) (z : am_h), i < Nn (x 0 3) → LY h3 z x i → ∃ z', (∀ Q, WP (d + 3) mX12_laysNow 246 [some (.ref 126), some (.int (nI m)), some (.int (nI i))] [] z Q = WP (d + 3) mX12_laysNow 246 [some (.ref 126), some (.int (nI m)), some (.int (nI (i + 1)))] [] z' Q) ∧ LY h3 z' x (i + 1) := by
    intro i z hi L
    have zR : sh_R (a_t z) (a_r z) := by rw [L.1.1, L.1.2.1]; exact R3
    obtain ⟨z', a1, a2⟩ := r_laysTurn (d := d) R3 w0 n4 (by rw [l5]; exact (hx 0 1 (by omega)).symm) (fun c i hc => by rw [e127]; exact (hx c i (by omega)).symm) hi L
    have z165 : a_i z 127 165 = nI (Nn (x 0 3)) := by rw [L.2.2.1 _ _ (by omega) (by omega), e127, ← h03]; exact eT
    refine ⟨z', fun Q => ?_, a2⟩
    rw [w_iload_n2 (M := mX12_laysNow) dX12_laysNow_246]
    simp [w_aload_n0 (M := mX12_laysNow) dX12_laysNow_247, w_getA (M := mX12_laysNow) dX12_laysNow_248 f_12_7 rfl (by decide) (by decide), w_sipush (M := mX12_laysNow) (v := 165) dX12_laysNow_251 rfl, w_iaload (M := mX12_laysNow) dX12_laysNow_254, w_ic_ge (M := mX12_laysNow) (tgt := 269) dX12_laysNow_255 (by decide), w_aload_n0 (M := mX12_laysNow) dX12_laysNow_258, w_iload_n2 (M := mX12_laysNow) dX12_laysNow_259, c_12_442 (M := mX12_laysNow) dX12_laysNow_260 rfl, w_iinc2 (M := mX12_laysNow) (v := 1) dX12_laysNow_263 rfl (by decide), w_goto (M := mX12_laysNow) (tgt := 246) dX12_laysNow_266 (by decide), Kn_v_, Kn_n_, kl_i_, kl_a_, kl_l_, kl_n_, s1_0_, s2_0_, s1_1, s1_2, s1_3, s1_4, s1_5, s1_6, s1_7, s1_8, s1_9, s1_10, s1_11, s1_12, s1_13, s1_14, s2_1, s2_2, s2_3, s2_4, s2_5, s2_6, s2_7, s2_8, s2_9, s2_10, s2_11, s2_12, s2_13, s2_14, List.map_nil, List.map_cons, List.sum_nil, List.sum_cons, ct_i_, ct_r_, ct_l_, t_si_, t_sl_, t_sr_, n_si_, n_sl_, n_sr_, i_si_, i_sl_, i_sr_, l_si_, l_sl_, l_sr_, r_si_, r_sl_, r_sr_, vr_s_, vr_n_, nz_0_, nz_1_, zR.e, am_in1, z165, show (nI i < nI (Nn (x 0 3))) = True from nI_ltT hi (by omega), a1, nI_s]
  obtain ⟨h4, a1, a2⟩ := lp (W := fun i (z : am_h) Q => WP (d + 3) mX12_laysNow 246 [some (.ref 126), some (.int (nI m)), some (.int (nI i))] [] z Q) (P := fun i z => LY h3 z x i) st (Nn (x 0 3)) 0 h3 (by omega) ⟨⟨rfl, rfl, rfl⟩, rfl, fun _ _ _ _ => rfl, fun e he => by
      obtain ⟨z1, z2, z3, z4, z5, z6, z7, z8, z9⟩ := r5 e he
      exact ⟨z8, z9, z7, fun i' hi' => absurd hi' (by omega)⟩, fun t h1 h2 => by
      rw [r3 _ (by omega), bN_0 (fun f hf => decide_eq_false (by rintro ⟨i', w1, -⟩; omega))]
      rfl⟩
  obtain ⟨L1, L2, L3, L4, L5⟩ := a2
  have R4 : sh_R (a_t h4) (a_r h4) := by rw [L1.1, L1.2.1]; exact R3
  have f127 : a_i h4 127 = a_i h 127 := (funext fun j => L3 _ _ (by omega) (by omega)).trans e127
  have g126 : ∀ j, a_i h4 126 j = a_i h3 126 j := fun j => L3 _ _ (by omega) (by omega)
  refine ⟨h4, fun Q => ?_, ⟨l1.tr L1, ⟨?_, ?_, ?_, ?_, ?_, ?_⟩, fun e he => ?_, fun k hk => ?_, fun z => ?_, fun z => ?_, fun q j cc => ?_, fun q j _ => by rw [L2, l2]⟩, fun k hk1 hk2 => ?_⟩
  · have h165 : a_i h4 127 165 = nI (Nn (x 0 3)) := by rw [f127, ← h03]; exact eT
    rw [r1 Q, a1 Q, w_iload_n2 (M := mX12_laysNow) dX12_laysNow_246]
    simp [w_aload_n0 (M := mX12_laysNow) dX12_laysNow_247, w_getA (M := mX12_laysNow) dX12_laysNow_248 f_12_7 rfl (by decide) (by decide), w_sipush (M := mX12_laysNow) (v := 165) dX12_laysNow_251 rfl, w_iaload (M := mX12_laysNow) dX12_laysNow_254, w_ic_ge (M := mX12_laysNow) (tgt := 269) dX12_laysNow_255 (by decide), w_vret (M := mX12_laysNow) dX12_laysNow_269 rfl, Kn_v_, Kn_n_, kl_i_, kl_a_, kl_l_, kl_n_, s1_0_, s2_0_, s1_1, s1_2, s1_3, s1_4, s1_5, s1_6, s1_7, s1_8, s1_9, s1_10, s1_11, s1_12, s1_13, s1_14, s2_1, s2_2, s2_3, s2_4, s2_5, s2_6, s2_7, s2_8, s2_9, s2_10, s2_11, s2_12, s2_13, s2_14, List.map_nil, List.map_cons, List.sum_nil, List.sum_cons, ct_i_, ct_r_, ct_l_, t_si_, t_sl_, t_sr_, n_si_, n_sl_, n_sr_, i_si_, i_sl_, i_sr_, l_si_, l_sl_, l_sr_, r_si_, r_sl_, r_sr_, vr_s_, vr_n_, nz_0_, nz_1_, R4.e, am_in1, h165, show (nI (Nn (x 0 3)) < nI (Nn (x 0 3))) = False from nI_ltF (Nat.le_refl _) (by omega)]
  · rw [g126]; exact l3
  · rw [g126, l4]; exact hn
  · rw [g126, l5, yx _ _ (by omega) (by omega)]; exact (hx 0 1 (by omega)).symm
  · rw [g126, l6, yx _ _ (by omega) (by omega)]; exact (hx 0 0 (by omega)).symm
  · rw [g126, l7, yx _ _ (by omega) (by omega)]; exact (hx 0 2 (by omega)).symm
  · rw [g126, l8, yx _ _ (by omega) (by omega), Int32.sub_self]
  · obtain ⟨z1, z2, z3, z4, z5, z6, z7, z8, z9⟩ := r5 e he
    obtain ⟨v1, v2, v3, v4⟩ := L4 e he
    obtain ⟨c1, c2, c3, c4⟩ := d1 e he
    have o : ∀ q, (152 ≤ q ∧ q ≤ 157) → a_i h4 q e = a_i h3 q e := fun q hq => L3 _ _ (by omega) (by omega)
    unfold rJe
    rw [yx 1 e (by omega) (by omega), yx 2 e (by omega) (by omega), yx 3 e (by omega) (by omega), yx 4 e (by omega) (by omega), yx 5 e (by omega) (by omega), yx 6 e (by omega) (by omega), yx 20 e (by omega) (by omega), yx 18 e (by omega) (by omega), yx 19 e (by omega) (by omega), yx 23 e (by omega) (by omega), yx 22 e (by omega) (by omega), yx 21 e (by omega) (by omega)]
    refine ⟨?_, ?_, ?_, ?_, ?_, ?_, ?_, ?_, ?_, fun h1' => ?_⟩
    · rw [o _ (by omega), z1, hx 1 e (by omega), dec_c1 he]
    · rw [o _ (by omega), z2, hx 2 e (by omega), dec_c2 he]
    · rw [o _ (by omega), z3, hx 3 e (by omega), dec_c3 he]
    · rw [o _ (by omega), z4, hx 4 e (by omega), dec_c4 he]
    · rw [o _ (by omega), z5, hx 5 e (by omega), dec_c5 he]
    · rw [o _ (by omega), z6, hx 6 e (by omega), dec_c6 he]
    · rw [v3, c3]; rfl
    · rw [v1, c1]; rfl
    · rw [v2, c2]; rfl
    · obtain ⟨i, i1, i2, i3⟩ := k8 e he h1'
      obtain ⟨b1, b2, b3⟩ := v4 i i1 i2 i3
      obtain ⟨b4, b5, b6⟩ := c4 h1' i i1 i2 i3
      rw [b1, b2, b3, b4, b5, b6]
      exact ⟨sub_sub32.symm, rfl, fun _ => rfl⟩
  · rw [L3 _ _ (by omega) (by omega), r4 k hk, yx 7 k (by omega) (by omega), hx 7 k (by omega), dec_c7 hk]
  · intro c i hc
    rw [f127, hy z]
    exact (hx c i (by omega)).symm
  · obtain ⟨w1, w2, w3⟩ := hy1 z
    rw [g126, g126, l9, l10, show y 8 = fun _ => 0 from funext w2, show y 9 = fun _ => 0 from funext w3]
    exact ⟨by decide, by decide⟩
  · rw [L3 _ _ (fun z => cc (by unfold jch; omega)) (fun z => cc (by unfold jch; omega))]
    exact r6 q j (fun z => cc (by unfold lch at z; unfold jch; omega))
  · have hk2' : Nn (x 0 1) < Nn (x 0 1) - k + 63 := by omega
    rw [L5 (Nn (x 0 1) - k) hk2' (by omega)]
    congr 1
    refine bN_c (fun f hf => ?_)
    rw [yx _ _ (by omega) (by omega)]
    refine decide_eq_decide.mpr ?_
    rw [dh f k hf (by omega)]
    have iT := bt_i k2 (by omega)
    have zz : ((Nn (x 0 1) - k : Nat) : Int) = (x 0 1).toInt - k := by omega
    rw [zz]
    exact ⟨fun z => ⟨by omega, z⟩, fun z => z.2⟩
end RLAYS2
