/-! two fresh ends: laid out, and what came through, on the other side -/
section RF8
variable {d : Nat} {h y y' : am_h} {m : FMo} {e o T f F b p w v n B : Nat}
/-- what laysFresh and the tenths may write -/
def rl (q j : Nat) : Prop := (152 ≤ q ∧ q ≤ 172) ∨ (q = 126 ∧ 42 ≤ j)
def rlf (h y : am_h) : Prop := sm h y ∧ a_l y = a_l h ∧ ∀ q j, ¬ rl q j → a_i y q j = a_i h q j
theorem rlf.refl : rlf h h := ⟨⟨rfl, rfl, rfl⟩, rfl, fun _ _ _ => rfl⟩
theorem rlf.tr {z : am_h} (k : rlf h y) (k' : rlf y z) : rlf h z := ⟨k.1.tr k'.1, k'.2.1.trans k.2.1, fun q j c => (k'.2.2 q j c).trans (k.2.2 q j c)⟩
theorem rlf.si (k : rlf h y) {p j : Nat} {v : Int32} (c : rl p j) : rlf h (s_i y p j v) := ⟨k.1.tr ⟨rfl, rfl, rfl⟩, k.2.1, fun q j' c' => by
  rw [ine (fun z => c' (by rw [z.1, z.2]; exact c))]; exact k.2.2 q j' c'⟩
theorem rff.lf (k : rff h y) : rlf h y := ⟨k.1, k.2.1, fun q j c => k.2.2 q j (fun z => c (by unfold rfc at z; unfold rl; omega))⟩
theorem rlf.R (k : rlf h y) (hR : sh_R (a_t h) (a_r h)) : sh_R (a_t y) (a_r y) := by rw [k.1.1, k.1.2.1]; exact hR
set_option maxRecDepth 20000 in
set_option maxHeartbeats 4000000 in
theorem f_laysE (k : RK m y) (he : e < 2) (hF : a_i y 126 69 = nI e) (hT : a_i y 126 44 = nI 0) {p0 p1 p2 p3 p4 p5 : Int32} {x8 : Option Value} : ∃ y' z8, (∀ Q, WP (d + 2) mX12_laysFresh 113 [some (.ref 126), some (.int p0), some (.int p1), some (.int p2), some (.int p3), some (.int p4), some (.int p5), some (.int (nI e)), x8] [] y Q = WP (d + 2) mX12_laysFresh 113 [some (.ref 126), some (.int p0), some (.int p1), some (.int p2), some (.int p3), some (.int p4), some (.int p5), some (.int (nI (e + 1))), z8] [] y' Q)
    ∧ rff y y' ∧ RT m e 0 y' ∧ a_i y' 172 e = nI e ∧ a_i y' 169 e = nI e ∧ a_i y' 170 e = nI 0 ∧ a_i y' 171 e = 0 ∧ a_i y' 126 69 = nI (e + 1) ∧ a_i y' 166 0 = oB e (a_i y 166 0)
    ∧ ∀ q j, ¬ (152 ≤ q ∧ q ≤ 164 ∧ j = e) → ¬ (169 ≤ q ∧ q ≤ 172 ∧ j = e) → ¬ (q = 166 ∧ j = 0) → ¬ (q = 126 ∧ (j = 47 ∨ j = 69)) → a_i y' q j = a_i y q j := by
  have e4 : am_in1 (nI e) 4 = True := by rw [in1_n (by omega)]; exact eq_true (by omega)
  have lt : (nI e < 2) = True := nI_ltT (b := 2) he (by omega)
  obtain ⟨y1, ey1⟩ : ∃ y1, y1 = s_i (s_i (s_i (s_i y 153 e 0) 154 e 0) 157 e (-1)) 156 e (-1) := ⟨_, rfl⟩
  have f1 : rff y y1 := by rw [ey1]; exact (((rff.refl.si (by unfold rfc; omega)).si (by unfold rfc; omega)).si (by unfold rfc; omega)).si (by unfold rfc; omega)
  have k1 := k.fr f1
  have i1 : ∀ q j, ¬ (152 ≤ q ∧ q ≤ 164 ∧ j = e) → a_i y1 q j = a_i y q j := fun q j c => by rw [ey1]; simp (disch := omega) only [ine]
  obtain ⟨y2, c2, f2, b3, b4, b5, b6, b7, b8, b9, b10, b11, b12⟩ := f_beginsTurn (d := d) k1 he (F := e) (by omega) (by rw [i1 _ _ (by omega)]; exact hF)
  have k2 := k1.fr f2
  have t2 : a_i y2 126 44 = nI 0 := by rw [b12 _ _ (by omega) (by omega) (by omega), i1 _ _ (by omega)]; exact hT
  have t1 : a_i y1 126 44 = nI 0 := by rw [i1 _ _ (by omega)]; exact hT
  rw [t1] at b5 b10
  have c3 : ∀ Q, Cal (d + 1) mX12_saysNow [.ref 126, .int (nI e)] y2 Q = Q none (s_i y2 166 0 (oB e (a_i y2 166 0))) := fun Q => f_saysNow (T := 0) k2 he t2 (by omega)
  have s2 : a_i y2 166 0 = a_i y 166 0 := by rw [b12 _ _ (by omega) (by omega) (by omega), i1 _ _ (by omega)]
  refine ⟨s_i y2 166 0 (oB e (a_i y2 166 0)), some (.int 1), fun Q => ?_, (f1.tr f2).si (by unfold rfc; omega), ⟨fun _ => ⟨?_, ?_, ?_, ?_⟩, fun z => (by cases z)⟩, ?_, ?_, ?_, ?_, ?_, ?_, fun q j q1 q2 q3 q4 => ?_⟩
  · rw [w_iload7 (M := mX12_laysFresh) dX12_laysFresh_113]
    simp [w_iconst (M := mX12_laysFresh) (v := 2) dX12_laysFresh_115 rfl, w_ic_ge (M := mX12_laysFresh) (tgt := 171) dX12_laysFresh_116 (by decide), w_aload_n0 (M := mX12_laysFresh) dX12_laysFresh_119, w_getA (M := mX12_laysFresh) dX12_laysFresh_120 f_12_97 rfl (by decide) (by decide), w_iload7 (M := mX12_laysFresh) dX12_laysFresh_123, w_iconst (M := mX12_laysFresh) (v := 0) dX12_laysFresh_125 rfl, w_iastore (M := mX12_laysFresh) dX12_laysFresh_126, w_aload_n0 (M := mX12_laysFresh) dX12_laysFresh_127, w_getA (M := mX12_laysFresh) dX12_laysFresh_128 f_12_100 rfl (by decide) (by decide), w_iload7 (M := mX12_laysFresh) dX12_laysFresh_131, w_iconst (M := mX12_laysFresh) (v := 0) dX12_laysFresh_133 rfl, w_iastore (M := mX12_laysFresh) dX12_laysFresh_134, w_aload_n0 (M := mX12_laysFresh) dX12_laysFresh_135, w_getA (M := mX12_laysFresh) dX12_laysFresh_136 f_12_109 rfl (by decide) (by decide), w_iload7 (M := mX12_laysFresh) dX12_laysFresh_139, w_iconst (M := mX12_laysFresh) (v := (-1)) dX12_laysFresh_141 rfl, w_iastore (M := mX12_laysFresh) dX12_laysFresh_142, w_aload_n0 (M := mX12_laysFresh) dX12_laysFresh_143, w_getA (M := mX12_laysFresh) dX12_laysFresh_144 f_12_106 rfl (by decide) (by decide), w_iload7 (M := mX12_laysFresh) dX12_laysFresh_147, w_iconst (M := mX12_laysFresh) (v := (-1)) dX12_laysFresh_149 rfl, w_iastore (M := mX12_laysFresh) dX12_laysFresh_150, w_aload_n0 (M := mX12_laysFresh) dX12_laysFresh_151, w_iload7 (M := mX12_laysFresh) dX12_laysFresh_152, c_12_496 (M := mX12_laysFresh) dX12_laysFresh_154 rfl, w_istore (M := mX12_laysFresh) dX12_laysFresh_157 (by decide), w_aload_n0 (M := mX12_laysFresh) dX12_laysFresh_159, w_iload7 (M := mX12_laysFresh) dX12_laysFresh_160, c_12_490 (M := mX12_laysFresh) dX12_laysFresh_162 rfl, w_iinc7 (M := mX12_laysFresh) (v := 1) dX12_laysFresh_165 rfl (by decide), w_goto (M := mX12_laysFresh) (tgt := 113) dX12_laysFresh_168 (by decide), Kn_v_, Kn_n_, kl_i_, kl_a_, kl_l_, kl_n_, s1_0_, s2_0_, s1_1, s1_2, s1_3, s1_4, s1_5, s1_6, s1_7, s1_8, s1_9, s1_10, s1_11, s1_12, s1_13, s1_14, s2_1, s2_2, s2_3, s2_4, s2_5, s2_6, s2_7, s2_8, s2_9, s2_10, s2_11, s2_12, s2_13, s2_14, List.map_nil, List.map_cons, List.sum_nil, List.sum_cons, ct_i_, ct_r_, ct_l_, t_si_, t_sl_, t_sr_, n_si_, n_sl_, n_sr_, i_si_, i_sl_, i_sr_, l_si_, l_sl_, l_sr_, r_si_, r_sl_, r_sr_, vr_s_, vr_n_, nz_0_, nz_1_, k.1.e, k1.1.e, k2.1.e, lt, e4, nI_c (a := e) (by omega), ← ey1, c2, c3, nI_s]
  · rw [ine (by omega)]; exact b8
  · rw [ine (by omega)]; exact b9
  · rw [ine (by omega)]; exact b10
  · rw [ine (by omega)]; exact b11
  · rw [ine (by omega)]; exact b3
  · rw [ine (by omega)]; exact b4
  · rw [ine (by omega)]; exact b5
  · rw [ine (by omega)]; exact b6
  · rw [ine (by omega)]; exact b7
  · rw [ieq rfl rfl, s2]
  · rw [ine q3, b12 q j (by omega) (by omega) (by omega), i1 q j q1]
set_option maxRecDepth 20000 in
set_option maxHeartbeats 4000000 in
theorem f_laysFresh (hR : sh_R (a_t y) (a_r y)) {wa wb a b L S : Nat} : ∃ y', (∀ Q, Cal (d + 2) mX12_laysFresh [.ref 126, .int (nI wa), .int (nI wb), .int (nI a), .int (nI b), .int (nI L), .int (nI S)] y Q = Q none y') ∧ rlf y y' ∧ RFs (mkM wa wb a b L S) 0 y' := by
  obtain ⟨ya, eya⟩ : ∃ ya, ya = s_i (s_i (s_i (s_i (s_i (s_i (s_i (s_i (s_i (s_i y 126 42 2) 126 43 2) 126 44 0) 126 69 0) 167 0 (nI wa)) 167 1 (nI wb)) 126 66 (nI L)) 126 67 (nI S)) 165 1 (nI a)) 165 4 (nI b) := ⟨_, rfl⟩
  have fa : rlf y ya := by
    rw [eya]
    exact (((((((((rlf.refl.si (by unfold rl; omega)).si (by unfold rl; omega)).si (by unfold rl; omega)).si (by unfold rl; omega)).si (by unfold rl; omega)).si (by unfold rl; omega)).si (by unfold rl; omega)).si (by unfold rl; omega)).si (by unfold rl; omega)).si (by unfold rl; omega)
  have ka : RK (mkM wa wb a b L S) ya := by
    refine ⟨fa.R hR, ?_, ?_, ?_, ?_, ?_, ?_, fun e he => ?_⟩
    · rw [eya]; simp (disch := omega) only [ine, ieq]
    · rw [eya]; simp (disch := omega) only [ine, ieq]
    · rw [eya]; simp (disch := omega) only [ine, ieq]; rfl
    · rw [eya]; simp (disch := omega) only [ine, ieq]; rfl
    · rw [eya]; simp (disch := omega) only [ine, ieq]; rw [mkM_l0, show 1 + a - 1 = a by omega]
    · rw [eya]; simp (disch := omega) only [ine, ieq]; rw [mkM_l1, show 1 + b - 1 = b by omega]
    · rcases show e = 0 ∨ e = 1 by omega with rfl | rfl
      · rw [eya]; simp (disch := omega) only [ine, ieq]; rfl
      · rw [eya]; simp (disch := omega) only [ine, ieq]; rfl
  have ta : a_i ya 126 44 = nI 0 := by rw [eya]; simp (disch := omega) only [ine, ieq]; rfl
  have qa : a_i ya 126 69 = nI 0 := by rw [eya]; simp (disch := omega) only [ine, ieq]; rfl
  -- the sounds are cleared
  obtain ⟨ys, cs, fs, zs, is⟩ := lp (n := 64) (W := fun i (s : am_h) Q => WP (d + 2) mX12_laysFresh 64 [some (.ref 126), some (.int (nI wa)), some (.int (nI wb)), some (.int (nI a)), some (.int (nI b)), some (.int (nI L)), some (.int (nI S)), some (.int (nI i)), none] [] s Q) (P := fun i s => rff ya s ∧ (∀ u, u < i → a_i s 166 u = 0) ∧ ∀ q j, ¬ q = 166 → a_i s q j = a_i ya q j) (fun i s hi hs => by
    obtain ⟨v, z, w⟩ := hs
    have hRs := (ka.fr v).1
    refine ⟨s_i s 166 i 0, fun Q => ?_, v.si (by unfold rfc; omega), fun u hu => ?_, fun q j c => by rw [ine (by omega)]; exact w q j c⟩
    · rw [w_iload7 (M := mX12_laysFresh) dX12_laysFresh_64]
      simp [w_bipush (M := mX12_laysFresh) (v := 64) dX12_laysFresh_66 rfl, w_ic_ge (M := mX12_laysFresh) (tgt := 85) dX12_laysFresh_68 (by decide), w_aload_n0 (M := mX12_laysFresh) dX12_laysFresh_71, w_getA (M := mX12_laysFresh) dX12_laysFresh_72 f_12_136 rfl (by decide) (by decide), w_iload7 (M := mX12_laysFresh) dX12_laysFresh_75, w_iconst (M := mX12_laysFresh) (v := 0) dX12_laysFresh_77 rfl, w_iastore (M := mX12_laysFresh) dX12_laysFresh_78, w_iinc7 (M := mX12_laysFresh) (v := 1) dX12_laysFresh_79 rfl (by decide), w_goto (M := mX12_laysFresh) (tgt := 64) dX12_laysFresh_82 (by decide), Kn_v_, Kn_n_, kl_i_, kl_a_, kl_l_, kl_n_, s1_0_, s2_0_, s1_1, s1_2, s1_3, s1_4, s1_5, s1_6, s1_7, s1_8, s1_9, s1_10, s1_11, s1_12, s1_13, s1_14, s2_1, s2_2, s2_3, s2_4, s2_5, s2_6, s2_7, s2_8, s2_9, s2_10, s2_11, s2_12, s2_13, s2_14, List.map_nil, List.map_cons, List.sum_nil, List.sum_cons, ct_i_, ct_r_, ct_l_, t_si_, t_sl_, t_sr_, n_si_, n_sl_, n_sr_, i_si_, i_sl_, i_sr_, l_si_, l_sl_, l_sr_, r_si_, r_sl_, r_sr_, vr_s_, vr_n_, nz_0_, nz_1_, hRs.e, show (nI i < 64) = True from nI_ltT (b := 64) hi (by omega), in1_n (k := i) (n := 64) (by omega), hi, nI_c (a := i) (by omega), nI_s]
    · by_cases c : u = i
      · rw [ieq rfl c]
      · rw [ine (by omega)]; exact z u (by omega)) 64 0 ya (by omega) ⟨rff.refl, fun u hu => by omega, fun _ _ _ => rfl⟩
  -- nothing came through yet
  obtain ⟨yc, cc, fc, zc, ic⟩ := lp (n := 2200) (W := fun i (s : am_h) Q => WP (d + 2) mX12_laysFresh 88 [some (.ref 126), some (.int (nI wa)), some (.int (nI wb)), some (.int (nI a)), some (.int (nI b)), some (.int (nI L)), some (.int (nI S)), some (.int (nI i)), none] [] s Q) (P := fun i s => rff ya s ∧ (∀ u, u < i → a_i s 168 u = 0) ∧ ∀ q j, ¬ q = 168 → a_i s q j = a_i ys q j) (fun i s hi hs => by
    obtain ⟨v, z, w⟩ := hs
    have hRs := (ka.fr v).1
    refine ⟨s_i s 168 i 0, fun Q => ?_, v.si (by unfold rfc; omega), fun u hu => ?_, fun q j c => by rw [ine (by omega)]; exact w q j c⟩
    · rw [w_iload7 (M := mX12_laysFresh) dX12_laysFresh_88]
      simp [w_sipush (M := mX12_laysFresh) (v := 2200) dX12_laysFresh_90 rfl, w_ic_ge (M := mX12_laysFresh) (tgt := 110) dX12_laysFresh_93 (by decide), w_aload_n0 (M := mX12_laysFresh) dX12_laysFresh_96, w_getA (M := mX12_laysFresh) dX12_laysFresh_97 f_12_142 rfl (by decide) (by decide), w_iload7 (M := mX12_laysFresh) dX12_laysFresh_100, w_iconst (M := mX12_laysFresh) (v := 0) dX12_laysFresh_102 rfl, w_iastore (M := mX12_laysFresh) dX12_laysFresh_103, w_iinc7 (M := mX12_laysFresh) (v := 1) dX12_laysFresh_104 rfl (by decide), w_goto (M := mX12_laysFresh) (tgt := 88) dX12_laysFresh_107 (by decide), Kn_v_, Kn_n_, kl_i_, kl_a_, kl_l_, kl_n_, s1_0_, s2_0_, s1_1, s1_2, s1_3, s1_4, s1_5, s1_6, s1_7, s1_8, s1_9, s1_10, s1_11, s1_12, s1_13, s1_14, s2_1, s2_2, s2_3, s2_4, s2_5, s2_6, s2_7, s2_8, s2_9, s2_10, s2_11, s2_12, s2_13, s2_14, List.map_nil, List.map_cons, List.sum_nil, List.sum_cons, ct_i_, ct_r_, ct_l_, t_si_, t_sl_, t_sr_, n_si_, n_sl_, n_sr_, i_si_, i_sl_, i_sr_, l_si_, l_sl_, l_sr_, r_si_, r_sl_, r_sr_, vr_s_, vr_n_, nz_0_, nz_1_, hRs.e, show (nI i < 2200) = True from nI_ltT (b := 2200) hi (by omega), in1_n (k := i) (n := 2200) (by omega), hi, nI_c (a := i) (by omega), nI_s]
    · by_cases c : u = i
      · rw [ieq rfl c]
      · rw [ine (by omega)]; exact z u (by omega)) 2200 0 ys (by omega) ⟨fs, fun u hu => by omega, fun _ _ _ => rfl⟩
  have kc := ka.fr fc
  have wc : ∀ q j, ¬ q = 166 → ¬ q = 168 → a_i yc q j = a_i ya q j := fun q j c c' => (ic q j c').trans (is q j c)
  -- both begin
  obtain ⟨y0, z8, c0, f0, R0, n1, n2, n3, n4, n5, n6, n7⟩ := f_laysE (d := d) kc (e := 0) (by omega) (by rw [wc _ _ (by omega) (by omega)]; exact qa) (by rw [wc _ _ (by omega) (by omega)]; exact ta) (p0 := nI wa) (p1 := nI wb) (p2 := nI a) (p3 := nI b) (p4 := nI L) (p5 := nI S) (x8 := none)
  have k0 := kc.fr f0
  obtain ⟨y1, z9, c1, f1, R1, m1, m2, m3, m4, m5, m6, m7⟩ := f_laysE (d := d) k0 (e := 1) (by omega) n5 (by rw [n7 _ _ (by omega) (by omega) (by omega) (by omega), wc _ _ (by omega) (by omega)]; exact ta) (p0 := nI wa) (p1 := nI wb) (p2 := nI a) (p3 := nI b) (p4 := nI L) (p5 := nI S) (x8 := z8)
  have k1 := k0.fr f1
  refine ⟨y1, fun Q => ?_, ((fa.tr fc.lf).tr f0.lf).tr f1.lf, k1, ?_, R0.fr (fun q q1 q2 => m7 q 0 (by omega) (by omega) (by omega) (by omega)), R1, ⟨2, m5, by omega, fun e B he hB hb => ?_, fun i hi => ?_, fun i j hi hj h1 h2 => ?_, fun e b he hs => ?_⟩, fun k hk hk2 => ?_, fun e u he hu => ?_⟩
  · have cs' : ∀ Q, WP (d + 2) mX12_laysFresh 64 [some (.ref 126), some (.int (nI wa)), some (.int (nI wb)), some (.int (nI a)), some (.int (nI b)), some (.int (nI L)), some (.int (nI S)), some (.int 0), none] [] ya Q = _ := cs
    have cc' : ∀ Q, WP (d + 2) mX12_laysFresh 88 [some (.ref 126), some (.int (nI wa)), some (.int (nI wb)), some (.int (nI a)), some (.int (nI b)), some (.int (nI L)), some (.int (nI S)), some (.int 0), none] [] ys Q = _ := cc
    have c0' : ∀ Q, WP (d + 2) mX12_laysFresh 113 [some (.ref 126), some (.int (nI wa)), some (.int (nI wb)), some (.int (nI a)), some (.int (nI b)), some (.int (nI L)), some (.int (nI S)), some (.int 0), none] [] yc Q = _ := c0
    unfold Cal
    rw [l_X12_laysFresh]
    simp only [am_en, am_ag, ct_i, ct_r, ct_l, List.length_cons, List.length_nil, List.replicate]
    simp [w_aload_n0 (M := mX12_laysFresh) dX12_laysFresh_0, w_iconst (M := mX12_laysFresh) (v := 2) dX12_laysFresh_1 rfl, w_putI (M := mX12_laysFresh) dX12_laysFresh_2 f_12_418 rfl (Or.inl rfl), w_aload_n0 (M := mX12_laysFresh) dX12_laysFresh_5, w_iconst (M := mX12_laysFresh) (v := 2) dX12_laysFresh_6 rfl, w_putI (M := mX12_laysFresh) dX12_laysFresh_7 f_12_421 rfl (Or.inl rfl), w_aload_n0 (M := mX12_laysFresh) dX12_laysFresh_10, w_iconst (M := mX12_laysFresh) (v := 0) dX12_laysFresh_11 rfl, w_putI (M := mX12_laysFresh) dX12_laysFresh_12 f_12_424 rfl (Or.inl rfl), w_aload_n0 (M := mX12_laysFresh) dX12_laysFresh_15, w_iconst (M := mX12_laysFresh) (v := 0) dX12_laysFresh_16 rfl, w_putI (M := mX12_laysFresh) dX12_laysFresh_17 f_12_481 rfl (Or.inl rfl), w_aload_n0 (M := mX12_laysFresh) dX12_laysFresh_20, w_getA (M := mX12_laysFresh) dX12_laysFresh_21 f_12_139 rfl (by decide) (by decide), w_iconst (M := mX12_laysFresh) (v := 0) dX12_laysFresh_24 rfl, w_iload_n1 (M := mX12_laysFresh) dX12_laysFresh_25, w_iastore (M := mX12_laysFresh) dX12_laysFresh_26, w_aload_n0 (M := mX12_laysFresh) dX12_laysFresh_27, w_getA (M := mX12_laysFresh) dX12_laysFresh_28 f_12_139 rfl (by decide) (by decide), w_iconst (M := mX12_laysFresh) (v := 1) dX12_laysFresh_31 rfl, w_iload_n2 (M := mX12_laysFresh) dX12_laysFresh_32, w_iastore (M := mX12_laysFresh) dX12_laysFresh_33, w_aload_n0 (M := mX12_laysFresh) dX12_laysFresh_34, w_iload5 (M := mX12_laysFresh) dX12_laysFresh_35, w_putI (M := mX12_laysFresh) dX12_laysFresh_37 f_12_472 rfl (Or.inl rfl), w_aload_n0 (M := mX12_laysFresh) dX12_laysFresh_40, w_iload6 (M := mX12_laysFresh) dX12_laysFresh_41, w_putI (M := mX12_laysFresh) dX12_laysFresh_43 f_12_465 rfl (Or.inl rfl), w_aload_n0 (M := mX12_laysFresh) dX12_laysFresh_46, w_getA (M := mX12_laysFresh) dX12_laysFresh_47 f_12_133 rfl (by decide) (by decide), w_iconst (M := mX12_laysFresh) (v := 1) dX12_laysFresh_50 rfl, w_iload_n3 (M := mX12_laysFresh) dX12_laysFresh_51, w_iastore (M := mX12_laysFresh) dX12_laysFresh_52, w_aload_n0 (M := mX12_laysFresh) dX12_laysFresh_53, w_getA (M := mX12_laysFresh) dX12_laysFresh_54 f_12_133 rfl (by decide) (by decide), w_iconst (M := mX12_laysFresh) (v := 4) dX12_laysFresh_57 rfl, w_iload4 (M := mX12_laysFresh) dX12_laysFresh_58, w_iastore (M := mX12_laysFresh) dX12_laysFresh_60, w_iconst (M := mX12_laysFresh) (v := 0) dX12_laysFresh_61 rfl, w_istore (M := mX12_laysFresh) dX12_laysFresh_62 (by decide), Kn_v_, Kn_n_, kl_i_, kl_a_, kl_l_, kl_n_, s1_0_, s2_0_, s1_1, s1_2, s1_3, s1_4, s1_5, s1_6, s1_7, s1_8, s1_9, s1_10, s1_11, s1_12, s1_13, s1_14, s2_1, s2_2, s2_3, s2_4, s2_5, s2_6, s2_7, s2_8, s2_9, s2_10, s2_11, s2_12, s2_13, s2_14, List.map_nil, List.map_cons, List.sum_nil, List.sum_cons, ct_i_, ct_r_, ct_l_, t_si_, t_sl_, t_sr_, n_si_, n_sl_, n_sr_, i_si_, i_sl_, i_sr_, l_si_, l_sl_, l_sr_, r_si_, r_sl_, r_sr_, vr_s_, vr_n_, nz_0_, nz_1_, hR.e, am_in1, ← eya]
    rw [cs' Q, w_iload7 (M := mX12_laysFresh) dX12_laysFresh_64]
    simp [w_bipush (M := mX12_laysFresh) (v := 64) dX12_laysFresh_66 rfl, w_ic_ge (M := mX12_laysFresh) (tgt := 85) dX12_laysFresh_68 (by decide), w_iconst (M := mX12_laysFresh) (v := 0) dX12_laysFresh_85 rfl, w_istore (M := mX12_laysFresh) dX12_laysFresh_86 (by decide), Kn_v_, Kn_n_, kl_i_, kl_a_, kl_l_, kl_n_, s1_0_, s2_0_, s1_1, s1_2, s1_3, s1_4, s1_5, s1_6, s1_7, s1_8, s1_9, s1_10, s1_11, s1_12, s1_13, s1_14, s2_1, s2_2, s2_3, s2_4, s2_5, s2_6, s2_7, s2_8, s2_9, s2_10, s2_11, s2_12, s2_13, s2_14, List.map_nil, List.map_cons, List.sum_nil, List.sum_cons, ct_i_, ct_r_, ct_l_, t_si_, t_sl_, t_sr_, n_si_, n_sl_, n_sr_, i_si_, i_sl_, i_sr_, l_si_, l_sl_, l_sr_, r_si_, r_sl_, r_sr_, vr_s_, vr_n_, nz_0_, nz_1_, show (nI 64 < 64) = False from nI_ltF (b := 64) (Nat.le_refl _) (by omega)]
    rw [cc' Q, w_iload7 (M := mX12_laysFresh) dX12_laysFresh_88]
    simp [w_sipush (M := mX12_laysFresh) (v := 2200) dX12_laysFresh_90 rfl, w_ic_ge (M := mX12_laysFresh) (tgt := 110) dX12_laysFresh_93 (by decide), w_iconst (M := mX12_laysFresh) (v := 0) dX12_laysFresh_110 rfl, w_istore (M := mX12_laysFresh) dX12_laysFresh_111 (by decide), Kn_v_, Kn_n_, kl_i_, kl_a_, kl_l_, kl_n_, s1_0_, s2_0_, s1_1, s1_2, s1_3, s1_4, s1_5, s1_6, s1_7, s1_8, s1_9, s1_10, s1_11, s1_12, s1_13, s1_14, s2_1, s2_2, s2_3, s2_4, s2_5, s2_6, s2_7, s2_8, s2_9, s2_10, s2_11, s2_12, s2_13, s2_14, List.map_nil, List.map_cons, List.sum_nil, List.sum_cons, ct_i_, ct_r_, ct_l_, t_si_, t_sl_, t_sr_, n_si_, n_sl_, n_sr_, i_si_, i_sl_, i_sr_, l_si_, l_sl_, l_sr_, r_si_, r_sl_, r_sr_, vr_s_, vr_n_, nz_0_, nz_1_, show (nI 2200 < 2200) = False from nI_ltF (b := 2200) (Nat.le_refl _) (by omega)]
    rw [c0' Q, c1 Q, w_iload7 (M := mX12_laysFresh) dX12_laysFresh_113]
    simp [w_iconst (M := mX12_laysFresh) (v := 2) dX12_laysFresh_115 rfl, w_ic_ge (M := mX12_laysFresh) (tgt := 171) dX12_laysFresh_116 (by decide), w_vret (M := mX12_laysFresh) dX12_laysFresh_171 rfl, Kn_v_, Kn_n_, kl_i_, kl_a_, kl_l_, kl_n_, s1_0_, s2_0_, s1_1, s1_2, s1_3, s1_4, s1_5, s1_6, s1_7, s1_8, s1_9, s1_10, s1_11, s1_12, s1_13, s1_14, s2_1, s2_2, s2_3, s2_4, s2_5, s2_6, s2_7, s2_8, s2_9, s2_10, s2_11, s2_12, s2_13, s2_14, List.map_nil, List.map_cons, List.sum_nil, List.sum_cons, ct_i_, ct_r_, ct_l_, t_si_, t_sl_, t_sr_, n_si_, n_sl_, n_sr_, i_si_, i_sl_, i_sr_, l_si_, l_sl_, l_sr_, r_si_, r_sl_, r_sr_, vr_s_, vr_n_, nz_0_, nz_1_, show (nI (1 + 1) < 2) = False from nI_ltF (a := 2) (b := 2) (Nat.le_refl _) (by omega)]
  · rw [m7 _ _ (by omega) (by omega) (by omega) (by omega), n7 _ _ (by omega) (by omega) (by omega) (by omega), wc _ _ (by omega) (by omega)]; exact ta
  · have B0 : B = 0 := by have hB' : B ≤ 0 := hB; omega
    subst B0
    rcases show e = 0 ∨ e = 1 by omega with rfl | rfl
    · exact ⟨0, by omega, by rw [m7 _ _ (by omega) (by omega) (by omega) (by omega)]; exact n2, by rw [m7 _ _ (by omega) (by omega) (by omega) (by omega)]; exact n3⟩
    · exact ⟨1, by omega, m2, m3⟩
  · rcases show i = 0 ∨ i = 1 by omega with rfl | rfl
    · refine ⟨0, 0, by omega, Nat.le_refl _, by rw [m7 _ _ (by omega) (by omega) (by omega) (by omega)]; exact n2, by rw [m7 _ _ (by omega) (by omega) (by omega) (by omega)]; exact n3, rfl, fun z => ?_, fun _ => by rw [m7 _ _ (by omega) (by omega) (by omega) (by omega)]; exact n4⟩
      have z1 := z.2.1
      have z0 : 0 + (mkM wa wb a b L S).2.2.1 ≤ 0 := z.1
      have e0 : 0 + (mkM wa wb a b L S).2.2.1 = 0 := by omega
      rw [e0] at z1
      cases z1
    · refine ⟨1, 0, by omega, Nat.le_refl _, m2, m3, rfl, fun z => ?_, fun _ => m4⟩
      have z1 := z.2.1
      have z0 : 0 + (mkM wa wb a b L S).2.2.1 ≤ 0 := z.1
      have e0 : 0 + (mkM wa wb a b L S).2.2.1 = 0 := by omega
      rw [e0] at z1
      cases z1
  · have a0 : a_i y1 169 0 = nI 0 := by rw [m7 _ _ (by omega) (by omega) (by omega) (by omega)]; exact n2
    rcases show i = 0 ∨ i = 1 by omega with rfl | rfl <;> rcases show j = 0 ∨ j = 1 by omega with rfl | rfl
    · rfl
    · rw [a0, m2, nI_inj (by omega) (by omega)] at h1; omega
    · rw [a0, m2, nI_inj (by omega) (by omega)] at h1; omega
    · rfl
  · have : some 0 = some b := hs
    cases this
    rcases show e = 0 ∨ e = 1 by omega with rfl | rfl
    · exact ⟨0, by omega, by rw [m7 _ _ (by omega) (by omega) (by omega) (by omega)]; exact n1, by rw [m7 _ _ (by omega) (by omega) (by omega) (by omega)]; exact n2, by rw [m7 _ _ (by omega) (by omega) (by omega) (by omega)]; exact n3⟩
    · exact ⟨1, by omega, m1, m2, m3⟩
  · have : k = 0 := by omega
    subst this
    show a_i y1 166 0 = wI true true
    rw [m6, n6, ic _ _ (by omega), zs 0 (by omega)]
    decide
  · have z : a_i y1 168 (1100 * e + u) = 0 := by
      rw [m7 _ _ (by omega) (by omega) (by omega) (by omega), n7 _ _ (by omega) (by omega) (by omega) (by omega)]
      exact zc _ (by omega)
    refine ⟨fun q => ?_, fun _ => z⟩
    exfalso
    have q1 := q.1
    rcases show e = 0 ∨ e = 1 by omega with rfl | rfl
    · rw [mkM_l0] at q1; omega
    · rw [mkM_l1] at q1; omega
end RF8
