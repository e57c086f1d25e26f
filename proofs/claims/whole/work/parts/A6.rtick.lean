/-! a tenth: the other side, whole -/
section RTICK
variable {e n m j i T r c d K Z t : Nat} {s : TS} {h0 h h1 x : am_h} {b0 v z kd b l : Int32} {u : Nat → Int32} {VW VS VL : (Nat → Int32) → Int32 → Int32} {g : Nat → Int32} {F W : Nat → Bool} {H : Nat → Nat → Bool} {Q : Option Value → am_h → Prop} {hr : Bool}
theorem ACT_ne {c i : Nat} (hi : ¬ i = e) (hc : (1 ≤ c ∧ c ≤ 6) ∨ (18 ≤ c ∧ c ≤ 23)) : ACT g VW VS VL m n H e s c i = s c i := by
  have cl : ∀ (y : TS) q z kd, cls y e q z kd c i = y c i := by
    intro y q z kd
    unfold cls
    simp (disch := omega) only [upn]
  have op : ∀ (y : TS) T b l sp, opn y e T b l sp c i = y c i := by
    intro y T b l sp
    unfold opn
    simp (disch := omega) only [upn]
  have h1 : ∀ v hr y, aS g v hr y e c i = y c i := by
    intro v hr y
    obtain ⟨q, w | ⟨-, w⟩ | ⟨-, w⟩⟩ := aS_c g v hr y e
    · rw [w, cl, upn (by omega)]
    · rw [w, upn (by omega), upn (by omega)]
    · rw [w, cl, upn (by omega)]
  have h2 : ∀ hr y, aQ g VW VL m n hr y e c i = y c i := by
    intro hr y
    unfold aQ
    split
    · rw [upn (by omega)]
    · split
      · split
        · rw [aP_o (by omega)]
        · rw [op, upn (by omega), aP_o (by omega)]
      · rw [upn (by omega), aP_o (by omega)]
  unfold ACT
  split
  · split
    · rw [h1]
    · rw [h2, h1]
  · rw [h2]
theorem acts_ge {c i : Nat} (hc : (1 ≤ c ∧ c ≤ 6) ∨ (18 ≤ c ∧ c ≤ 23)) : ∀ k, k ≤ i → itr (ACT g VW VS VL m n H) 0 k s c i = s c i := by
  intro k
  induction k with
  | zero => intro _; rfl
  | succ k ih =>
    intro hk
    rw [itr_snoc, ACT_ne (by omega) hc, ih (by omega)]
theorem acts_one {c : Nat} (hc : (1 ≤ c ∧ c ≤ 6) ∨ (18 ≤ c ∧ c ≤ 23)) : ∀ k, e < k → itr (ACT g VW VS VL m n H) 0 k s c e = ACT g VW VS VL m n H e (itr (ACT g VW VS VL m n H) 0 e s) c e := by
  intro k
  induction k with
  | zero => intro h; omega
  | succ k ih =>
    intro hk
    rw [itr_snoc, Nat.zero_add]
    by_cases q : e = k
    · rw [q]
    · rw [ACT_ne q hc, ih (by omega)]
/-- how long one that speaks has spoken -/
theorem ACT_23 (h01 : s 1 e = 0 ∨ s 1 e = 1) (h : s 1 e = 1 → bt 0 (s 23 e) Z) (hZ : Z ≤ 100000) : ACT g VW VS VL m n H e s 1 e = 1 → bt 0 (ACT g VW VS VL m n H e s 23 e) (Z + 1 : Nat) := by
  have hq : ∀ hr (y : TS), ¬ y 1 e = 1 → aQ g VW VL m n hr y e 1 e = 1 → bt 0 (aQ g VW VL m n hr y e 23 e) (Z + 1 : Nat) := by
    intro hr y hy h1
    unfold aQ at h1 ⊢
    split
    · rename_i c
      rw [if_pos c, upn (by omega)] at h1
      exact absurd h1 hy
    · rename_i c
      rw [if_neg c] at h1
      split
      · rename_i c2
        rw [if_pos c2] at h1
        split
        · rename_i c3
          rw [if_pos c3, aP_o (by omega)] at h1
          exact absurd h1 hy
        · rw [opn_e.2.2.2]
          unfold bt
          have : (1 : Int32).toInt = 1 := rfl
          omega
      · rename_i c2
        rw [if_neg c2, upn (by omega), aP_o (by omega)] at h1
        exact absurd h1 hy
  unfold ACT
  by_cases c : s 1 e = 1
  · rw [if_pos c]
    by_cases c2 : aS g VS (decide (¬ bN (H e) = 0)) s e 1 e = 1
    · rw [if_pos c2]
      intro _
      obtain ⟨q, w | ⟨-, w⟩ | ⟨-, w⟩⟩ := aS_c g VS (decide (¬ bN (H e) = 0)) s e
      · rw [w, cls_1, if_pos rfl] at c2
        exact absurd c2 (by decide)
      · rw [w, upe' rfl rfl]
        obtain ⟨k, k1, k2, k3⟩ := btn (h c) (by omega) (by omega)
        have := h c
        unfold bt at this ⊢
        rw [k1, nI_s, nI_i (by omega)]
        omega
      · rw [w, cls_1, if_pos rfl] at c2
        exact absurd c2 (by decide)
    · rw [if_neg c2]
      exact hq _ _ c2
  · rw [if_neg c]
    exact hq _ _ c
/-- what stands between two tenths, for the other side -/
def WR (n Z : Nat) (s : TS) : Prop := ZB s ∧ (∀ f k, n ≤ f → f < 4 → k < 64 → ¬ s (30 + f) k = 1) ∧ ∀ e, e < 4 → s 1 e = 1 → e < n ∧ bt 0 (s 23 e) Z
theorem TK_1 {i : Nat} : TK g VW VS VL m n s 1 i = itr (ACT g VW VS VL m n (hB s n)) 0 n (LIS s (hB s n) n) 1 i := by
  unfold TK CNT
  rw [if_neg (by omega), if_neg (by omega), if_neg (by omega)]
theorem TK_23 {i : Nat} : TK g VW VS VL m n s 23 i = itr (ACT g VW VS VL m n (hB s n)) 0 n (LIS s (hB s n) n) 23 i := by
  unfold TK CNT
  rw [if_neg (by omega), if_neg (by omega), if_neg (by omega)]
theorem LIS_o {c i : Nat} (h : ¬ (c = 0 ∧ i = 1) ∧ ¬ c = 5 ∧ ¬ c = 6) : LIS s H j c i = s c i := by
  unfold LIS
  rw [if_neg h.1, if_neg (by omega), if_neg (by omega)]
theorem TK_past {f k : Nat} (hf : f < 4) : TK g VW VS VL m n s (30 + f) k = if f < n then (if k = 0 then TK g VW VS VL m n s 1 f else s (30 + f) (k - 1)) else s (30 + f) k := by
  rw [TK_1]
  unfold TK CNT
  rw [if_neg (by omega), if_neg (by omega)]
  by_cases c : f < n
  · rw [if_pos c, if_pos (by omega), show 30 + f - 30 = f by omega]
    by_cases c2 : k = 0
    · rw [if_pos c2, if_pos c2]
    · rw [if_neg c2, if_neg c2, acts_o (by omega), LIS_o (by omega)]
  · rw [if_neg c, if_neg (by omega), acts_o (by omega), LIS_o (by omega)]
theorem WR.tk (w : WR n Z s) (P : PA m n K s) (hn : n ≤ 4) (hZ : Z ≤ 100000) (hT : bt 0 (s 0 1) 100000) (hK : K + 8 ≤ 100000) : WR n (Z + 1) (TK g VW VS VL m n s) := by
  obtain ⟨w1, w2, w3⟩ := w
  have e01 : (TK g VW VS VL m n s 0 1).toInt = (s 0 1).toInt + 1 := by
    rw [TK_0.1]
    obtain ⟨k, k1, k2, k3⟩ := btn hT (by omega) (by omega)
    unfold bt at hT
    rw [k1, nI_s, nI_i (by omega), nI_i (by omega)]
    omega
  refine ⟨fun e k he hk hlt => ?_, fun f k hf hf4 hk => ?_, fun e he h1 => ?_⟩
  · rw [TK_past he]
    rw [e01] at hlt
    split
    · rw [if_neg (by unfold bt at hT; omega)]
      exact w1 e (k - 1) he (by omega) (by omega)
    · exact w1 e k he hk (by omega)
  · rw [TK_past hf4, if_neg (by omega)]
    exact w2 f k hf hf4 hk
  · rw [TK_1] at h1
    rw [TK_23]
    by_cases c : e < n
    · refine ⟨c, ?_⟩
      rw [acts_one (by omega) n c] at h1 ⊢
      have y1 : itr (ACT g VW VS VL m n (hB s n)) 0 e (LIS s (hB s n) n) 1 e = s 1 e := by rw [acts_ge (by omega) e (Nat.le_refl _), LIS_o (by omega)]
      have y23 : itr (ACT g VW VS VL m n (hB s n)) 0 e (LIS s (hB s n) n) 23 e = s 23 e := by rw [acts_ge (by omega) e (Nat.le_refl _), LIS_o (by omega)]
      exact ACT_23 (by rw [y1]; exact (P.2.2 e he).1) (fun z => by rw [y23]; rw [y1] at z; exact (w3 e he z).2) hZ h1
    · rw [acts_ge (by omega) n (by omega), LIS_o (by omega)] at h1
      exact absurd (w3 e he h1).1 c
/-- the tenth now -/
theorem rJ.ut (k : rJ m n b0 u h0 h s) : rJ m n b0 u h0 (s_i h 126 44 (s 0 1 + 1)) (LIS s H 0) := by
  have L : ∀ c i, ¬ (c = 0 ∧ i = 1) → LIS s H 0 c i = s c i := by
    intro c i hc
    unfold LIS
    rw [if_neg hc, if_neg (by omega), if_neg (by omega)]
  obtain ⟨k1, ⟨a1, a2, a3, a4, a5, a6⟩, k3, k4, k5, k6, k7, k8⟩ := k
  refine ⟨k1.tr ⟨rfl, rfl, rfl⟩, ⟨?_, ?_, ?_, ?_, ?_, ?_⟩, fun e' he' => ?_, fun k hk => ?_, fun z => ?_, fun z => ?_, fun q j c' => ?_, k8⟩
  · rw [ine (by omega)]; exact a1
  · rw [ine (by omega)]; exact a2
  · rw [ieq rfl rfl]; rfl
  · rw [ine (by omega), L _ _ (by omega)]; exact a4
  · rw [ine (by omega), L _ _ (by omega)]; exact a5
  · rw [ine (by omega), L _ _ (by omega)]; exact a6
  · have := k3 e' he'
    unfold rJe at this ⊢
    simp (disch := omega) only [ine, L]
    exact this
  · rw [ine (by omega), L _ _ (by omega)]; exact k4 k hk
  · intro c' i' hc'
    rw [a127_sc (by omega), L _ _ (by omega)]
    exact k5 z c' i' hc'
  · have e8 : LIS s H 0 8 = s 8 := funext fun i => L _ _ (by omega)
    have e9 : LIS s H 0 9 = s 9 := funext fun i => L _ _ (by omega)
    rw [ine (by omega), ine (by omega), e8, e9]
    exact k6 z
  · rw [ine (fun z => c' (by unfold jch; omega))]
    exact k7 q j c'
set_option maxRecDepth 20000 in
set_option maxHeartbeats 4000000 in
/-- one end acts -/
theorem r_act (B : rBs m n g VW VS VL h0) (k : rJ m n b0 u h0 h s) (P : PA m n K s) (hK : K + 1 ≤ 100000) (he : e < n) (hu : u e = s 0 1) (h23 : s 1 e = 1 → bt 0 (s 23 e) 100000) (ht : s 0 1 = nI T) (hT : T ≤ 100000) (hh : a_i h 164 e = nI (bN (H e))) (hW : a_i h 166 (T % 64) = nI (bN W)) (hWe : W e = false) : ∃ h' W', (∀ Q, WP (d + 7) mX12_tenthGoes 29 [some (.ref 126), some (.int (nI e))] [] h Q = WP (d + 7) mX12_tenthGoes 29 [some (.ref 126), some (.int (nI (e + 1)))] [] h' Q) ∧ rJ m n b0 (fun e' => if e' = e then s 0 1 + 1 else u e') h0 h' (ACT g VW VS VL m n H e s) ∧ rKp h h' T ∧ a_i h' 166 (T % 64) = nI (bN W') ∧ ∀ i, W' i = (W i || (decide (i = e) && decide (ACT g VW VS VL m n H e s 1 e = 1))) := by
  have B' := B
  obtain ⟨m1, x0, x1, x2, G, hg⟩ := B'
  have n4 := G.1
  have hR := k.R x0.2.1
  have y43 : a_i h 126 43 = nI n := k.2.1.2.1
  have ie : am_in1 (nI e) 4 = True := by rw [in1_n (by omega)]; exact eq_true (by omega)
  have ce : (nI e).toNatClampNeg = e := nI_c (by omega)
  have lt : (nI e < nI n) = True := nI_ltT he (by omega)
  have z1 := (k.2.2.1 e (by omega)).1
  by_cases c : s 1 e = 1
  · obtain ⟨h1, W1, o1, k1, e1, w1, w2⟩ := r_goesSpeaking (d := d + 1) (F := H e) B k P (by omega) he c hu (h23 c) ht hT hh hW
    have hR1 := k1.R x0.2.1
    have P1 := P.xaS (g := g) (VS := VS) (hr := decide (¬ bN (H e) = 0)) (e := e) (by omega) (by omega)
    have s01 : aS g VS (decide (¬ bN (H e) = 0)) s e 0 1 = s 0 1 := by
      obtain ⟨q, w | ⟨-, w⟩ | ⟨-, w⟩⟩ := aS_c g VS (decide (¬ bN (H e) = 0)) s e
      · rw [w, cls_03, upn (by omega)]
      · rw [w, upn (by omega), upn (by omega)]
      · rw [w, cls_03, upn (by omega)]
    unfold ACT
    rw [if_pos c]
    generalize aS g VS (decide (¬ bN (H e) = 0)) s e = A at k1 P1 s01 w2 ⊢
    have z2 := (k1.2.2.1 e (by omega)).1
    by_cases c2 : A 1 e = 1
    · rw [if_pos c2]
      refine ⟨h1, W1, fun Q => ?_, k1, e1, w1, w2⟩
      rw [w_iload_n1 (M := mX12_tenthGoes) dX12_tenthGoes_29]
      simp [w_aload_n0 (M := mX12_tenthGoes) dX12_tenthGoes_30, w_getI (M := mX12_tenthGoes) dX12_tenthGoes_31 f_12_421 rfl (by decide) (by decide), w_ic_ge (M := mX12_tenthGoes) (tgt := 72) dX12_tenthGoes_34 (by decide), w_aload_n0 (M := mX12_tenthGoes) dX12_tenthGoes_37, w_getA (M := mX12_tenthGoes) dX12_tenthGoes_38 f_12_94 rfl (by decide) (by decide), w_iload_n1 (M := mX12_tenthGoes) dX12_tenthGoes_41, w_iaload (M := mX12_tenthGoes) dX12_tenthGoes_42, w_iconst (M := mX12_tenthGoes) (v := 1) dX12_tenthGoes_43 rfl, w_ic_ne (M := mX12_tenthGoes) (tgt := 52) dX12_tenthGoes_44 (by decide), w_aload_n0 (M := mX12_tenthGoes) dX12_tenthGoes_47, w_iload_n1 (M := mX12_tenthGoes) dX12_tenthGoes_48, c_12_505 (M := mX12_tenthGoes) dX12_tenthGoes_49 rfl, w_aload_n0 (M := mX12_tenthGoes) dX12_tenthGoes_52, w_getA (M := mX12_tenthGoes) dX12_tenthGoes_53 f_12_94 rfl (by decide) (by decide), w_iload_n1 (M := mX12_tenthGoes) dX12_tenthGoes_56, w_iaload (M := mX12_tenthGoes) dX12_tenthGoes_57, w_if_ne (M := mX12_tenthGoes) (tgt := 66) dX12_tenthGoes_58 (by decide), w_aload_n0 (M := mX12_tenthGoes) dX12_tenthGoes_61, w_iload_n1 (M := mX12_tenthGoes) dX12_tenthGoes_62, c_12_508 (M := mX12_tenthGoes) dX12_tenthGoes_63 rfl, w_iinc1 (M := mX12_tenthGoes) (v := 1) dX12_tenthGoes_66 rfl (by decide), w_goto (M := mX12_tenthGoes) (tgt := 29) dX12_tenthGoes_69 (by decide), Kn_v_, Kn_n_, kl_i_, kl_a_, kl_l_, kl_n_, s1_0_, s2_0_, s1_1, s1_2, s1_3, s1_4, s1_5, s1_6, s1_7, s1_8, s1_9, s1_10, s1_11, s1_12, s1_13, s1_14, s2_1, s2_2, s2_3, s2_4, s2_5, s2_6, s2_7, s2_8, s2_9, s2_10, s2_11, s2_12, s2_13, s2_14, List.map_nil, List.map_cons, List.sum_nil, List.sum_cons, ct_i_, ct_r_, ct_l_, t_si_, t_sl_, t_sr_, n_si_, n_sl_, n_sr_, i_si_, i_sl_, i_sr_, l_si_, l_sl_, l_sr_, r_si_, r_sl_, r_sr_, vr_s_, vr_n_, nz_0_, nz_1_, hR.e, hR1.e, y43, lt, ie, ce, z1, c, o1, z2, c2, nI_s]
    · rw [if_neg c2]
      have c3 : A 1 e = 0 := by
        rcases (P1.2.2 e (by omega)).1 with z | z
        · exact z
        · exact absurd z c2
      obtain ⟨h2, W2, o2, k2, e2, v1, v2⟩ := r_goesSilent (d := d) (F := H e) B k1 P1 (by omega) he c3 (by rw [s01]; exact ht) hT (by rw [e1.2]; exact hh) w1
      refine ⟨h2, W2, fun Q => ?_, ?_, e1.tr e2, v1, fun i => ?_⟩
      · rw [w_iload_n1 (M := mX12_tenthGoes) dX12_tenthGoes_29]
        simp [w_aload_n0 (M := mX12_tenthGoes) dX12_tenthGoes_30, w_getI (M := mX12_tenthGoes) dX12_tenthGoes_31 f_12_421 rfl (by decide) (by decide), w_ic_ge (M := mX12_tenthGoes) (tgt := 72) dX12_tenthGoes_34 (by decide), w_aload_n0 (M := mX12_tenthGoes) dX12_tenthGoes_37, w_getA (M := mX12_tenthGoes) dX12_tenthGoes_38 f_12_94 rfl (by decide) (by decide), w_iload_n1 (M := mX12_tenthGoes) dX12_tenthGoes_41, w_iaload (M := mX12_tenthGoes) dX12_tenthGoes_42, w_iconst (M := mX12_tenthGoes) (v := 1) dX12_tenthGoes_43 rfl, w_ic_ne (M := mX12_tenthGoes) (tgt := 52) dX12_tenthGoes_44 (by decide), w_aload_n0 (M := mX12_tenthGoes) dX12_tenthGoes_47, w_iload_n1 (M := mX12_tenthGoes) dX12_tenthGoes_48, c_12_505 (M := mX12_tenthGoes) dX12_tenthGoes_49 rfl, w_aload_n0 (M := mX12_tenthGoes) dX12_tenthGoes_52, w_getA (M := mX12_tenthGoes) dX12_tenthGoes_53 f_12_94 rfl (by decide) (by decide), w_iload_n1 (M := mX12_tenthGoes) dX12_tenthGoes_56, w_iaload (M := mX12_tenthGoes) dX12_tenthGoes_57, w_if_ne (M := mX12_tenthGoes) (tgt := 66) dX12_tenthGoes_58 (by decide), w_aload_n0 (M := mX12_tenthGoes) dX12_tenthGoes_61, w_iload_n1 (M := mX12_tenthGoes) dX12_tenthGoes_62, c_12_508 (M := mX12_tenthGoes) dX12_tenthGoes_63 rfl, w_iinc1 (M := mX12_tenthGoes) (v := 1) dX12_tenthGoes_66 rfl (by decide), w_goto (M := mX12_tenthGoes) (tgt := 29) dX12_tenthGoes_69 (by decide), Kn_v_, Kn_n_, kl_i_, kl_a_, kl_l_, kl_n_, s1_0_, s2_0_, s1_1, s1_2, s1_3, s1_4, s1_5, s1_6, s1_7, s1_8, s1_9, s1_10, s1_11, s1_12, s1_13, s1_14, s2_1, s2_2, s2_3, s2_4, s2_5, s2_6, s2_7, s2_8, s2_9, s2_10, s2_11, s2_12, s2_13, s2_14, List.map_nil, List.map_cons, List.sum_nil, List.sum_cons, ct_i_, ct_r_, ct_l_, t_si_, t_sl_, t_sr_, n_si_, n_sl_, n_sr_, i_si_, i_sl_, i_sr_, l_si_, l_sl_, l_sr_, r_si_, r_sl_, r_sr_, vr_s_, vr_n_, nz_0_, nz_1_, hR.e, hR1.e, y43, lt, ie, ce, z1, c, o1, z2, c3, o2, nI_s]
      · rw [s01] at k2
        refine k2.uu (fun e' _ _ => ?_)
        by_cases q : e' = e
        · rw [if_pos q, if_pos q]
        · rw [if_neg q, if_neg q]
      · rw [v2 i, w2 i, c3]
        simp
  · have c0 : s 1 e = 0 := by
      rcases (P.2.2 e (by omega)).1 with z | z
      · exact z
      · exact absurd z c
    obtain ⟨h2, W2, o2, k2, e2, v1, v2⟩ := r_goesSilent (d := d) (F := H e) B k P (by omega) he c0 ht hT hh hW
    unfold ACT
    rw [if_neg c]
    refine ⟨h2, W2, fun Q => ?_, k2, e2, v1, v2⟩
    rw [w_iload_n1 (M := mX12_tenthGoes) dX12_tenthGoes_29]
    simp [w_aload_n0 (M := mX12_tenthGoes) dX12_tenthGoes_30, w_getI (M := mX12_tenthGoes) dX12_tenthGoes_31 f_12_421 rfl (by decide) (by decide), w_ic_ge (M := mX12_tenthGoes) (tgt := 72) dX12_tenthGoes_34 (by decide), w_aload_n0 (M := mX12_tenthGoes) dX12_tenthGoes_37, w_getA (M := mX12_tenthGoes) dX12_tenthGoes_38 f_12_94 rfl (by decide) (by decide), w_iload_n1 (M := mX12_tenthGoes) dX12_tenthGoes_41, w_iaload (M := mX12_tenthGoes) dX12_tenthGoes_42, w_iconst (M := mX12_tenthGoes) (v := 1) dX12_tenthGoes_43 rfl, w_ic_ne (M := mX12_tenthGoes) (tgt := 52) dX12_tenthGoes_44 (by decide), w_aload_n0 (M := mX12_tenthGoes) dX12_tenthGoes_47, w_iload_n1 (M := mX12_tenthGoes) dX12_tenthGoes_48, c_12_505 (M := mX12_tenthGoes) dX12_tenthGoes_49 rfl, w_aload_n0 (M := mX12_tenthGoes) dX12_tenthGoes_52, w_getA (M := mX12_tenthGoes) dX12_tenthGoes_53 f_12_94 rfl (by decide) (by decide), w_iload_n1 (M := mX12_tenthGoes) dX12_tenthGoes_56, w_iaload (M := mX12_tenthGoes) dX12_tenthGoes_57, w_if_ne (M := mX12_tenthGoes) (tgt := 66) dX12_tenthGoes_58 (by decide), w_aload_n0 (M := mX12_tenthGoes) dX12_tenthGoes_61, w_iload_n1 (M := mX12_tenthGoes) dX12_tenthGoes_62, c_12_508 (M := mX12_tenthGoes) dX12_tenthGoes_63 rfl, w_iinc1 (M := mX12_tenthGoes) (v := 1) dX12_tenthGoes_66 rfl (by decide), w_goto (M := mX12_tenthGoes) (tgt := 29) dX12_tenthGoes_69 (by decide), Kn_v_, Kn_n_, kl_i_, kl_a_, kl_l_, kl_n_, s1_0_, s2_0_, s1_1, s1_2, s1_3, s1_4, s1_5, s1_6, s1_7, s1_8, s1_9, s1_10, s1_11, s1_12, s1_13, s1_14, s2_1, s2_2, s2_3, s2_4, s2_5, s2_6, s2_7, s2_8, s2_9, s2_10, s2_11, s2_12, s2_13, s2_14, List.map_nil, List.map_cons, List.sum_nil, List.sum_cons, ct_i_, ct_r_, ct_l_, t_si_, t_sl_, t_sr_, n_si_, n_sl_, n_sr_, i_si_, i_sl_, i_sr_, l_si_, l_sl_, l_sr_, r_si_, r_sl_, r_sr_, vr_s_, vr_n_, nz_0_, nz_1_, hR.e, y43, lt, ie, ce, z1, c0, o2, nI_s]
set_option maxRecDepth 20000 in
set_option maxHeartbeats 4000000 in
theorem r_tenthGoes (B : rBs m n g VW VS VL h0) (k : rJ m n b0 (fun _ => s 0 1 + 1) h0 h s) (w : WA m n K Z s) (wr : WR n (Z + 1) s) (hK : K + 8 ≤ 100000) (hZ : Z + 2 ≤ 100000) (ht : s 0 1 = nI T) (hTZ : T ≤ Z) (hs : SPK h s T) : ∃ h', (∀ Q, Cal (d + 7) mX12_tenthGoes [.ref 126] h Q = Q none h') ∧ rJ m n b0 (fun _ => TK g VW VS VL m n s 0 1 + 1) h0 h' (TK g VW VS VL m n s) ∧ SPK h' (TK g VW VS VL m n s) (T + 1) := by
  have B' := B
  obtain ⟨m1, x0, x1, x2, G, hg⟩ := B'
  have n4 := G.1
  have hR := k.R x0.2.1
  obtain ⟨P, hd, hz⟩ := w
  obtain ⟨wz, wn, w3⟩ := wr
  obtain ⟨M, hM⟩ : ∃ M, M = (T + 1) % 64 := ⟨_, rfl⟩
  have M64 : M < 64 := by omega
  have t1 : s 0 1 + 1 = nI (T + 1) := by rw [ht, nI_s]
  have P0 := P.lis n4 (by
    rw [t1]
    unfold bt
    rw [nI_i (by omega)]
    omega) n
  obtain ⟨h1, eh1⟩ : ∃ h1, h1 = s_i (s_i h 126 44 (s 0 1 + 1)) 166 M 0 := ⟨_, rfl⟩
  have k1 : rJ m n b0 (fun _ => s 0 1 + 1) h0 h1 (LIS s (hB s n) 0) := by
    rw [eh1]
    exact (rJ.ut k).fr ⟨rfl, rfl, rfl⟩ (fun q j _ _ h6 => ine (by omega)) (fun _ _ _ => rfl)
  have s1 : SPK h1 s T := by
    intro kk k1 k2
    rw [eh1, ine (by omega), ine (by omega)]
    exact hs kk k1 k2
  obtain ⟨h2, o2, k2, hh2, e2⟩ := r_hearsAll (d := d + 5) B k1 (by omega) ht hd wz s1
  have y01 : ∀ i, itr (ACT g VW VS VL m n (hB s n)) 0 i (LIS s (hB s n) n) 0 1 = nI (T + 1) := by
    intro i
    rw [acts_o (by omega)]
    exact t1
  have st : ∀ (i : Nat) (x : am_h), i < n → (rJ m n b0 (fun e' => if e' < i then s 0 1 + 1 + 1 else s 0 1 + 1) h0 x (itr (ACT g VW VS VL m n (hB s n)) 0 i (LIS s (hB s n) n)) ∧ (∀ j, ¬ j = M → a_i x 166 j = a_i h2 166 j) ∧ (∀ e, e < n → a_i x 164 e = nI (bN (hB s n e))) ∧ ∃ W, a_i x 166 M = nI (bN W) ∧ ∀ f, W f = (decide (f < i) && decide (itr (ACT g VW VS VL m n (hB s n)) 0 i (LIS s (hB s n) n) 1 f = 1))) → ∃ x', (∀ Q, WP (d + 7) mX12_tenthGoes 29 [some (.ref 126), some (.int (nI i))] [] x Q = WP (d + 7) mX12_tenthGoes 29 [some (.ref 126), some (.int (nI (i + 1)))] [] x' Q) ∧ (rJ m n b0 (fun e' => if e' < i + 1 then s 0 1 + 1 + 1 else s 0 1 + 1) h0 x' (itr (ACT g VW VS VL m n (hB s n)) 0 (i + 1) (LIS s (hB s n) n)) ∧ (∀ j, ¬ j = M → a_i x' 166 j = a_i h2 166 j) ∧ (∀ e, e < n → a_i x' 164 e = nI (bN (hB s n e))) ∧ ∃ W, a_i x' 166 M = nI (bN W) ∧ ∀ f, W f = (decide (f < i + 1) && decide (itr (ACT g VW VS VL m n (hB s n)) 0 (i + 1) (LIS s (hB s n) n) 1 f = 1))) := by
    intro i x hi ⟨a1, a2, a3, W, a4, a5⟩
    have yi : ∀ c, (c = 1 ∨ c = 23) → itr (ACT g VW VS VL m n (hB s n)) 0 i (LIS s (hB s n) n) c i = s c i := by
      intro c hc
      rw [acts_ge (by omega) i (Nat.le_refl _), LIS_o (by omega)]
    obtain ⟨x', W', p1, p2, p3, p4, p5⟩ := r_act (d := d) (T := T + 1) (W := W) (H := hB s n) B a1 (P0.acts n4 hK i (by omega)) (by omega) hi (by
      rw [y01, ← t1]
      simp) (by
      rw [yi 1 (by omega), yi 23 (by omega)]
      intro z
      exact bt_mono (w3 i (by omega) z).2 (by omega)) (y01 i) (by omega) (a3 i hi) (by rw [← hM]; exact a4) (by rw [a5]; simp)
    refine ⟨x', p1, ?_, fun j hj => ?_, fun e he => ?_, W', by rw [hM]; exact p4, fun f => ?_⟩
    · rw [itr_snoc, Nat.zero_add]
      refine p2.uu (fun e' _ _ => ?_)
      rw [y01, ← t1]
      by_cases q : e' = i
      · rw [if_pos q, if_pos (by omega)]
      · rw [if_neg q]
        by_cases q2 : e' < i
        · rw [if_pos q2, if_pos (by omega)]
        · rw [if_neg q2, if_neg (by omega)]
    · rw [p3.1 j (by rw [← hM]; exact hj)]; exact a2 j hj
    · rw [p3.2]; exact a3 e he
    · rw [p5 f, a5 f, itr_snoc, Nat.zero_add]
      by_cases q : f = i
      · subst q
        simp
      · rw [ACT_ne q (by omega)]
        have : (f < i + 1) = (f < i) := propext ⟨fun _ => by omega, fun _ => by omega⟩
        simp [q, this]
  obtain ⟨h3, p1, p2, p3, p4, W, p5, p6⟩ := lp (W := fun i (x : am_h) Q => WP (d + 7) mX12_tenthGoes 29 [some (.ref 126), some (.int (nI i))] [] x Q) (P := fun i x => rJ m n b0 (fun e' => if e' < i then s 0 1 + 1 + 1 else s 0 1 + 1) h0 x (itr (ACT g VW VS VL m n (hB s n)) 0 i (LIS s (hB s n) n)) ∧ (∀ j, ¬ j = M → a_i x 166 j = a_i h2 166 j) ∧ (∀ e, e < n → a_i x 164 e = nI (bN (hB s n e))) ∧ ∃ W, a_i x 166 M = nI (bN W) ∧ ∀ f, W f = (decide (f < i) && decide (itr (ACT g VW VS VL m n (hB s n)) 0 i (LIS s (hB s n) n) 1 f = 1))) st n 0 h2 (by omega) ⟨k2.uu (fun e' _ _ => by rw [if_neg (by omega)]), fun _ _ => rfl, hh2, fun _ => false, by
      rw [e2, eh1, ieq rfl rfl, bN_0 (fun _ _ => rfl)]
      rfl, fun f => by simp⟩
  obtain ⟨h4, q1, q2, q3⟩ := r_talliesAll (d := d + 6) (T := T + 1) (W := W) (H := hB s n) B p2 (y01 n) (by omega) p4 (by rw [← hM]; exact p5) (fun e he => by rw [p6, decide_eq_true he, Bool.true_and]) (fun e f hf => by unfold hB; exact decide_eq_false (fun w => absurd w.1 (by omega)))
  have nsp : ∀ e, e < 4 → TK g VW VS VL m n s 1 e = 1 → e < n := by
    intro e he z
    rw [TK_1] at z
    by_cases q : e < n
    · exact q
    · rw [acts_ge (by omega) n (by omega), LIS_o (by omega)] at z
      exact (w3 e he z).1
  refine ⟨h4, fun Q => ?_, ?_, fun kk k1 k2 => ?_⟩
  · have hR1 := k1.R x0.2.1
    have hR2 := k2.R x0.2.1
    have hR3 := p2.R x0.2.1
    have a3 : a_i h 126 44 = s 0 1 := k.2.1.2.2.1
    have y43 : a_i h3 126 43 = nI n := p2.2.1.2.1
    have e0 : (0 : Int32) = nI 0 := rfl
    have ix : (s 0 1 + 1) &&& 63 = nI M := by rw [t1, and63 (by omega), ← hM]
    have p1' := p1 Q
    unfold Cal
    rw [l_X12_tenthGoes]
    simp only [am_en, am_ag, ct_i, ct_r, ct_l, List.length_cons, List.length_nil, List.replicate]
    simp [w_aload_n0 (M := mX12_tenthGoes) dX12_tenthGoes_0, w_dup_int (M := mX12_tenthGoes) dX12_tenthGoes_1, w_dup_ref (M := mX12_tenthGoes) dX12_tenthGoes_1, w_getI (M := mX12_tenthGoes) dX12_tenthGoes_2 f_12_424 rfl (by decide) (by decide), w_iconst (M := mX12_tenthGoes) (v := 1) dX12_tenthGoes_5 rfl, w_iadd (M := mX12_tenthGoes) dX12_tenthGoes_6, w_putI (M := mX12_tenthGoes) dX12_tenthGoes_7 f_12_424 rfl (Or.inl rfl), w_aload_n0 (M := mX12_tenthGoes) dX12_tenthGoes_10, w_getA (M := mX12_tenthGoes) dX12_tenthGoes_11 f_12_136 rfl (by decide) (by decide), w_aload_n0 (M := mX12_tenthGoes) dX12_tenthGoes_14, w_getI (M := mX12_tenthGoes) dX12_tenthGoes_15 f_12_424 rfl (by decide) (by decide), w_bipush (M := mX12_tenthGoes) (v := 63) dX12_tenthGoes_18 rfl, w_iand (M := mX12_tenthGoes) dX12_tenthGoes_20, w_iconst (M := mX12_tenthGoes) (v := 0) dX12_tenthGoes_21 rfl, w_iastore (M := mX12_tenthGoes) dX12_tenthGoes_22, w_aload_n0 (M := mX12_tenthGoes) dX12_tenthGoes_23, c_12_502 (M := mX12_tenthGoes) dX12_tenthGoes_24 rfl, w_iconst (M := mX12_tenthGoes) (v := 0) dX12_tenthGoes_27 rfl, w_istore_n (M := mX12_tenthGoes) (i := 1) dX12_tenthGoes_28 rfl (by decide), Kn_v_, Kn_n_, kl_i_, kl_a_, kl_l_, kl_n_, s1_0_, s2_0_, s1_1, s1_2, s1_3, s1_4, s1_5, s1_6, s1_7, s1_8, s1_9, s1_10, s1_11, s1_12, s1_13, s1_14, s2_1, s2_2, s2_3, s2_4, s2_5, s2_6, s2_7, s2_8, s2_9, s2_10, s2_11, s2_12, s2_13, s2_14, List.map_nil, List.map_cons, List.sum_nil, List.sum_cons, ct_i_, ct_r_, ct_l_, t_si_, t_sl_, t_sr_, n_si_, n_sl_, n_sr_, i_si_, i_sl_, i_sr_, l_si_, l_sl_, l_sr_, r_si_, r_sl_, r_sr_, vr_s_, vr_n_, nz_0_, nz_1_, hR.e, hR1.e, a3, ix, in1_n (k := M) (n := 64) (by omega), M64, nI_c (a := M) (by omega), ← eh1, o2]
    rw [e0]
    refine Eq.to_iff (Eq.trans p1' ?_)
    show WP (d + 7) mX12_tenthGoes 29 _ _ _ _ = _
    rw [w_iload_n1 (M := mX12_tenthGoes) dX12_tenthGoes_29]
    simp [w_aload_n0 (M := mX12_tenthGoes) dX12_tenthGoes_30, w_getI (M := mX12_tenthGoes) dX12_tenthGoes_31 f_12_421 rfl (by decide) (by decide), w_ic_ge (M := mX12_tenthGoes) (tgt := 72) dX12_tenthGoes_34 (by decide), w_aload_n0 (M := mX12_tenthGoes) dX12_tenthGoes_72, c_12_511 (M := mX12_tenthGoes) dX12_tenthGoes_73 rfl, w_vret (M := mX12_tenthGoes) dX12_tenthGoes_76 rfl, Kn_v_, Kn_n_, kl_i_, kl_a_, kl_l_, kl_n_, s1_0_, s2_0_, s1_1, s1_2, s1_3, s1_4, s1_5, s1_6, s1_7, s1_8, s1_9, s1_10, s1_11, s1_12, s1_13, s1_14, s2_1, s2_2, s2_3, s2_4, s2_5, s2_6, s2_7, s2_8, s2_9, s2_10, s2_11, s2_12, s2_13, s2_14, List.map_nil, List.map_cons, List.sum_nil, List.sum_cons, ct_i_, ct_r_, ct_l_, t_si_, t_sl_, t_sr_, n_si_, n_sl_, n_sr_, i_si_, i_sl_, i_sr_, l_si_, l_sl_, l_sr_, r_si_, r_sl_, r_sr_, vr_s_, vr_n_, nz_0_, nz_1_, hR3.e, y43, show (nI n < nI n) = False from nI_ltF (Nat.le_refl _) (by omega), q1]
  · have : rJ m n b0 (fun e' => if e' < n then s 0 1 + 1 + 1 else s 0 1 + 1) h0 h4 (TK g VW VS VL m n s) := q2
    refine this.uu (fun e' h4' z => ?_)
    rw [if_pos (nsp e' h4' z), TK_0.1]
  · have same : ∀ j, ¬ j = M → a_i h4 166 j = a_i h 166 j := by
      intro j hj
      rw [q3, p3 j hj, e2, eh1, ine (by omega), ine (by omega)]
    by_cases c : kk = 0
    · subst c
      rw [Nat.sub_zero, ← hM, q3, p5, bN_c (g := fun f => decide (TK g VW VS VL m n s (30 + f) 0 = 1))]
      intro f hf
      rw [p6, TK_past hf]
      by_cases q : f < n
      · rw [if_pos q, if_pos rfl, TK_1, decide_eq_true q, Bool.true_and]
      · rw [if_neg q, decide_eq_false q, Bool.false_and]
        exact (decide_eq_false (wn f 0 (by omega) hf (by omega))).symm
    · rw [show T + 1 - kk = T - (kk - 1) by omega, same _ (by omega), hs (kk - 1) (by omega) (by omega), bN_c (g := fun f => decide (TK g VW VS VL m n s (30 + f) kk = 1))]
      intro f hf
      rw [TK_past hf, if_neg c]
      by_cases q : f < n
      · rw [if_pos q]
      · rw [if_neg q, decide_eq_false (wn f _ (by omega) hf (by omega)), decide_eq_false (wn f _ (by omega) hf (by omega))]
/-- all that stands between two tenths, for both sides -/
def WW (m n K Z : Nat) (s : TS) : Prop := WA m n K Z s ∧ WR n (Z + 1) s
theorem WW.tk (w : WW m n K Z s) (hn : n ≤ 4) (hK : K + 8 ≤ 100000) (hZ : Z + 2 ≤ 100000) : WW m n (K + 8) (Z + 1) (TK g VW VS VL m n s) :=
  ⟨w.1.tk hn hK (by omega), w.2.tk w.1.1 hn (by omega) (bt_mono w.1.2.2 (by omega)) hK⟩
theorem WW.tks (w : WW m n K Z s) (hn : n ≤ 4) : ∀ t, K + 8 * t ≤ 100000 → Z + t + 1 ≤ 100000 → WW m n (K + 8 * t) (Z + t) (TKS g VW VS VL m n t s) := by
  intro t
  induction t with
  | zero => intro _ _; exact w
  | succ t ih =>
    intro h1 h2
    rw [TKS_s]
    have := (ih (by omega) (by omega)).tk (g := g) (VW := VW) (VS := VS) (VL := VL) hn (by omega) (by omega)
    rw [show K + 8 * (t + 1) = K + 8 * t + 8 by omega, show Z + (t + 1) = Z + t + 1 by omega]
    exact this
theorem TKS_01 (ht : s 0 1 = nI T) : ∀ t, TKS g VW VS VL m n t s 0 1 = nI (T + t) := by
  intro t
  induction t with
  | zero => exact ht
  | succ t ih => rw [TKS_s, TK_0.1, ih, nI_s]; rfl
end RTICK
