/-! two fresh ends: a whole tenth, and all of them, on the other side -/
section RF7
variable {d : Nat} {h y y' : am_h} {m : FMo} {e o T f F b p w v n B : Nat}
/-- what the numbers may be -/
def FB (m : FMo) : Prop := 1 ≤ m.2.1 0 ∧ 1 ≤ m.2.1 1 ∧ m.2.1 0 ≤ 61 ∧ m.2.1 1 ≤ 61 ∧ m.1 0 ≤ 99 ∧ m.1 1 ≤ 99 ∧ 1 ≤ m.2.2.1 ∧ m.2.2.1 ≤ 99 ∧ m.2.2.2 ≤ 99
/-- all behind a tenth -/
def RFs (m : FMo) (T : Nat) (y : am_h) : Prop := RK m y ∧ a_i y 126 44 = nI T ∧ RT m 0 T y ∧ RT m 1 T y ∧ (∃ F, FA m (fun _ => T) (fun _ => T) (fun e => sbN m e T) F y) ∧ SPf m T y ∧ CCf m T y
set_option maxRecDepth 20000 in
theorem f_hearsAll (k : RK m y) (B : FB m) (hT : a_i y 126 44 = nI (T + 1)) (T2 : T ≤ 998) (S : SPf m T y) : ∃ y', (∀ Q, Cal (d + 1) mX12_hearsAll [.ref 126] y Q = Q none y') ∧ rff y y' ∧ a_i y' 164 0 = (if hrd m 0 (T + 1) = true then 2 else 0) ∧ a_i y' 164 1 = (if hrd m 1 (T + 1) = true then 1 else 0) ∧ ∀ q j, ¬ (q = 156 ∨ q = 157 ∨ q = 164) → a_i y' q j = a_i y q j := by
  obtain ⟨B1, B2, B3, B4, _⟩ := B
  obtain ⟨y1, z2, z3, c1, f1, h1, i1⟩ := f_hears0 (d := d) k hT T2 B2 B4 S (x2 := none) (x3 := none)
  have k1 := k.fr f1
  have S1 : SPf m T y1 := fun k hk hk2 => by rw [i1 _ _ (by omega)]; exact S k hk hk2
  obtain ⟨y2, z4, z5, c2, f2, h2, i2⟩ := f_hears1 (d := d) k1 (by rw [i1 _ _ (by omega)]; exact hT) T2 B1 B3 S1 (x2 := z2) (x3 := z3)
  have k2 := k1.fr f2
  refine ⟨y2, fun Q => ?_, f1.tr f2, by rw [i2 _ _ (by omega)]; exact h1, h2, fun q j c => by rw [i2 q j (by omega), i1 q j (by omega)]⟩
  have c1' := c1 Q
  have c2' := c2 Q
  unfold Cal
  rw [l_X12_hearsAll]
  simp only [am_en, am_ag, ct_i, ct_r, ct_l, List.length_cons, List.length_nil, List.replicate]
  simp [w_iconst (M := mX12_hearsAll) (v := 0) dX12_hearsAll_0 rfl, w_istore_n (M := mX12_hearsAll) (i := 1) dX12_hearsAll_1 rfl (by decide), Kn_v_, Kn_n_, kl_i_, kl_a_, kl_l_, kl_n_, s1_0_, s2_0_, s1_1, s1_2, s1_3, s1_4, s1_5, s1_6, s1_7, s1_8, s1_9, s1_10, s1_11, s1_12, s1_13, s1_14, s2_1, s2_2, s2_3, s2_4, s2_5, s2_6, s2_7, s2_8, s2_9, s2_10, s2_11, s2_12, s2_13, s2_14, List.map_nil, List.map_cons, List.sum_nil, List.sum_cons, ct_i_, ct_r_, ct_l_, t_si_, t_sl_, t_sr_, n_si_, n_sl_, n_sr_, i_si_, i_sl_, i_sr_, l_si_, l_sl_, l_sr_, r_si_, r_sl_, r_sr_, vr_s_, vr_n_, nz_0_, nz_1_]
  rw [c1', c2', w_iload_n1 (M := mX12_hearsAll) dX12_hearsAll_2]
  simp [w_aload_n0 (M := mX12_hearsAll) dX12_hearsAll_3, w_getI (M := mX12_hearsAll) dX12_hearsAll_4 f_12_421 rfl (by decide) (by decide), w_ic_ge (M := mX12_hearsAll) (tgt := 133) dX12_hearsAll_7 (by decide), w_vret (M := mX12_hearsAll) dX12_hearsAll_133 rfl, Kn_v_, Kn_n_, kl_i_, kl_a_, kl_l_, kl_n_, s1_0_, s2_0_, s1_1, s1_2, s1_3, s1_4, s1_5, s1_6, s1_7, s1_8, s1_9, s1_10, s1_11, s1_12, s1_13, s1_14, s2_1, s2_2, s2_3, s2_4, s2_5, s2_6, s2_7, s2_8, s2_9, s2_10, s2_11, s2_12, s2_13, s2_14, List.map_nil, List.map_cons, List.sum_nil, List.sum_cons, ct_i_, ct_r_, ct_l_, t_si_, t_sl_, t_sr_, n_si_, n_sl_, n_sr_, i_si_, i_sl_, i_sr_, l_si_, l_sl_, l_sr_, r_si_, r_sl_, r_sr_, vr_s_, vr_n_, nz_0_, nz_1_, k2.1.e, k2.2.2.1, show ((2 : Int32) < 2) = False from eq_false (by decide)]
set_option maxRecDepth 20000 in
theorem f_talliesAll (k : RK m y) (B : FB m) (hT : a_i y 126 44 = nI (T + 1)) (T2 : T ≤ 998) (h0 : a_i y 164 0 = (if hrd m 0 (T + 1) = true then 2 else 0)) (h1 : a_i y 164 1 = (if hrd m 1 (T + 1) = true then 1 else 0)) (hs : a_i y 166 ((T + 1) % 64) = wI (spkn m 0 (T + 1)) (spkn m 1 (T + 1))) (C : CCf m T y) : ∃ y', (∀ Q, Cal (d + 1) mX12_talliesAll [.ref 126] y Q = Q none y') ∧ rff y y' ∧ CCf m (T + 1) y' ∧ ∀ q j, ¬ q = 168 → ¬ (q = 126 ∧ (j = 48 ∨ j = 49)) → a_i y' q j = a_i y q j := by
  obtain ⟨B1, B2, B3, B4, _⟩ := B
  have HD : ∀ e, hrd m e (T + 1) = true → m.2.1 (1 - e) ≤ T + 1 := fun e z => by
    unfold hrd at z
    rw [Bool.and_eq_true] at z
    exact of_decide_eq_true z.1
  obtain ⟨y1, z2, z3, c1, f1, i1, v1, u1⟩ := f_tally0 (d := d) k hT T2 B2 B4 (H := hrd m 0 (T + 1)) h0 (HD 0) hs (x2 := none) (x3 := none)
  have k1 := k.fr f1
  obtain ⟨y2, z4, z5, c2, f2, i2, v2, u2⟩ := f_tally1 (d := d) k1 (by rw [i1 _ _ (by omega) (by omega)]; exact hT) T2 B1 B3 (H := hrd m 1 (T + 1)) (by rw [i1 _ _ (by omega) (by omega)]; exact h1) (HD 1) (by rw [i1 _ _ (by omega) (by omega)]; exact hs) (x2 := z2) (x3 := z3)
  have k2 := k1.fr f2
  refine ⟨y2, fun Q => ?_, f1.tr f2, fun e u he hu => ?_, fun q j a b => by rw [i2 q j (by omega) b, i1 q j (by omega) b]⟩
  · have c1' := c1 Q
    have c2' := c2 Q
    unfold Cal
    rw [l_X12_talliesAll]
    simp only [am_en, am_ag, ct_i, ct_r, ct_l, List.length_cons, List.length_nil, List.replicate]
    simp [w_iconst (M := mX12_talliesAll) (v := 0) dX12_talliesAll_0 rfl, w_istore_n (M := mX12_talliesAll) (i := 1) dX12_talliesAll_1 rfl (by decide), Kn_v_, Kn_n_, kl_i_, kl_a_, kl_l_, kl_n_, s1_0_, s2_0_, s1_1, s1_2, s1_3, s1_4, s1_5, s1_6, s1_7, s1_8, s1_9, s1_10, s1_11, s1_12, s1_13, s1_14, s2_1, s2_2, s2_3, s2_4, s2_5, s2_6, s2_7, s2_8, s2_9, s2_10, s2_11, s2_12, s2_13, s2_14, List.map_nil, List.map_cons, List.sum_nil, List.sum_cons, ct_i_, ct_r_, ct_l_, t_si_, t_sl_, t_sr_, n_si_, n_sl_, n_sr_, i_si_, i_sl_, i_sr_, l_si_, l_sl_, l_sr_, r_si_, r_sl_, r_sr_, vr_s_, vr_n_, nz_0_, nz_1_]
    rw [c1', c2', w_iload_n1 (M := mX12_talliesAll) dX12_talliesAll_2]
    simp [w_aload_n0 (M := mX12_talliesAll) dX12_talliesAll_3, w_getI (M := mX12_talliesAll) dX12_talliesAll_4 f_12_421 rfl (by decide) (by decide), w_ic_ge (M := mX12_talliesAll) (tgt := 198) dX12_talliesAll_7 (by decide), w_vret (M := mX12_talliesAll) dX12_talliesAll_198 rfl, Kn_v_, Kn_n_, kl_i_, kl_a_, kl_l_, kl_n_, s1_0_, s2_0_, s1_1, s1_2, s1_3, s1_4, s1_5, s1_6, s1_7, s1_8, s1_9, s1_10, s1_11, s1_12, s1_13, s1_14, s2_1, s2_2, s2_3, s2_4, s2_5, s2_6, s2_7, s2_8, s2_9, s2_10, s2_11, s2_12, s2_13, s2_14, List.map_nil, List.map_cons, List.sum_nil, List.sum_cons, ct_i_, ct_r_, ct_l_, t_si_, t_sl_, t_sr_, n_si_, n_sl_, n_sr_, i_si_, i_sl_, i_sr_, l_si_, l_sl_, l_sr_, r_si_, r_sl_, r_sr_, vr_s_, vr_n_, nz_0_, nz_1_, k2.1.e, k2.2.2.1, show ((2 : Int32) < 2) = False from eq_false (by decide)]
  · have c0 := C e u he hu
    rcases show e = 0 ∨ e = 1 by omega with rfl | rfl
    · -- what end 0 spoke, the other one hears
      have s1 : a_i y1 168 (1100 * 0 + u) = a_i y 168 (1100 * 0 + u) := i1 _ _ (by omega) (by omega)
      by_cases c : u + m.2.1 0 = T + 1
      · have eu : T + 1 - m.2.1 0 = u := by omega
        rw [eu] at v2
        have hh : hrd m 1 (T + 1) = spkn m 0 u := by
          unfold hrd
          show (decide (m.2.1 0 ≤ T + 1) && spkn m 0 (T + 1 - m.2.1 0)) = _
          rw [eu, decide_eq_true (by omega), Bool.true_and]
        rw [hh] at v2 u2
        rw [c]
        show (_ ∧ _ ∧ spkn m 1 (T + 1) = false → _) ∧ (¬ (_ ∧ _ ∧ spkn m 1 (T + 1) = false) → _)
        have old : a_i y 168 (1100 * 0 + u) = 0 := c0.2 (fun z => by omega)
        cases q : spkn m 0 u
        · refine ⟨fun z => by simp at z, fun _ => ?_⟩
          rw [u2 q, s1]; exact old
        · have w := v2 q
          cases q2 : spkn m 1 (T + 1)
          · rw [q2] at w
            refine ⟨fun _ => w, fun z => absurd ⟨Nat.le_refl _, rfl, rfl⟩ z⟩
          · rw [q2, if_pos rfl, s1] at w
            refine ⟨fun z => by simp at z, fun _ => by rw [w]; exact old⟩
      · have s2 : a_i y2 168 (1100 * 0 + u) = a_i y 168 (1100 * 0 + u) := by
          by_cases z : m.2.1 0 ≤ T + 1
          · rw [i2 _ _ (by omega) (by omega)]; exact s1
          · rw [u2 (by unfold hrd; rw [decide_eq_false z]; rfl)]; exact s1
        rw [s2]
        refine ⟨fun z => c0.1 ⟨by have := z.1; omega, z.2⟩, fun z => c0.2 (fun z' => z ⟨by have := z'.1; omega, z'.2⟩)⟩
    · by_cases c : u + m.2.1 1 = T + 1
      · have eu : T + 1 - m.2.1 1 = u := by omega
        rw [eu] at v1
        have hh : hrd m 0 (T + 1) = spkn m 1 u := by
          unfold hrd
          show (decide (m.2.1 1 ≤ T + 1) && spkn m 1 (T + 1 - m.2.1 1)) = _
          rw [eu, decide_eq_true (by omega), Bool.true_and]
        rw [hh] at v1 u1
        rw [c]
        show (_ ∧ _ ∧ spkn m 0 (T + 1) = false → _) ∧ (¬ (_ ∧ _ ∧ spkn m 0 (T + 1) = false) → _)
        have old : a_i y 168 (1100 * 1 + u) = 0 := c0.2 (fun z => by omega)
        have s2 : a_i y2 168 (1100 * 1 + u) = a_i y1 168 (1100 * 1 + u) := i2 _ _ (by omega) (by omega)
        rw [s2]
        cases q : spkn m 1 u
        · refine ⟨fun z => by simp at z, fun _ => ?_⟩
          rw [u1 q]; exact old
        · have w := v1 q
          cases q2 : spkn m 0 (T + 1)
          · rw [q2] at w
            refine ⟨fun _ => w, fun z => absurd ⟨Nat.le_refl _, rfl, rfl⟩ z⟩
          · rw [q2, if_pos rfl] at w
            refine ⟨fun z => by simp at z, fun _ => by rw [w]; exact old⟩
      · have s2 : a_i y2 168 (1100 * 1 + u) = a_i y 168 (1100 * 1 + u) := by
          rw [i2 _ _ (by omega) (by omega)]
          by_cases z : m.2.1 1 ≤ T + 1
          · rw [i1 _ _ (by omega) (by omega)]
          · exact u1 (by unfold hrd; rw [decide_eq_false z]; rfl) _
        rw [s2]
        refine ⟨fun z => c0.1 ⟨by have := z.1; omega, z.2⟩, fun z => c0.2 (fun z' => z ⟨by have := z'.1; omega, z'.2⟩)⟩
set_option maxRecDepth 20000 in
set_option maxHeartbeats 4000000 in
/-- a tenth -/
theorem f_tenthGoes (B : FB m) (K : RFs m T y) (T2 : T ≤ 998) : ∃ y', (∀ Q, Cal (d + 4) mX12_tenthGoes [.ref 126] y Q = Q none y') ∧ rff y y' ∧ RFs m (T + 1) y' := by
  obtain ⟨k, hT, R0, R1, ⟨F, A⟩, S, C⟩ := K
  have B' := B
  obtain ⟨B1, B2, B3, B4, B5, B6, B7, B8, B9⟩ := B'
  -- the tenth is counted, its sounds are cleared
  obtain ⟨ya, eya⟩ : ∃ ya, ya = s_i (s_i y 126 44 (nI (T + 1))) 166 ((T + 1) % 64) 0 := ⟨_, rfl⟩
  have fa : rff y ya := by rw [eya]; exact (rff.refl.si (by unfold rfc; omega)).si (by unfold rfc; omega)
  have ka := k.fr fa
  have ia : ∀ q j, ¬ (q = 126 ∧ j = 44) → ¬ (q = 166 ∧ j = (T + 1) % 64) → a_i ya q j = a_i y q j := fun q j c c' => by rw [eya, ine c', ine c]
  have ta : a_i ya 126 44 = nI (T + 1) := by rw [eya, ine (by omega), ieq rfl rfl]
  have za : a_i ya 166 ((T + 1) % 64) = 0 := by rw [eya, ieq rfl rfl]
  have Sa : SPf m T ya := fun k hk hk2 => by rw [ia _ _ (by omega) (by omega)]; exact S k hk hk2
  -- listening
  obtain ⟨yb, cb, fb, hb0, hb1, ib⟩ := f_hearsAll (d := d + 2) ka B ta T2 Sa
  have kb := ka.fr fb
  have tb' : a_i yb 126 44 = nI (T + 1) := by rw [ib _ _ (by omega)]; exact ta
  have R0b : RT m 0 T yb := by
    have := R0
    unfold RT at this ⊢
    rw [ib _ _ (by omega), ib _ _ (by omega), ib _ _ (by omega), ib _ _ (by omega), ib _ _ (by omega), ib _ _ (by omega), ia _ _ (by omega) (by omega), ia _ _ (by omega) (by omega), ia _ _ (by omega) (by omega), ia _ _ (by omega) (by omega), ia _ _ (by omega) (by omega), ia _ _ (by omega) (by omega)]
    exact this
  have R1b : RT m 1 T yb := by
    have := R1
    unfold RT at this ⊢
    rw [ib _ _ (by omega), ib _ _ (by omega), ib _ _ (by omega), ib _ _ (by omega), ib _ _ (by omega), ib _ _ (by omega), ia _ _ (by omega) (by omega), ia _ _ (by omega) (by omega), ia _ _ (by omega) (by omega), ia _ _ (by omega) (by omega), ia _ _ (by omega) (by omega), ia _ _ (by omega) (by omega)]
    exact this
  have Ab : FA m (fun _ => T) (fun _ => T) (fun e => sbN m e T) F yb := A.fr (by rw [ib _ _ (by omega), ia _ _ (by omega) (by omega)]) (fun q j q1 q2 => by rw [ib _ _ (by omega), ia _ _ (by omega) (by omega)])
  -- the first end
  obtain ⟨yc, cc, fc, R0c, ⟨Fc, Ac⟩, sc, ic⟩ := f_act (d := d) kb (e := 0) (by omega) B2 B5 B7 B8 B9 R0b tb' T2 (v := if hrd m 0 (T + 1) = true then 2 else 0) (by rw [hb0]; split <;> rfl) (by split <;> omega) (by cases hrd m 0 (T + 1) <;> rfl) Ab (fun _ _ => by omega) rfl rfl rfl
  have kc := kb.fr fc
  have ic' : ∀ q j, (q = 126 ∧ j = 44) ∨ (q = 164) ∨ (152 ≤ q ∧ q ≤ 163 ∧ ¬ j = 0) ∨ q = 168 → a_i yc q j = a_i yb q j := fun q j c => ic q j (by omega) (by omega) (by omega) (by omega)
  have R1c : RT m 1 T yc := R1b.fr (fun q h1 h2 => ic' q 1 (by omega))
  have tc : a_i yc 126 44 = nI (T + 1) := by rw [ic' _ _ (by omega)]; exact tb'
  -- the other one
  obtain ⟨yd, cd, fd, R1d, ⟨Fd, Ad⟩, sd, id⟩ := f_act (d := d) kc (e := 1) (by omega) B1 B6 B7 B8 B9 R1c tc T2 (v := if hrd m 1 (T + 1) = true then 1 else 0) (by rw [ic' _ _ (by omega), hb1]; split <;> rfl) (by split <;> omega) (by cases hrd m 1 (T + 1) <;> rfl) Ac (fun e he => by
    by_cases z : e = 0
    · rw [une z]; omega
    · rw [unn z]; omega) rfl rfl rfl
  have kd := kc.fr fd
  have id' : ∀ q j, (q = 126 ∧ j = 44) ∨ (q = 164) ∨ (152 ≤ q ∧ q ≤ 163 ∧ ¬ j = 1) ∨ q = 168 → a_i yd q j = a_i yc q j := fun q j c => id q j (by omega) (by omega) (by omega) (by omega)
  have R0d : RT m 0 (T + 1) yd := R0c.fr (fun q h1 h2 => id' q 0 (by omega))
  have td : a_i yd 126 44 = nI (T + 1) := by rw [id' _ _ (by omega)]; exact tc
  have zb : a_i yb 166 ((T + 1) % 64) = wI false false := by rw [ib _ _ (by omega)]; exact za
  have wd : a_i yd 166 ((T + 1) % 64) = wI (spkn m 0 (T + 1)) (spkn m 1 (T + 1)) := by
    rw [sd, sc, zb]
    cases spkn m 0 (T + 1) <;> cases spkn m 1 (T + 1) <;> first | rfl | decide
  have Cb : CCf m T yd := fun e u he hu => by
    rw [id' _ _ (by omega), ic' _ _ (by omega), ib _ _ (by omega), ia _ _ (by omega) (by omega)]
    exact C e u he hu
  -- what came through
  obtain ⟨ye, ce, fe, Ce, ie⟩ := f_talliesAll (d := d + 2) kd B td T2 (by rw [id' _ _ (by omega), ic' _ _ (by omega)]; exact hb0) (by rw [id' _ _ (by omega), ic' _ _ (by omega)]; exact hb1) wd Cb
  have fall : rff y ye := (((fa.tr fb).tr fc).tr fd).tr fe
  refine ⟨ye, fun Q => ?_, fall, k.fr fall, by rw [ie _ _ (by omega) (by omega)]; exact td, R0d.fr (fun q h1 h2 => ie q 0 (by omega) (by omega)), R1d.fr (fun q h1 h2 => ie q 1 (by omega) (by omega)), ⟨Fd, ?_⟩, fun j hj hj2 => ?_, Ce⟩
  · have cc' : ∀ Q, WP (d + 4) mX12_tenthGoes 29 [some (.ref 126), some (.int 0)] [] yb Q = WP (d + 4) mX12_tenthGoes 29 [some (.ref 126), some (.int (nI (0 + 1)))] [] yc Q := cc
    have lt := and63 (t := T + 1) (by omega)
    unfold Cal
    rw [l_X12_tenthGoes]
    simp only [am_en, am_ag, ct_i, ct_r, ct_l, List.length_cons, List.length_nil, List.replicate]
    simp [w_aload_n0 (M := mX12_tenthGoes) dX12_tenthGoes_0, w_dup_int (M := mX12_tenthGoes) dX12_tenthGoes_1, w_dup_ref (M := mX12_tenthGoes) dX12_tenthGoes_1, w_getI (M := mX12_tenthGoes) dX12_tenthGoes_2 f_12_424 rfl (by decide) (by decide), w_iconst (M := mX12_tenthGoes) (v := 1) dX12_tenthGoes_5 rfl, w_iadd (M := mX12_tenthGoes) dX12_tenthGoes_6, w_putI (M := mX12_tenthGoes) dX12_tenthGoes_7 f_12_424 rfl (Or.inl rfl), w_aload_n0 (M := mX12_tenthGoes) dX12_tenthGoes_10, w_getA (M := mX12_tenthGoes) dX12_tenthGoes_11 f_12_136 rfl (by decide) (by decide), w_aload_n0 (M := mX12_tenthGoes) dX12_tenthGoes_14, w_getI (M := mX12_tenthGoes) dX12_tenthGoes_15 f_12_424 rfl (by decide) (by decide), w_bipush (M := mX12_tenthGoes) (v := 63) dX12_tenthGoes_18 rfl, w_iand (M := mX12_tenthGoes) dX12_tenthGoes_20, w_iconst (M := mX12_tenthGoes) (v := 0) dX12_tenthGoes_21 rfl, w_iastore (M := mX12_tenthGoes) dX12_tenthGoes_22, w_aload_n0 (M := mX12_tenthGoes) dX12_tenthGoes_23, c_12_502 (M := mX12_tenthGoes) dX12_tenthGoes_24 rfl, w_iconst (M := mX12_tenthGoes) (v := 0) dX12_tenthGoes_27 rfl, w_istore_n (M := mX12_tenthGoes) (i := 1) dX12_tenthGoes_28 rfl (by decide), Kn_v_, Kn_n_, kl_i_, kl_a_, kl_l_, kl_n_, s1_0_, s2_0_, s1_1, s1_2, s1_3, s1_4, s1_5, s1_6, s1_7, s1_8, s1_9, s1_10, s1_11, s1_12, s1_13, s1_14, s2_1, s2_2, s2_3, s2_4, s2_5, s2_6, s2_7, s2_8, s2_9, s2_10, s2_11, s2_12, s2_13, s2_14, List.map_nil, List.map_cons, List.sum_nil, List.sum_cons, ct_i_, ct_r_, ct_l_, t_si_, t_sl_, t_sr_, n_si_, n_sl_, n_sr_, i_si_, i_sl_, i_sr_, l_si_, l_sl_, l_sr_, r_si_, r_sl_, r_sr_, vr_s_, vr_n_, nz_0_, nz_1_, k.1.e, hT, nI_s, lt, in1_n (k := (T + 1) % 64) (n := 64) (by omega), show (T + 1) % 64 < 64 by omega, nI_c (a := (T + 1) % 64) (by omega), ← eya, ka.1.e, cb]
    rw [cc' Q]
    rw [cd Q]
    rw [w_iload_n1 (M := mX12_tenthGoes) dX12_tenthGoes_29]
    simp [w_aload_n0 (M := mX12_tenthGoes) dX12_tenthGoes_30, w_getI (M := mX12_tenthGoes) dX12_tenthGoes_31 f_12_421 rfl (by decide) (by decide), w_ic_ge (M := mX12_tenthGoes) (tgt := 72) dX12_tenthGoes_34 (by decide), w_aload_n0 (M := mX12_tenthGoes) dX12_tenthGoes_72, c_12_511 (M := mX12_tenthGoes) dX12_tenthGoes_73 rfl, w_vret (M := mX12_tenthGoes) dX12_tenthGoes_76 rfl, Kn_v_, Kn_n_, kl_i_, kl_a_, kl_l_, kl_n_, s1_0_, s2_0_, s1_1, s1_2, s1_3, s1_4, s1_5, s1_6, s1_7, s1_8, s1_9, s1_10, s1_11, s1_12, s1_13, s1_14, s2_1, s2_2, s2_3, s2_4, s2_5, s2_6, s2_7, s2_8, s2_9, s2_10, s2_11, s2_12, s2_13, s2_14, List.map_nil, List.map_cons, List.sum_nil, List.sum_cons, ct_i_, ct_r_, ct_l_, t_si_, t_sl_, t_sr_, n_si_, n_sl_, n_sr_, i_si_, i_sl_, i_sr_, l_si_, l_sl_, l_sr_, r_si_, r_sl_, r_sr_, vr_s_, vr_n_, nz_0_, nz_1_, kd.1.e, kd.2.2.1, show (nI (1 + 1) < 2) = False from nI_ltF (a := 2) (b := 2) (Nat.le_refl _) (by omega), ce]
  · refine (Ad.fr (ie _ _ (by omega) (by omega)) (fun q j q1 q2 => ie q j (by omega) (by omega))).cg (fun e he => ?_) (fun e he => ?_) (fun e he => ?_)
    · rcases show e = 0 ∨ e = 1 by omega with rfl | rfl <;> rfl
    · rcases show e = 0 ∨ e = 1 by omega with rfl | rfl <;> rfl
    · rcases show e = 0 ∨ e = 1 by omega with rfl | rfl <;> rfl
  · rw [ie _ _ (by omega) (by omega)]
    by_cases z : j = 0
    · subst z
      exact wd
    · rw [id _ _ (by omega) (by omega) (by omega) (by omega), ic _ _ (by omega) (by omega) (by omega) (by omega), ib _ _ (by omega)]
      have := Sa (j - 1) (by omega) (by omega)
      rw [show T - (j - 1) = T + 1 - j by omega] at this
      exact this
end RF7
