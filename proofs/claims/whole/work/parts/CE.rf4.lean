/-! two fresh ends: an end's tenth on the other side -/
section RF4
variable {d : Nat} {h y y' : am_h} {m : FMo} {e o T f F b p w v n B : Nat} {tb te : Nat → Nat} {sb : Nat → Option Nat}
/-- what an end's tenth leaves -/
def actF (e T : Nat) (y y' : am_h) : Prop := ∀ q j, ¬ (152 ≤ q ∧ q ≤ 163 ∧ j = e) → ¬ (169 ≤ q ∧ q ≤ 172) → ¬ (q = 126 ∧ (j = 69 ∨ j = 47)) → ¬ (q = 166 ∧ j = (T + 1) % 64) → a_i y' q j = a_i y q j
def sbN (m : FMo) (e T : Nat) : Option Nat := if spkn m e T = true then some (fk m T e).2.1 else none
def actR (m : FMo) (e T : Nat) (tb te : Nat → Nat) (sb : Nat → Option Nat) (y y' : am_h) : Prop :=
  rff y y' ∧ RT m e (T + 1) y' ∧ (∃ F', FA m (un tb e (T + 1)) (un te e (T + 1)) (uo sb e (sbN m e (T + 1))) F' y') ∧ (a_i y' 166 ((T + 1) % 64) = if spkn m e (T + 1) = true then oB e (a_i y 166 ((T + 1) % 64)) else a_i y 166 ((T + 1) % 64)) ∧ actF e T y y'
set_option maxRecDepth 20000 in
theorem tg_sp (k : RK m y) (k' : RK m y') (he : e < 2) (hs : a_i y 152 e = 1) (hs' : a_i y' 152 e = 1) (c : ∀ Q, Cal d mX12_goesSpeaking [.ref 126, .int (nI e)] y Q = Q none y') (Q : Option Value → am_h → Prop) : WP (d + 1) mX12_tenthGoes 29 [some (.ref 126), some (.int (nI e))] [] y Q = WP (d + 1) mX12_tenthGoes 29 [some (.ref 126), some (.int (nI (e + 1)))] [] y' Q := by
  have e4 : am_in1 (nI e) 4 = True := by rw [in1_n (by omega)]; exact eq_true (by omega)
  have lt : (nI e < 2) = True := nI_ltT (b := 2) he (by omega)
  rw [w_iload_n1 (M := mX12_tenthGoes) dX12_tenthGoes_29]
  simp [w_aload_n0 (M := mX12_tenthGoes) dX12_tenthGoes_30, w_getI (M := mX12_tenthGoes) dX12_tenthGoes_31 f_12_421 rfl (by decide) (by decide), w_ic_ge (M := mX12_tenthGoes) (tgt := 72) dX12_tenthGoes_34 (by decide), w_aload_n0 (M := mX12_tenthGoes) dX12_tenthGoes_37, w_getA (M := mX12_tenthGoes) dX12_tenthGoes_38 f_12_94 rfl (by decide) (by decide), w_iload_n1 (M := mX12_tenthGoes) dX12_tenthGoes_41, w_iaload (M := mX12_tenthGoes) dX12_tenthGoes_42, w_iconst (M := mX12_tenthGoes) (v := 1) dX12_tenthGoes_43 rfl, w_ic_ne (M := mX12_tenthGoes) (tgt := 52) dX12_tenthGoes_44 (by decide), w_aload_n0 (M := mX12_tenthGoes) dX12_tenthGoes_47, w_iload_n1 (M := mX12_tenthGoes) dX12_tenthGoes_48, c_12_505 (M := mX12_tenthGoes) dX12_tenthGoes_49 rfl, w_aload_n0 (M := mX12_tenthGoes) dX12_tenthGoes_52, w_getA (M := mX12_tenthGoes) dX12_tenthGoes_53 f_12_94 rfl (by decide) (by decide), w_iload_n1 (M := mX12_tenthGoes) dX12_tenthGoes_56, w_iaload (M := mX12_tenthGoes) dX12_tenthGoes_57, w_if_ne (M := mX12_tenthGoes) (tgt := 66) dX12_tenthGoes_58 (by decide), w_aload_n0 (M := mX12_tenthGoes) dX12_tenthGoes_61, w_iload_n1 (M := mX12_tenthGoes) dX12_tenthGoes_62, c_12_508 (M := mX12_tenthGoes) dX12_tenthGoes_63 rfl, w_iinc1 (M := mX12_tenthGoes) (v := 1) dX12_tenthGoes_66 rfl (by decide), w_goto (M := mX12_tenthGoes) (tgt := 29) dX12_tenthGoes_69 (by decide), Kn_v_, Kn_n_, kl_i_, kl_a_, kl_l_, kl_n_, s1_0_, s2_0_, s1_1, s1_2, s1_3, s1_4, s1_5, s1_6, s1_7, s1_8, s1_9, s1_10, s1_11, s1_12, s1_13, s1_14, s2_1, s2_2, s2_3, s2_4, s2_5, s2_6, s2_7, s2_8, s2_9, s2_10, s2_11, s2_12, s2_13, s2_14, List.map_nil, List.map_cons, List.sum_nil, List.sum_cons, ct_i_, ct_r_, ct_l_, t_si_, t_sl_, t_sr_, n_si_, n_sl_, n_sr_, i_si_, i_sl_, i_sr_, l_si_, l_sl_, l_sr_, r_si_, r_sl_, r_sr_, vr_s_, vr_n_, nz_0_, nz_1_, k.1.e, k'.1.e, k.2.2.1, lt, e4, nI_c (a := e) (by omega), hs, hs', c, nI_s]
set_option maxRecDepth 20000 in
theorem tg_ss {y1 : am_h} (k : RK m y) (k1 : RK m y1) (he : e < 2) (hs : a_i y 152 e = 1) (hs' : a_i y1 152 e = 0) (c : ∀ Q, Cal d mX12_goesSpeaking [.ref 126, .int (nI e)] y Q = Q none y1) (c' : ∀ Q, Cal d mX12_goesSilent [.ref 126, .int (nI e)] y1 Q = Q none y') (Q : Option Value → am_h → Prop) : WP (d + 1) mX12_tenthGoes 29 [some (.ref 126), some (.int (nI e))] [] y Q = WP (d + 1) mX12_tenthGoes 29 [some (.ref 126), some (.int (nI (e + 1)))] [] y' Q := by
  have e4 : am_in1 (nI e) 4 = True := by rw [in1_n (by omega)]; exact eq_true (by omega)
  have lt : (nI e < 2) = True := nI_ltT (b := 2) he (by omega)
  rw [w_iload_n1 (M := mX12_tenthGoes) dX12_tenthGoes_29]
  simp [w_aload_n0 (M := mX12_tenthGoes) dX12_tenthGoes_30, w_getI (M := mX12_tenthGoes) dX12_tenthGoes_31 f_12_421 rfl (by decide) (by decide), w_ic_ge (M := mX12_tenthGoes) (tgt := 72) dX12_tenthGoes_34 (by decide), w_aload_n0 (M := mX12_tenthGoes) dX12_tenthGoes_37, w_getA (M := mX12_tenthGoes) dX12_tenthGoes_38 f_12_94 rfl (by decide) (by decide), w_iload_n1 (M := mX12_tenthGoes) dX12_tenthGoes_41, w_iaload (M := mX12_tenthGoes) dX12_tenthGoes_42, w_iconst (M := mX12_tenthGoes) (v := 1) dX12_tenthGoes_43 rfl, w_ic_ne (M := mX12_tenthGoes) (tgt := 52) dX12_tenthGoes_44 (by decide), w_aload_n0 (M := mX12_tenthGoes) dX12_tenthGoes_47, w_iload_n1 (M := mX12_tenthGoes) dX12_tenthGoes_48, c_12_505 (M := mX12_tenthGoes) dX12_tenthGoes_49 rfl, w_aload_n0 (M := mX12_tenthGoes) dX12_tenthGoes_52, w_getA (M := mX12_tenthGoes) dX12_tenthGoes_53 f_12_94 rfl (by decide) (by decide), w_iload_n1 (M := mX12_tenthGoes) dX12_tenthGoes_56, w_iaload (M := mX12_tenthGoes) dX12_tenthGoes_57, w_if_ne (M := mX12_tenthGoes) (tgt := 66) dX12_tenthGoes_58 (by decide), w_aload_n0 (M := mX12_tenthGoes) dX12_tenthGoes_61, w_iload_n1 (M := mX12_tenthGoes) dX12_tenthGoes_62, c_12_508 (M := mX12_tenthGoes) dX12_tenthGoes_63 rfl, w_iinc1 (M := mX12_tenthGoes) (v := 1) dX12_tenthGoes_66 rfl (by decide), w_goto (M := mX12_tenthGoes) (tgt := 29) dX12_tenthGoes_69 (by decide), Kn_v_, Kn_n_, kl_i_, kl_a_, kl_l_, kl_n_, s1_0_, s2_0_, s1_1, s1_2, s1_3, s1_4, s1_5, s1_6, s1_7, s1_8, s1_9, s1_10, s1_11, s1_12, s1_13, s1_14, s2_1, s2_2, s2_3, s2_4, s2_5, s2_6, s2_7, s2_8, s2_9, s2_10, s2_11, s2_12, s2_13, s2_14, List.map_nil, List.map_cons, List.sum_nil, List.sum_cons, ct_i_, ct_r_, ct_l_, t_si_, t_sl_, t_sr_, n_si_, n_sl_, n_sr_, i_si_, i_sl_, i_sr_, l_si_, l_sl_, l_sr_, r_si_, r_sl_, r_sr_, vr_s_, vr_n_, nz_0_, nz_1_, k.1.e, k1.1.e, k.2.2.1, lt, e4, nI_c (a := e) (by omega), hs, hs', c, c', nI_s]
set_option maxRecDepth 20000 in
theorem tg_sl (k : RK m y) (he : e < 2) (hs : a_i y 152 e = 0) (c' : ∀ Q, Cal d mX12_goesSilent [.ref 126, .int (nI e)] y Q = Q none y') (Q : Option Value → am_h → Prop) : WP (d + 1) mX12_tenthGoes 29 [some (.ref 126), some (.int (nI e))] [] y Q = WP (d + 1) mX12_tenthGoes 29 [some (.ref 126), some (.int (nI (e + 1)))] [] y' Q := by
  have e4 : am_in1 (nI e) 4 = True := by rw [in1_n (by omega)]; exact eq_true (by omega)
  have lt : (nI e < 2) = True := nI_ltT (b := 2) he (by omega)
  rw [w_iload_n1 (M := mX12_tenthGoes) dX12_tenthGoes_29]
  simp [w_aload_n0 (M := mX12_tenthGoes) dX12_tenthGoes_30, w_getI (M := mX12_tenthGoes) dX12_tenthGoes_31 f_12_421 rfl (by decide) (by decide), w_ic_ge (M := mX12_tenthGoes) (tgt := 72) dX12_tenthGoes_34 (by decide), w_aload_n0 (M := mX12_tenthGoes) dX12_tenthGoes_37, w_getA (M := mX12_tenthGoes) dX12_tenthGoes_38 f_12_94 rfl (by decide) (by decide), w_iload_n1 (M := mX12_tenthGoes) dX12_tenthGoes_41, w_iaload (M := mX12_tenthGoes) dX12_tenthGoes_42, w_iconst (M := mX12_tenthGoes) (v := 1) dX12_tenthGoes_43 rfl, w_ic_ne (M := mX12_tenthGoes) (tgt := 52) dX12_tenthGoes_44 (by decide), w_aload_n0 (M := mX12_tenthGoes) dX12_tenthGoes_47, w_iload_n1 (M := mX12_tenthGoes) dX12_tenthGoes_48, c_12_505 (M := mX12_tenthGoes) dX12_tenthGoes_49 rfl, w_aload_n0 (M := mX12_tenthGoes) dX12_tenthGoes_52, w_getA (M := mX12_tenthGoes) dX12_tenthGoes_53 f_12_94 rfl (by decide) (by decide), w_iload_n1 (M := mX12_tenthGoes) dX12_tenthGoes_56, w_iaload (M := mX12_tenthGoes) dX12_tenthGoes_57, w_if_ne (M := mX12_tenthGoes) (tgt := 66) dX12_tenthGoes_58 (by decide), w_aload_n0 (M := mX12_tenthGoes) dX12_tenthGoes_61, w_iload_n1 (M := mX12_tenthGoes) dX12_tenthGoes_62, c_12_508 (M := mX12_tenthGoes) dX12_tenthGoes_63 rfl, w_iinc1 (M := mX12_tenthGoes) (v := 1) dX12_tenthGoes_66 rfl (by decide), w_goto (M := mX12_tenthGoes) (tgt := 29) dX12_tenthGoes_69 (by decide), Kn_v_, Kn_n_, kl_i_, kl_a_, kl_l_, kl_n_, s1_0_, s2_0_, s1_1, s1_2, s1_3, s1_4, s1_5, s1_6, s1_7, s1_8, s1_9, s1_10, s1_11, s1_12, s1_13, s1_14, s2_1, s2_2, s2_3, s2_4, s2_5, s2_6, s2_7, s2_8, s2_9, s2_10, s2_11, s2_12, s2_13, s2_14, List.map_nil, List.map_cons, List.sum_nil, List.sum_cons, ct_i_, ct_r_, ct_l_, t_si_, t_sl_, t_sr_, n_si_, n_sl_, n_sr_, i_si_, i_sl_, i_sr_, l_si_, l_sl_, l_sr_, r_si_, r_sl_, r_sr_, vr_s_, vr_n_, nz_0_, nz_1_, k.1.e, k.2.2.1, lt, e4, nI_c (a := e) (by omega), hs, c', nI_s]
set_option maxRecDepth 20000 in
set_option maxHeartbeats 4000000 in
theorem f_act (k : RK m y) (he : e < 2) (h1 : 1 ≤ m.2.1 (1 - e)) (hw : m.1 e ≤ 99) (L1 : 1 ≤ m.2.2.1) (hL : m.2.2.1 ≤ 99) (hS : m.2.2.2 ≤ 99) (R : RT m e T y) (hT : a_i y 126 44 = nI (T + 1)) (T2 : T ≤ 998) (hv : a_i y 164 e = nI v) (v3 : v ≤ 3) (hH : hrd m e (T + 1) = decide (¬ v = 0)) (A : FA m tb te sb F y) (tt : ∀ e, e < 2 → tb e ≤ 1000) (tbT : tb e = T) (teT : te e = T) (hs : sb e = sbN m e T) :
    ∃ y', (∀ Q, WP (d + 4) mX12_tenthGoes 29 [some (.ref 126), some (.int (nI e))] [] y Q = WP (d + 4) mX12_tenthGoes 29 [some (.ref 126), some (.int (nI (e + 1)))] [] y' Q) ∧ actR m e T tb te sb y y' := by
  have t0 := tt 0 (by omega)
  have t1 := tt 1 (by omega)
  have F2 : F < 2200 := by have := A.2.1; omega
  have v0 : hrd m e (T + 1) = false → v = 0 := fun z => by
    rw [hH] at z
    have := of_decide_eq_false z
    omega
  have v1 : hrd m e (T + 1) = true → ¬ v = 0 := fun z => by
    rw [hH] at z
    exact of_decide_eq_true z
  rcases fk_cs (T := T) h1 with ⟨a1, a2, a3⟩ | ⟨a1, n, a2, a3, a4⟩ | ⟨a1, a2, a3⟩ | ⟨a1, a2, a3, a4⟩ | ⟨a1, a2, a3, a4⟩
  · -- speaks on
    obtain ⟨r1, r2, r3, r4⟩ := R.1 a1
    obtain ⟨g1, g2, g3, g4, g5, _⟩ := (fK_inv h1 T).1 a1
    have a1' : (fk m T e).1 = true := a1
    have cc : ¬ (¬ m.2.2.2 = 0 ∧ (if hrd m e (T + 1) = true then (fk m T e).2.2.2.2.1 + 1 else 0) = m.2.2.2) ∧ ¬ (fk m T e).2.1 + m.2.2.1 ≤ T + 1 := by
      unfold fEn at a2
      rw [if_pos a1'] at a2
      split at a2
      · omega
      · rename_i z
        split at a2
        · omega
        · rename_i z2; exact ⟨z, z2⟩
    have sp : spkn m e (T + 1) = true := by unfold spkn; rw [a3]
    have c := fun Q => f_speaks_on (d := d + 2) (Q := Q) k he hv v3 hH r2 (by omega) hS hL hT (by omega) r3 (by omega) r4 cc.1 cc.2
    obtain ⟨y', ey⟩ : ∃ y', y' = s_i (s_i y 155 e (nI (if hrd m e (T + 1) = true then (fk m T e).2.2.2.2.1 + 1 else 0))) 166 ((T + 1) % 64) (oB e (a_i y 166 ((T + 1) % 64))) := ⟨_, rfl⟩
    rw [← ey] at c
    have ff : rff y y' := by rw [ey]; exact (rff.refl.si (by unfold rfc; omega)).si (by unfold rfc; omega)
    have iy : ∀ q j, ¬ (q = 155 ∧ j = e) → ¬ (q = 166 ∧ j = (T + 1) % 64) → a_i y' q j = a_i y q j := fun q j c c' => by rw [ey, ine c', ine c]
    refine ⟨y', tg_sp k (k.fr ff) he r1 (by rw [iy _ _ (by omega) (by omega)]; exact r1) c, ff, ⟨fun _ => ⟨?_, ?_, ?_, ?_⟩, fun z => by rw [sp] at z; cases z⟩, ⟨F, ?_⟩, ?_, fun q j c1 c2 c3 c4 => iy q j (by omega) (by omega)⟩
    · rw [iy _ _ (by omega) (by omega)]; exact r1
    · rw [ey, ine (by omega), ieq rfl rfl, a3]; rfl
    · rw [iy _ _ (by omega) (by omega), a3]; exact r3
    · rw [iy _ _ (by omega) (by omega)]; exact r4
    · refine (((A.xk teT (by unfold enA; rw [a3])).xm he tbT (by unfold bgA; rw [a3])).fr (iy _ _ (by omega) (by omega)) (fun q j q1 q2 => iy q j (by omega) (by omega))).cg (fun _ _ => rfl) (fun _ _ => rfl) (fun e' he' => ?_)
      unfold uo
      split
      · rename_i z
        rw [z, hs]
        unfold sbN
        rw [if_pos sp, if_pos a1, a3]
      · rfl
    · rw [if_pos sp, ey, ieq rfl rfl]
  · -- ends
    obtain ⟨r1, r2, r3, r4⟩ := R.1 a1
    obtain ⟨g1, g2, g3, g4, g5, _⟩ := (fK_inv h1 T).1 a1
    have a1' : (fk m T e).1 = true := a1
    have hsb : sb e = some (fk m T e).2.1 := by rw [hs]; exact if_pos a1
    obtain ⟨f, ff1, ff2, ff3, ff4⟩ := A.2.2.2.2.2 e _ he hsb
    have hk : n = if ¬ m.2.2.2 = 0 ∧ (if hrd m e (T + 1) = true then (fk m T e).2.2.2.2.1 + 1 else 0) = m.2.2.2 then 2 else 1 := by
      unfold fEn at a3
      rw [if_pos a1'] at a3
      split at a3
      · rename_i z; exact a3.symm.trans (if_pos z).symm
      · rename_i z
        refine Eq.trans ?_ (if_neg z).symm
        split at a3
        · exact a3.symm
        · exact absurd a3.symm a2
    have hk2 : n = 1 → (fk m T e).2.1 + m.2.2.1 ≤ T + 1 := by
      intro z
      unfold fEn at a3
      rw [if_pos a1'] at a3
      split at a3
      · omega
      · split at a3
        · assumption
        · omega
    obtain ⟨y1, c1, f1, s1, s2, s3, s4⟩ := f_speaks_end (d := d + 2) k he hv v3 hH r2 (by omega) hS hL hT (by omega) r3 (by omega) r4 (by omega) ff2 hk hk2
    have k1 := k.fr f1
    have enN : enA m e (T + 1) = n := by
      unfold enA
      rcases a4 with ⟨_, z⟩ | ⟨_, _, z⟩ | ⟨_, _, z⟩ <;> rw [z]
    have A1 := A.xe h1 L1 he tt tbT teT hsb a1 rfl enN ff2 (by omega) (fun j => s4 169 j (by omega) (by omega)) (fun j => s4 170 j (by omega) (by omega)) (fun j => s4 172 j (by omega) (by omega)) (s4 _ _ (by omega) (by omega)) (fun j hj => s4 171 j (by omega) (by omega)) s3
    have x1 : a_i y1 164 e = nI v := by rw [s4 _ _ (by omega) (by omega)]; exact hv
    have xT : a_i y1 126 44 = nI (T + 1) := by rw [s4 _ _ (by omega) (by omega)]; exact hT
    rcases a4 with ⟨b1, b2⟩ | ⟨b1, b2, b3⟩ | ⟨b1, b2, b3⟩
    · have sp : spkn m e (T + 1) = false := by unfold spkn; rw [b2]
      have c2 := fun Q => f_silent_H (d := d + 3) (Q := Q) k1 he x1 v3 (v1 b1)
      have iy : ∀ q j, ¬ (q = 153 ∧ j = e) → a_i (s_i y1 153 e 0) q j = a_i y1 q j := fun q j c => ine c
      refine ⟨s_i y1 153 e 0, tg_ss k k1 he r1 s1 c1 c2, f1.si (by unfold rfc; omega), ⟨fun z => (by rw [sp] at z; cases z), fun _ => ⟨?_, ?_, ?_⟩⟩, ⟨F, ?_⟩, ?_, fun q j q1 q2 q3 q4 => by rw [iy q j (by omega)]; exact s4 q j (by omega) (by omega)⟩
      · rw [iy _ _ (by omega)]; exact s1
      · rw [ieq rfl rfl, b2]; rfl
      · rw [b2]; exact fun z => absurd rfl z
      · refine ((A1.xm he tbT (by unfold bgA; rw [b2])).fr (iy _ _ (by omega)) (fun q j q1 q2 => iy q j (by omega))).cg (fun _ _ => rfl) (fun _ _ => rfl) (fun e' he' => ?_)
        rw [show sbN m e (T + 1) = none from if_neg (by rw [sp]; simp)]
      · rw [if_neg (by rw [sp]; simp), iy _ _ (by omega)]; exact s4 _ _ (by omega) (by omega)
    · have sp : spkn m e (T + 1) = false := by unfold spkn; rw [b3]
      have v00 := v0 b1
      subst v00
      have c2 := fun Q => f_silent_w (d := d + 2) (Q := Q) k1 he x1 (q := 0) s2 (by omega) hw (fun z => absurd rfl z) b2
      have iy : ∀ q j, ¬ (q = 153 ∧ j = e) → ¬ (q = 154 ∧ j = e) → a_i (s_i (pY m e 0 y1) 153 e (nI (0 + 1))) q j = a_i y1 q j := fun q j c c' => by rw [ine c, pY_i c']
      refine ⟨s_i (pY m e 0 y1) 153 e (nI (0 + 1)), tg_ss k k1 he r1 s1 c1 c2, (f1.tr (pY_f he)).si (by unfold rfc; omega), ⟨fun z => (by rw [sp] at z; cases z), fun _ => ⟨?_, ?_, ?_⟩⟩, ⟨F, ?_⟩, ?_, fun q j q1 q2 q3 q4 => by rw [iy q j (by omega) (by omega)]; exact s4 q j (by omega) (by omega)⟩
      · rw [iy _ _ (by omega) (by omega)]; exact s1
      · rw [ieq rfl rfl, b3]
      · intro _
        rw [ine (by omega)]; exact pY_p (fun z => absurd rfl z)
      · refine ((A1.xm he tbT (by unfold bgA; rw [b3])).fr (iy _ _ (by omega) (by omega)) (fun q j q1 q2 => iy q j (by omega) (by omega))).cg (fun _ _ => rfl) (fun _ _ => rfl) (fun e' he' => ?_)
        rw [show sbN m e (T + 1) = none from if_neg (by rw [sp]; simp)]
      · rw [if_neg (by rw [sp]; simp), iy _ _ (by omega) (by omega)]; exact s4 _ _ (by omega) (by omega)
    · have sp : spkn m e (T + 1) = true := by unfold spkn; rw [b3]
      have v00 := v0 b1
      subst v00
      obtain ⟨y2, c2, f2, m1, m2, m3, m4, m5, m6, m7, m8, m9, m10, m11⟩ := f_silent_b (d := d + 1) k1 he x1 (q := 0) s2 (by omega) hw (fun z => absurd rfl z) (by omega) F2 A1.1 xT (by omega)
      refine ⟨y2, tg_ss k k1 he r1 s1 c1 c2, f1.tr f2, ⟨fun _ => ⟨m6, ?_, ?_, m9⟩, fun z => by rw [sp] at z; cases z⟩, ⟨F + 1, ?_⟩, ?_, fun q j q1 q2 q3 q4 => by rw [m11 q j (by omega) (by omega) (by omega) (by omega)]; exact s4 q j (by omega) (by omega)⟩
      · rw [m7, b3]; rfl
      · rw [m8, b3]
      · refine (A1.xb L1 he tt tbT (une rfl) (by unfold bgA; rw [b3]) (fun j hj => m11 169 j (by omega) (by omega) (by omega) (by omega)) (fun j hj => m11 170 j (by omega) (by omega) (by omega) (by omega)) (fun j hj => m11 171 j (by omega) (by omega) (by omega) (by omega)) (fun j hj => m11 172 j (by omega) (by omega) (by omega) (by omega)) m2 m3 m4 m1 m5).cg (fun _ _ => rfl) (fun _ _ => rfl) (fun e' he' => ?_)
        unfold uo sbN
        rw [if_pos sp, b3]
        by_cases z : e' = e
        · rw [if_pos z, if_pos z]
        · rw [if_neg z, if_neg z, if_neg z]
      · rw [if_pos sp, m10, s4 _ _ (by omega) (by omega)]
  · -- silent, hears
    obtain ⟨r1, r2, r3⟩ := R.2 a1
    have sp : spkn m e (T + 1) = false := by unfold spkn; rw [a3]
    have c2 := fun Q => f_silent_H (d := d + 3) (Q := Q) k he hv v3 (v1 a2)
    have iy : ∀ q j, ¬ (q = 153 ∧ j = e) → a_i (s_i y 153 e 0) q j = a_i y q j := fun q j c => ine c
    refine ⟨s_i y 153 e 0, tg_sl k he r1 c2, rff.refl.si (by unfold rfc; omega), ⟨fun z => (by rw [sp] at z; cases z), fun _ => ⟨?_, ?_, ?_⟩⟩, ⟨F, ?_⟩, ?_, fun q j q1 q2 q3 q4 => iy q j (by omega)⟩
    · rw [iy _ _ (by omega)]; exact r1
    · rw [ieq rfl rfl, a3]; rfl
    · rw [a3]; exact fun z => absurd rfl z
    · refine (((A.xk teT (by unfold enA; rw [a3])).xm he tbT (by unfold bgA; rw [a3])).fr (iy _ _ (by omega)) (fun q j q1 q2 => iy q j (by omega))).cg (fun _ _ => rfl) (fun _ _ => rfl) (fun e' he' => ?_)
      unfold uo
      split
      · rename_i z
        rw [z, hs]
        unfold sbN
        rw [if_neg (by rw [sp]; simp), if_neg (by rw [a1]; simp)]
      · rfl
    · rw [if_neg (by rw [sp]; simp), iy _ _ (by omega)]
  · -- silent, waits on
    obtain ⟨r1, r2, r3⟩ := R.2 a1
    obtain ⟨_, _, _, g4, _⟩ := (fK_inv h1 T).2 a1
    have sp : spkn m e (T + 1) = false := by unfold spkn; rw [a4]
    have v00 := v0 a2
    subst v00
    have c2 := fun Q => f_silent_w (d := d + 2) (Q := Q) k he hv r2 (by omega) hw r3 a3
    obtain ⟨q0, eq0⟩ : ∃ q0, q0 = (fk m T e).2.2.2.1 := ⟨_, rfl⟩
    rw [← eq0] at c2 r2 r3
    have iy : ∀ q j, ¬ (q = 153 ∧ j = e) → ¬ (q = 154 ∧ j = e) → a_i (s_i (pY m e q0 y) 153 e (nI (q0 + 1))) q j = a_i y q j := fun q j c c' => by rw [ine c, pY_i c']
    refine ⟨s_i (pY m e q0 y) 153 e (nI (q0 + 1)), tg_sl k he r1 c2, (pY_f he).si (by unfold rfc; omega), ⟨fun z => (by rw [sp] at z; cases z), fun _ => ⟨?_, ?_, ?_⟩⟩, ⟨F, ?_⟩, ?_, fun q j q1 q2 q3 q4 => iy q j (by omega) (by omega)⟩
    · rw [iy _ _ (by omega) (by omega)]; exact r1
    · rw [ieq rfl rfl, a4, eq0]
    · intro _
      rw [ine (by omega)]; exact pY_p r3
    · refine (((A.xk teT (by unfold enA; rw [a4])).xm he tbT (by unfold bgA; rw [a4])).fr (iy _ _ (by omega) (by omega)) (fun q j q1 q2 => iy q j (by omega) (by omega))).cg (fun _ _ => rfl) (fun _ _ => rfl) (fun e' he' => ?_)
      unfold uo
      split
      · rename_i z
        rw [z, hs]
        unfold sbN
        rw [if_neg (by rw [sp]; simp), if_neg (by rw [a1]; simp)]
      · rfl
    · rw [if_neg (by rw [sp]; simp), iy _ _ (by omega) (by omega)]
  · -- silent, begins
    obtain ⟨r1, r2, r3⟩ := R.2 a1
    obtain ⟨_, _, _, g4, _⟩ := (fK_inv h1 T).2 a1
    have sp : spkn m e (T + 1) = true := by unfold spkn; rw [a4]
    have v00 := v0 a2
    subst v00
    obtain ⟨y2, c2, f2, m1, m2, m3, m4, m5, m6, m7, m8, m9, m10, m11⟩ := f_silent_b (d := d + 1) k he hv r2 (by omega) hw r3 a3 F2 A.1 hT (by omega)
    refine ⟨y2, tg_sl k he r1 c2, f2, ⟨fun _ => ⟨m6, ?_, ?_, m9⟩, fun z => by rw [sp] at z; cases z⟩, ⟨F + 1, ?_⟩, ?_, fun q j q1 q2 q3 q4 => m11 q j (by omega) (by omega) (by omega) (by omega)⟩
    · rw [m7, a4]; rfl
    · rw [m8, a4]
    · refine ((A.xk teT (by unfold enA; rw [a4])).xb L1 he tt tbT (une rfl) (by unfold bgA; rw [a4]) (fun j hj => m11 169 j (by omega) (by omega) (by omega) (by omega)) (fun j hj => m11 170 j (by omega) (by omega) (by omega) (by omega)) (fun j hj => m11 171 j (by omega) (by omega) (by omega) (by omega)) (fun j hj => m11 172 j (by omega) (by omega) (by omega) (by omega)) m2 m3 m4 m1 m5).cg (fun _ _ => rfl) (fun _ _ => rfl) (fun e' he' => ?_)
      unfold uo sbN
      rw [if_pos sp, a4]
    · rw [if_pos sp, m10]
end RF4
