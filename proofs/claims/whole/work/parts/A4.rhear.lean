/-! a tenth: listening: the other side -/
section RHEAR
variable {e n m j i T r c d K : Nat} {s : TS} {h0 h h1 x : am_h} {b0 v z kd b l : Int32} {u : Nat → Int32} {VW VS VL : (Nat → Int32) → Int32 → Int32} {g : Nat → Int32} {F W : Nat → Bool} {Q : Option Value → am_h → Prop}
set_option maxRecDepth 20000 in
theorem q_lowestOf (hF : ¬ bN F = 0) : Cal d mX12_lowestOf [.int (nI (bN F))] h Q = Q (some (.int (low4 F))) h := by
  have st : ∀ k, k < 4 → F k = false → WP d mX12_lowestOf 2 [some (.int (nI (bN F))), some (.int (nI k))] [] h Q = WP d mX12_lowestOf 2 [some (.int (nI (bN F))), some (.int (nI (k + 1)))] [] h Q := by
    intro k hk hf
    have b := bN_bit (f := F) (e := k) hk
    rw [hf, if_neg (by decide)] at b
    rw [w_iload_n0 (M := mX12_lowestOf) dX12_lowestOf_2]
    simp [w_iload_n1 (M := mX12_lowestOf) dX12_lowestOf_3, w_ishr (M := mX12_lowestOf) dX12_lowestOf_4, w_iconst (M := mX12_lowestOf) (v := 1) dX12_lowestOf_5 rfl, w_iand (M := mX12_lowestOf) dX12_lowestOf_6, w_if_ne (M := mX12_lowestOf) (tgt := 16) dX12_lowestOf_7 (by decide), w_iinc1 (M := mX12_lowestOf) (v := 1) dX12_lowestOf_10 rfl (by decide), w_goto (M := mX12_lowestOf) (tgt := 2) dX12_lowestOf_13 (by decide), Kn_v_, Kn_n_, kl_i_, kl_a_, kl_l_, kl_n_, s1_0_, s2_0_, s1_1, s1_2, s1_3, s1_4, s1_5, s1_6, s1_7, s1_8, s1_9, s1_10, s1_11, s1_12, s1_13, s1_14, s2_1, s2_2, s2_3, s2_4, s2_5, s2_6, s2_7, s2_8, s2_9, s2_10, s2_11, s2_12, s2_13, s2_14, List.map_nil, List.map_cons, List.sum_nil, List.sum_cons, ct_i_, ct_r_, ct_l_, t_si_, t_sl_, t_sr_, n_si_, n_sl_, n_sr_, i_si_, i_sl_, i_sr_, l_si_, l_sl_, l_sr_, r_si_, r_sl_, r_sr_, vr_s_, vr_n_, nz_0_, nz_1_, b, nI_s]
  have en : ∀ k, k < 4 → F k = true → WP d mX12_lowestOf 2 [some (.int (nI (bN F))), some (.int (nI k))] [] h Q = Q (some (.int (nI k))) h := by
    intro k hk hf
    have b := bN_bit (f := F) (e := k) hk
    rw [hf, if_pos rfl] at b
    rw [w_iload_n0 (M := mX12_lowestOf) dX12_lowestOf_2]
    simp [w_iload_n1 (M := mX12_lowestOf) dX12_lowestOf_3, w_ishr (M := mX12_lowestOf) dX12_lowestOf_4, w_iconst (M := mX12_lowestOf) (v := 1) dX12_lowestOf_5 rfl, w_iand (M := mX12_lowestOf) dX12_lowestOf_6, w_if_ne (M := mX12_lowestOf) (tgt := 16) dX12_lowestOf_7 (by decide), w_iinc1 (M := mX12_lowestOf) (v := 1) dX12_lowestOf_10 rfl (by decide), w_goto (M := mX12_lowestOf) (tgt := 2) dX12_lowestOf_13 (by decide), w_iload_n1 (M := mX12_lowestOf) dX12_lowestOf_16, w_iret (M := mX12_lowestOf) dX12_lowestOf_17 rfl, Kn_v_, Kn_n_, kl_i_, kl_a_, kl_l_, kl_n_, s1_0_, s2_0_, s1_1, s1_2, s1_3, s1_4, s1_5, s1_6, s1_7, s1_8, s1_9, s1_10, s1_11, s1_12, s1_13, s1_14, s2_1, s2_2, s2_3, s2_4, s2_5, s2_6, s2_7, s2_8, s2_9, s2_10, s2_11, s2_12, s2_13, s2_14, List.map_nil, List.map_cons, List.sum_nil, List.sum_cons, ct_i_, ct_r_, ct_l_, t_si_, t_sl_, t_sr_, n_si_, n_sl_, n_sr_, i_si_, i_sl_, i_sr_, l_si_, l_sl_, l_sr_, r_si_, r_sl_, r_sr_, vr_s_, vr_n_, nz_0_, nz_1_, b]
  have be : Cal d mX12_lowestOf [.int (nI (bN F))] h Q = WP d mX12_lowestOf 2 [some (.int (nI (bN F))), some (.int (nI 0))] [] h Q := by
    unfold Cal
    rw [l_X12_lowestOf]
    simp only [am_en, am_ag, ct_i, ct_r, ct_l, List.length_cons, List.length_nil, List.replicate]
    simp [w_iconst (M := mX12_lowestOf) (v := 0) dX12_lowestOf_0 rfl, w_istore_n (M := mX12_lowestOf) (i := 1) dX12_lowestOf_1 rfl (by decide), Kn_v_, Kn_n_, kl_i_, kl_a_, kl_l_, kl_n_, s1_0_, s2_0_, s1_1, s1_2, s1_3, s1_4, s1_5, s1_6, s1_7, s1_8, s1_9, s1_10, s1_11, s1_12, s1_13, s1_14, s2_1, s2_2, s2_3, s2_4, s2_5, s2_6, s2_7, s2_8, s2_9, s2_10, s2_11, s2_12, s2_13, s2_14, List.map_nil, List.map_cons, List.sum_nil, List.sum_cons, ct_i_, ct_r_, ct_l_, t_si_, t_sl_, t_sr_, n_si_, n_sl_, n_sr_, i_si_, i_sl_, i_sr_, l_si_, l_sl_, l_sr_, r_si_, r_sl_, r_sr_, vr_s_, vr_n_, nz_0_, nz_1_, nI_z]
  rw [be]
  unfold low4
  cases f0 : F 0 with
  | true => rw [en 0 (by omega) f0]; rfl
  | false =>
    rw [st 0 (by omega) f0, if_neg (by decide)]
    cases f1 : F 1 with
    | true => rw [en 1 (by omega) f1]; rfl
    | false =>
      rw [st 1 (by omega) f1, if_neg (by decide)]
      cases f2 : F 2 with
      | true => rw [en 2 (by omega) f2]; rfl
      | false =>
        rw [st 2 (by omega) f2, if_neg (by decide)]
        cases f3 : F 3 with
        | true => rw [en 3 (by omega) f3]; rfl
        | false =>
          exfalso
          apply hF
          refine bN_0 (fun i hi => ?_)
          have : i = 0 ∨ i = 1 ∨ i = 2 ∨ i = 3 := by omega
          rcases this with rfl | rfl | rfl | rfl
          · exact f0
          · exact f1
          · exact f2
          · exact f3
/-- who spoke in the tenths behind, as both sides have it -/
def SPK (x : am_h) (s : TS) (T : Nat) : Prop := ∀ k, k < 63 → k ≤ T → a_i x 166 ((T - k) % 64) = nI (bN (fun f => decide (s (30 + f) k = 1)))
/-- nobody spoke ahead of the first tenth -/
def ZB (s : TS) : Prop := ∀ e k : Nat, e < 4 → k < 64 → (s 0 1).toInt < (k : Int) → ¬ s (30 + e) k = 1
/-- heard of those below i -/
def gL (F : Nat → Bool) (i f : Nat) : Bool := F f && decide (f < i)
theorem gL_s (h : F i = false) : bN (gL F (i + 1)) = bN (gL F i) := bN_c (fun f hf => by
  unfold gL
  by_cases c : f = i
  · subst c; rw [h]; rfl
  · have : (f < i + 1) = (f < i) := propext ⟨fun _ => by omega, fun _ => by omega⟩
    simp [this])
theorem gL_t (hi : i < 4) (h : F i = true) : nI (bN (gL F i)) ||| (1 : Int32) <<< (nI i &&& 31) = nI (bN (gL F (i + 1))) := by
  rw [bN_or hi, bN_c (g := gL F (i + 1))]
  intro f hf
  unfold gL
  by_cases c : f = i
  · subst c; rw [h]; simp
  · have : (f < i + 1) = (f < i) := propext ⟨fun _ => by omega, fun _ => by omega⟩
    simp [this, c]
theorem nI_4f {f e : Nat} : 4 * nI f + nI e = nI (4 * f + e) := by
  rw [show (4 : Int32) = nI 4 from rfl, nI_m, nI_a]
set_option maxRecDepth 20000 in
set_option maxHeartbeats 4000000 in
theorem r_hearsOne (hR : sh_R (a_t h) (a_r h)) (n4 : n ≤ 4) (he : e < n) (h43 : a_i h 126 43 = nI n) (h44 : a_i h 126 44 = nI (T + 1)) (hT : T ≤ 100000) (hT2 : s 0 1 = nI T) (h165 : ∀ k, k < 16 → a_i h 165 k = s 7 k) (hd : dB s) (hz : ZB s) (hs : SPK h s T) {o2 o3 : Option Value} : ∃ h' o2' o3', (∀ Q, WP (d + 1) mX12_hearsAll 2 [some (.ref 126), some (.int (nI e)), o2, o3] [] h Q = WP (d + 1) mX12_hearsAll 2 [some (.ref 126), some (.int (nI (e + 1))), o2', o3'] [] h' Q) ∧ sm h h' ∧ a_l h' = a_l h ∧ a_i h' 164 e = nI (bN (hB s n e)) ∧ (∀ q j, ¬ (j = e ∧ (q = 164 ∨ q = 156 ∨ q = 157)) → a_i h' q j = a_i h q j) ∧ a_i h' 156 e = (if bN (hB s n e) = 0 then a_i h 156 e else low4 (hB s n e)) ∧ a_i h' 157 e = (if bN (hB s n e) = 0 then a_i h 157 e else nI (T + 1)) := by
  have ie : am_in1 (nI e) 4 = True := by rw [in1_n (by omega)]; exact eq_true (by omega)
  have ce : (nI e).toNatClampNeg = e := nI_c (by omega)
  have pe : (0 ≤ nI e) = True := nI_p (by omega)
  have st : ∀ (i : Nat) (x : am_h × Option Value), i < n → (sm h x.1 ∧ a_l x.1 = a_l h ∧ a_i x.1 164 e = nI (bN (gL (hB s n e) i)) ∧ ∀ q j, ¬ (j = e ∧ q = 164) → a_i x.1 q j = a_i h q j) → ∃ x' : am_h × Option Value, (∀ Q, WP (d + 1) mX12_hearsAll 19 [some (.ref 126), some (.int (nI e)), some (.int (nI i)), x.2] [] x.1 Q = WP (d + 1) mX12_hearsAll 19 [some (.ref 126), some (.int (nI e)), some (.int (nI (i + 1))), x'.2] [] x'.1 Q) ∧ (sm h x'.1 ∧ a_l x'.1 = a_l h ∧ a_i x'.1 164 e = nI (bN (gL (hB s n e) (i + 1))) ∧ ∀ q j, ¬ (j = e ∧ q = 164) → a_i x'.1 q j = a_i h q j) := by
    intro i ⟨x, o⟩ hi ⟨x1, x2, x3, x4⟩
    have xR : sh_R (a_t x) (a_r x) := by rw [x1.1, x1.2.1]; exact hR
    have y43 : a_i x 126 43 = nI n := by rw [x4 _ _ (by omega)]; exact h43
    have y44 : a_i x 126 44 = nI (T + 1) := by rw [x4 _ _ (by omega)]; exact h44
    have ib : 4 * i + e < 16 := by omega
    obtain ⟨dl, d1, d2, d3⟩ := btn (hd (4 * i + e) ib) (by omega) (by omega)
    have d60 : dl ≤ 60 := by have := hd (4 * i + e) ib; unfold bt at this; omega
    have y165 : a_i x 165 (4 * i + e) = nI dl := by rw [x4 _ _ (by omega), h165 _ ib]; exact d1
    have lt : (nI i < nI n) = True := nI_ltT hi (by omega)
    have tt : nI (T + 1) - 1 - nI dl = nI T - nI dl := by rw [show nI (T + 1) - 1 = nI T from nI_sb (b := 1) (by omega)]
    have ne : (nI i = nI e) = (i = e) := nI_inj (by omega) (by omega)
    have hb : hB s n e i = decide (¬ i = e ∧ s (30 + i) dl = 1) := by
      unfold hB
      rw [d3]
      simp [hi]
    by_cases c1 : i = e
    · have f : hB s n e i = false := by rw [hb]; simp [c1]
      refine ⟨(x, some (.int (nI T - nI dl))), fun Q => ?_, x1, x2, by rw [gL_s f]; exact x3, x4⟩
      subst c1
      rw [w_iload_n2 (M := mX12_hearsAll) dX12_hearsAll_19]
      simp [w_aload_n0 (M := mX12_hearsAll) dX12_hearsAll_20, w_getI (M := mX12_hearsAll) dX12_hearsAll_21 f_12_421 rfl (by decide) (by decide), w_ic_ge (M := mX12_hearsAll) (tgt := 93) dX12_hearsAll_24 (by decide), w_aload_n0 (M := mX12_hearsAll) dX12_hearsAll_27, w_getI (M := mX12_hearsAll) dX12_hearsAll_28 f_12_424 rfl (by decide) (by decide), w_iconst (M := mX12_hearsAll) (v := 1) dX12_hearsAll_31 rfl, w_isub (M := mX12_hearsAll) dX12_hearsAll_32, w_aload_n0 (M := mX12_hearsAll) dX12_hearsAll_33, w_getA (M := mX12_hearsAll) dX12_hearsAll_34 f_12_133 rfl (by decide) (by decide), w_iconst (M := mX12_hearsAll) (v := 4) dX12_hearsAll_37 rfl, w_iload_n2 (M := mX12_hearsAll) dX12_hearsAll_38, w_imul (M := mX12_hearsAll) dX12_hearsAll_39, w_iload_n1 (M := mX12_hearsAll) dX12_hearsAll_40, w_iadd (M := mX12_hearsAll) dX12_hearsAll_41, w_iaload (M := mX12_hearsAll) dX12_hearsAll_42, w_isub (M := mX12_hearsAll) dX12_hearsAll_43, w_istore_n (M := mX12_hearsAll) (i := 3) dX12_hearsAll_44 rfl (by decide), w_iload_n2 (M := mX12_hearsAll) dX12_hearsAll_45, w_iload_n1 (M := mX12_hearsAll) dX12_hearsAll_46, w_ic_eq (M := mX12_hearsAll) (tgt := 87) dX12_hearsAll_47 (by decide), w_iload_n3 (M := mX12_hearsAll) dX12_hearsAll_50, w_if_lt (M := mX12_hearsAll) (tgt := 87) dX12_hearsAll_51 (by decide), w_aload_n0 (M := mX12_hearsAll) dX12_hearsAll_54, w_getA (M := mX12_hearsAll) dX12_hearsAll_55 f_12_136 rfl (by decide) (by decide), w_iload_n3 (M := mX12_hearsAll) dX12_hearsAll_58, w_bipush (M := mX12_hearsAll) (v := 63) dX12_hearsAll_59 rfl, w_iand (M := mX12_hearsAll) dX12_hearsAll_61, w_iaload (M := mX12_hearsAll) dX12_hearsAll_62, w_iload_n2 (M := mX12_hearsAll) dX12_hearsAll_63, w_ishr (M := mX12_hearsAll) dX12_hearsAll_64, w_iconst (M := mX12_hearsAll) (v := 1) dX12_hearsAll_65 rfl, w_iand (M := mX12_hearsAll) dX12_hearsAll_66, w_iconst (M := mX12_hearsAll) (v := 1) dX12_hearsAll_67 rfl, w_ic_ne (M := mX12_hearsAll) (tgt := 87) dX12_hearsAll_68 (by decide), w_aload_n0 (M := mX12_hearsAll) dX12_hearsAll_71, w_getA (M := mX12_hearsAll) dX12_hearsAll_72 f_12_130 rfl (by decide) (by decide), w_iload_n1 (M := mX12_hearsAll) dX12_hearsAll_75, w_aload_n0 (M := mX12_hearsAll) dX12_hearsAll_76, w_getA (M := mX12_hearsAll) dX12_hearsAll_77 f_12_130 rfl (by decide) (by decide), w_iload_n1 (M := mX12_hearsAll) dX12_hearsAll_80, w_iaload (M := mX12_hearsAll) dX12_hearsAll_81, w_iconst (M := mX12_hearsAll) (v := 1) dX12_hearsAll_82 rfl, w_iload_n2 (M := mX12_hearsAll) dX12_hearsAll_83, w_ishl (M := mX12_hearsAll) dX12_hearsAll_84, w_ior (M := mX12_hearsAll) dX12_hearsAll_85, w_iastore (M := mX12_hearsAll) dX12_hearsAll_86, w_iinc2 (M := mX12_hearsAll) (v := 1) dX12_hearsAll_87 rfl (by decide), w_goto (M := mX12_hearsAll) (tgt := 19) dX12_hearsAll_90 (by decide), Kn_v_, Kn_n_, kl_i_, kl_a_, kl_l_, kl_n_, s1_0_, s2_0_, s1_1, s1_2, s1_3, s1_4, s1_5, s1_6, s1_7, s1_8, s1_9, s1_10, s1_11, s1_12, s1_13, s1_14, s2_1, s2_2, s2_3, s2_4, s2_5, s2_6, s2_7, s2_8, s2_9, s2_10, s2_11, s2_12, s2_13, s2_14, List.map_nil, List.map_cons, List.sum_nil, List.sum_cons, ct_i_, ct_r_, ct_l_, t_si_, t_sl_, t_sr_, n_si_, n_sl_, n_sr_, i_si_, i_sl_, i_sr_, l_si_, l_sl_, l_sr_, r_si_, r_sl_, r_sr_, vr_s_, vr_n_, nz_0_, nz_1_, xR.e, y43, lt, y44, nI_4f, in1_n (k := 4 * i + i) (n := 16) (by omega), ib, nI_c (a := 4 * i + i) (by omega), y165, tt, nI_s]
    · by_cases c2 : dl ≤ T
      · have t1 : nI T - nI dl = nI (T - dl) := nI_sb c2
        have t2 : (nI (T - dl) < 0) = False := eq_false (Int32.not_lt.mpr (nI_pos' (by omega)))
        have sp : a_i x 166 ((T - dl) % 64) = nI (bN (fun f => decide (s (30 + f) dl = 1))) := by rw [x4 _ _ (by omega)]; exact hs dl (by omega) c2
        have bb := bN_bit (f := fun f => decide (s (30 + f) dl = 1)) (e := i) (by omega)
        by_cases c3 : s (30 + i) dl = 1
        · have f : hB s n e i = true := by rw [hb]; simp [c1, c3]
          rw [if_pos (decide_eq_true c3)] at bb
          refine ⟨(s_i x 164 e (nI (bN (gL (hB s n e) (i + 1)))), some (.int (nI (T - dl)))), fun Q => ?_, x1.tr ⟨rfl, rfl, rfl⟩, x2, ieq rfl rfl, fun q j cc => by rw [ine (by omega)]; exact x4 q j cc⟩
          rw [w_iload_n2 (M := mX12_hearsAll) dX12_hearsAll_19]
          simp [w_aload_n0 (M := mX12_hearsAll) dX12_hearsAll_20, w_getI (M := mX12_hearsAll) dX12_hearsAll_21 f_12_421 rfl (by decide) (by decide), w_ic_ge (M := mX12_hearsAll) (tgt := 93) dX12_hearsAll_24 (by decide), w_aload_n0 (M := mX12_hearsAll) dX12_hearsAll_27, w_getI (M := mX12_hearsAll) dX12_hearsAll_28 f_12_424 rfl (by decide) (by decide), w_iconst (M := mX12_hearsAll) (v := 1) dX12_hearsAll_31 rfl, w_isub (M := mX12_hearsAll) dX12_hearsAll_32, w_aload_n0 (M := mX12_hearsAll) dX12_hearsAll_33, w_getA (M := mX12_hearsAll) dX12_hearsAll_34 f_12_133 rfl (by decide) (by decide), w_iconst (M := mX12_hearsAll) (v := 4) dX12_hearsAll_37 rfl, w_iload_n2 (M := mX12_hearsAll) dX12_hearsAll_38, w_imul (M := mX12_hearsAll) dX12_hearsAll_39, w_iload_n1 (M := mX12_hearsAll) dX12_hearsAll_40, w_iadd (M := mX12_hearsAll) dX12_hearsAll_41, w_iaload (M := mX12_hearsAll) dX12_hearsAll_42, w_isub (M := mX12_hearsAll) dX12_hearsAll_43, w_istore_n (M := mX12_hearsAll) (i := 3) dX12_hearsAll_44 rfl (by decide), w_iload_n2 (M := mX12_hearsAll) dX12_hearsAll_45, w_iload_n1 (M := mX12_hearsAll) dX12_hearsAll_46, w_ic_eq (M := mX12_hearsAll) (tgt := 87) dX12_hearsAll_47 (by decide), w_iload_n3 (M := mX12_hearsAll) dX12_hearsAll_50, w_if_lt (M := mX12_hearsAll) (tgt := 87) dX12_hearsAll_51 (by decide), w_aload_n0 (M := mX12_hearsAll) dX12_hearsAll_54, w_getA (M := mX12_hearsAll) dX12_hearsAll_55 f_12_136 rfl (by decide) (by decide), w_iload_n3 (M := mX12_hearsAll) dX12_hearsAll_58, w_bipush (M := mX12_hearsAll) (v := 63) dX12_hearsAll_59 rfl, w_iand (M := mX12_hearsAll) dX12_hearsAll_61, w_iaload (M := mX12_hearsAll) dX12_hearsAll_62, w_iload_n2 (M := mX12_hearsAll) dX12_hearsAll_63, w_ishr (M := mX12_hearsAll) dX12_hearsAll_64, w_iconst (M := mX12_hearsAll) (v := 1) dX12_hearsAll_65 rfl, w_iand (M := mX12_hearsAll) dX12_hearsAll_66, w_iconst (M := mX12_hearsAll) (v := 1) dX12_hearsAll_67 rfl, w_ic_ne (M := mX12_hearsAll) (tgt := 87) dX12_hearsAll_68 (by decide), w_aload_n0 (M := mX12_hearsAll) dX12_hearsAll_71, w_getA (M := mX12_hearsAll) dX12_hearsAll_72 f_12_130 rfl (by decide) (by decide), w_iload_n1 (M := mX12_hearsAll) dX12_hearsAll_75, w_aload_n0 (M := mX12_hearsAll) dX12_hearsAll_76, w_getA (M := mX12_hearsAll) dX12_hearsAll_77 f_12_130 rfl (by decide) (by decide), w_iload_n1 (M := mX12_hearsAll) dX12_hearsAll_80, w_iaload (M := mX12_hearsAll) dX12_hearsAll_81, w_iconst (M := mX12_hearsAll) (v := 1) dX12_hearsAll_82 rfl, w_iload_n2 (M := mX12_hearsAll) dX12_hearsAll_83, w_ishl (M := mX12_hearsAll) dX12_hearsAll_84, w_ior (M := mX12_hearsAll) dX12_hearsAll_85, w_iastore (M := mX12_hearsAll) dX12_hearsAll_86, w_iinc2 (M := mX12_hearsAll) (v := 1) dX12_hearsAll_87 rfl (by decide), w_goto (M := mX12_hearsAll) (tgt := 19) dX12_hearsAll_90 (by decide), Kn_v_, Kn_n_, kl_i_, kl_a_, kl_l_, kl_n_, s1_0_, s2_0_, s1_1, s1_2, s1_3, s1_4, s1_5, s1_6, s1_7, s1_8, s1_9, s1_10, s1_11, s1_12, s1_13, s1_14, s2_1, s2_2, s2_3, s2_4, s2_5, s2_6, s2_7, s2_8, s2_9, s2_10, s2_11, s2_12, s2_13, s2_14, List.map_nil, List.map_cons, List.sum_nil, List.sum_cons, ct_i_, ct_r_, ct_l_, t_si_, t_sl_, t_sr_, n_si_, n_sl_, n_sr_, i_si_, i_sl_, i_sr_, l_si_, l_sl_, l_sr_, r_si_, r_sl_, r_sr_, vr_s_, vr_n_, nz_0_, nz_1_, xR.e, y43, lt, y44, nI_4f, in1_n (k := 4 * i + e) (n := 16) (by omega), ib, nI_c (a := 4 * i + e) (by omega), y165, tt, ne, c1, t1, t2, and63 (t := T - dl) (by omega), in1_n (k := (T - dl) % 64) (n := 64) (by omega), show (T - dl) % 64 < 64 by omega, nI_c (a := (T - dl) % 64) (by omega), sp, bb, ie, ce, x3, gL_t (F := hB s n e) (i := i) (by omega) f, nI_s]
        · have f : hB s n e i = false := by rw [hb]; simp [c3]
          rw [if_neg (by rw [decide_eq_false c3]; decide)] at bb
          refine ⟨(x, some (.int (nI (T - dl)))), fun Q => ?_, x1, x2, by rw [gL_s f]; exact x3, x4⟩
          rw [w_iload_n2 (M := mX12_hearsAll) dX12_hearsAll_19]
          simp [w_aload_n0 (M := mX12_hearsAll) dX12_hearsAll_20, w_getI (M := mX12_hearsAll) dX12_hearsAll_21 f_12_421 rfl (by decide) (by decide), w_ic_ge (M := mX12_hearsAll) (tgt := 93) dX12_hearsAll_24 (by decide), w_aload_n0 (M := mX12_hearsAll) dX12_hearsAll_27, w_getI (M := mX12_hearsAll) dX12_hearsAll_28 f_12_424 rfl (by decide) (by decide), w_iconst (M := mX12_hearsAll) (v := 1) dX12_hearsAll_31 rfl, w_isub (M := mX12_hearsAll) dX12_hearsAll_32, w_aload_n0 (M := mX12_hearsAll) dX12_hearsAll_33, w_getA (M := mX12_hearsAll) dX12_hearsAll_34 f_12_133 rfl (by decide) (by decide), w_iconst (M := mX12_hearsAll) (v := 4) dX12_hearsAll_37 rfl, w_iload_n2 (M := mX12_hearsAll) dX12_hearsAll_38, w_imul (M := mX12_hearsAll) dX12_hearsAll_39, w_iload_n1 (M := mX12_hearsAll) dX12_hearsAll_40, w_iadd (M := mX12_hearsAll) dX12_hearsAll_41, w_iaload (M := mX12_hearsAll) dX12_hearsAll_42, w_isub (M := mX12_hearsAll) dX12_hearsAll_43, w_istore_n (M := mX12_hearsAll) (i := 3) dX12_hearsAll_44 rfl (by decide), w_iload_n2 (M := mX12_hearsAll) dX12_hearsAll_45, w_iload_n1 (M := mX12_hearsAll) dX12_hearsAll_46, w_ic_eq (M := mX12_hearsAll) (tgt := 87) dX12_hearsAll_47 (by decide), w_iload_n3 (M := mX12_hearsAll) dX12_hearsAll_50, w_if_lt (M := mX12_hearsAll) (tgt := 87) dX12_hearsAll_51 (by decide), w_aload_n0 (M := mX12_hearsAll) dX12_hearsAll_54, w_getA (M := mX12_hearsAll) dX12_hearsAll_55 f_12_136 rfl (by decide) (by decide), w_iload_n3 (M := mX12_hearsAll) dX12_hearsAll_58, w_bipush (M := mX12_hearsAll) (v := 63) dX12_hearsAll_59 rfl, w_iand (M := mX12_hearsAll) dX12_hearsAll_61, w_iaload (M := mX12_hearsAll) dX12_hearsAll_62, w_iload_n2 (M := mX12_hearsAll) dX12_hearsAll_63, w_ishr (M := mX12_hearsAll) dX12_hearsAll_64, w_iconst (M := mX12_hearsAll) (v := 1) dX12_hearsAll_65 rfl, w_iand (M := mX12_hearsAll) dX12_hearsAll_66, w_iconst (M := mX12_hearsAll) (v := 1) dX12_hearsAll_67 rfl, w_ic_ne (M := mX12_hearsAll) (tgt := 87) dX12_hearsAll_68 (by decide), w_aload_n0 (M := mX12_hearsAll) dX12_hearsAll_71, w_getA (M := mX12_hearsAll) dX12_hearsAll_72 f_12_130 rfl (by decide) (by decide), w_iload_n1 (M := mX12_hearsAll) dX12_hearsAll_75, w_aload_n0 (M := mX12_hearsAll) dX12_hearsAll_76, w_getA (M := mX12_hearsAll) dX12_hearsAll_77 f_12_130 rfl (by decide) (by decide), w_iload_n1 (M := mX12_hearsAll) dX12_hearsAll_80, w_iaload (M := mX12_hearsAll) dX12_hearsAll_81, w_iconst (M := mX12_hearsAll) (v := 1) dX12_hearsAll_82 rfl, w_iload_n2 (M := mX12_hearsAll) dX12_hearsAll_83, w_ishl (M := mX12_hearsAll) dX12_hearsAll_84, w_ior (M := mX12_hearsAll) dX12_hearsAll_85, w_iastore (M := mX12_hearsAll) dX12_hearsAll_86, w_iinc2 (M := mX12_hearsAll) (v := 1) dX12_hearsAll_87 rfl (by decide), w_goto (M := mX12_hearsAll) (tgt := 19) dX12_hearsAll_90 (by decide), Kn_v_, Kn_n_, kl_i_, kl_a_, kl_l_, kl_n_, s1_0_, s2_0_, s1_1, s1_2, s1_3, s1_4, s1_5, s1_6, s1_7, s1_8, s1_9, s1_10, s1_11, s1_12, s1_13, s1_14, s2_1, s2_2, s2_3, s2_4, s2_5, s2_6, s2_7, s2_8, s2_9, s2_10, s2_11, s2_12, s2_13, s2_14, List.map_nil, List.map_cons, List.sum_nil, List.sum_cons, ct_i_, ct_r_, ct_l_, t_si_, t_sl_, t_sr_, n_si_, n_sl_, n_sr_, i_si_, i_sl_, i_sr_, l_si_, l_sl_, l_sr_, r_si_, r_sl_, r_sr_, vr_s_, vr_n_, nz_0_, nz_1_, xR.e, y43, lt, y44, nI_4f, in1_n (k := 4 * i + e) (n := 16) (by omega), ib, nI_c (a := 4 * i + e) (by omega), y165, tt, ne, c1, t1, t2, and63 (t := T - dl) (by omega), in1_n (k := (T - dl) % 64) (n := 64) (by omega), show (T - dl) % 64 < 64 by omega, nI_c (a := (T - dl) % 64) (by omega), sp, bb, nI_s]
      · have f : hB s n e i = false := by
          rw [hb]
          have := hz i dl (by omega) (by omega) (by rw [hT2, nI_i (by omega)]; omega)
          simp [this]
        have t2 : (nI T - nI dl < 0) = True := by
          apply eq_true
          rw [i_lt, Int32.toInt_sub, nI_i (by omega), nI_i (by omega), Int.bmod_eq_of_le (by omega) (by omega)]
          show _ < (0 : Int)
          omega
        refine ⟨(x, some (.int (nI T - nI dl))), fun Q => ?_, x1, x2, by rw [gL_s f]; exact x3, x4⟩
        rw [w_iload_n2 (M := mX12_hearsAll) dX12_hearsAll_19]
        simp [w_aload_n0 (M := mX12_hearsAll) dX12_hearsAll_20, w_getI (M := mX12_hearsAll) dX12_hearsAll_21 f_12_421 rfl (by decide) (by decide), w_ic_ge (M := mX12_hearsAll) (tgt := 93) dX12_hearsAll_24 (by decide), w_aload_n0 (M := mX12_hearsAll) dX12_hearsAll_27, w_getI (M := mX12_hearsAll) dX12_hearsAll_28 f_12_424 rfl (by decide) (by decide), w_iconst (M := mX12_hearsAll) (v := 1) dX12_hearsAll_31 rfl, w_isub (M := mX12_hearsAll) dX12_hearsAll_32, w_aload_n0 (M := mX12_hearsAll) dX12_hearsAll_33, w_getA (M := mX12_hearsAll) dX12_hearsAll_34 f_12_133 rfl (by decide) (by decide), w_iconst (M := mX12_hearsAll) (v := 4) dX12_hearsAll_37 rfl, w_iload_n2 (M := mX12_hearsAll) dX12_hearsAll_38, w_imul (M := mX12_hearsAll) dX12_hearsAll_39, w_iload_n1 (M := mX12_hearsAll) dX12_hearsAll_40, w_iadd (M := mX12_hearsAll) dX12_hearsAll_41, w_iaload (M := mX12_hearsAll) dX12_hearsAll_42, w_isub (M := mX12_hearsAll) dX12_hearsAll_43, w_istore_n (M := mX12_hearsAll) (i := 3) dX12_hearsAll_44 rfl (by decide), w_iload_n2 (M := mX12_hearsAll) dX12_hearsAll_45, w_iload_n1 (M := mX12_hearsAll) dX12_hearsAll_46, w_ic_eq (M := mX12_hearsAll) (tgt := 87) dX12_hearsAll_47 (by decide), w_iload_n3 (M := mX12_hearsAll) dX12_hearsAll_50, w_if_lt (M := mX12_hearsAll) (tgt := 87) dX12_hearsAll_51 (by decide), w_aload_n0 (M := mX12_hearsAll) dX12_hearsAll_54, w_getA (M := mX12_hearsAll) dX12_hearsAll_55 f_12_136 rfl (by decide) (by decide), w_iload_n3 (M := mX12_hearsAll) dX12_hearsAll_58, w_bipush (M := mX12_hearsAll) (v := 63) dX12_hearsAll_59 rfl, w_iand (M := mX12_hearsAll) dX12_hearsAll_61, w_iaload (M := mX12_hearsAll) dX12_hearsAll_62, w_iload_n2 (M := mX12_hearsAll) dX12_hearsAll_63, w_ishr (M := mX12_hearsAll) dX12_hearsAll_64, w_iconst (M := mX12_hearsAll) (v := 1) dX12_hearsAll_65 rfl, w_iand (M := mX12_hearsAll) dX12_hearsAll_66, w_iconst (M := mX12_hearsAll) (v := 1) dX12_hearsAll_67 rfl, w_ic_ne (M := mX12_hearsAll) (tgt := 87) dX12_hearsAll_68 (by decide), w_aload_n0 (M := mX12_hearsAll) dX12_hearsAll_71, w_getA (M := mX12_hearsAll) dX12_hearsAll_72 f_12_130 rfl (by decide) (by decide), w_iload_n1 (M := mX12_hearsAll) dX12_hearsAll_75, w_aload_n0 (M := mX12_hearsAll) dX12_hearsAll_76, w_getA (M := mX12_hearsAll) dX12_hearsAll_77 f_12_130 rfl (by decide) (by decide), w_iload_n1 (M := mX12_hearsAll) dX12_hearsAll_80, w_iaload (M := mX12_hearsAll) dX12_hearsAll_81, w_iconst (M := mX12_hearsAll) (v := 1) dX12_hearsAll_82 rfl, w_iload_n2 (M := mX12_hearsAll) dX12_hearsAll_83, w_ishl (M := mX12_hearsAll) dX12_hearsAll_84, w_ior (M := mX12_hearsAll) dX12_hearsAll_85, w_iastore (M := mX12_hearsAll) dX12_hearsAll_86, w_iinc2 (M := mX12_hearsAll) (v := 1) dX12_hearsAll_87 rfl (by decide), w_goto (M := mX12_hearsAll) (tgt := 19) dX12_hearsAll_90 (by decide), Kn_v_, Kn_n_, kl_i_, kl_a_, kl_l_, kl_n_, s1_0_, s2_0_, s1_1, s1_2, s1_3, s1_4, s1_5, s1_6, s1_7, s1_8, s1_9, s1_10, s1_11, s1_12, s1_13, s1_14, s2_1, s2_2, s2_3, s2_4, s2_5, s2_6, s2_7, s2_8, s2_9, s2_10, s2_11, s2_12, s2_13, s2_14, List.map_nil, List.map_cons, List.sum_nil, List.sum_cons, ct_i_, ct_r_, ct_l_, t_si_, t_sl_, t_sr_, n_si_, n_sl_, n_sr_, i_si_, i_sl_, i_sr_, l_si_, l_sl_, l_sr_, r_si_, r_sl_, r_sr_, vr_s_, vr_n_, nz_0_, nz_1_, xR.e, y43, lt, y44, nI_4f, in1_n (k := 4 * i + e) (n := 16) (by omega), ib, nI_c (a := 4 * i + e) (by omega), y165, tt, ne, c1, t2, nI_s]
  obtain ⟨⟨x, o⟩, a1, a2, a3, a4, a5⟩ := lp (W := fun i (x : am_h × Option Value) Q => WP (d + 1) mX12_hearsAll 19 [some (.ref 126), some (.int (nI e)), some (.int (nI i)), x.2] [] x.1 Q) (P := fun i x => sm h x.1 ∧ a_l x.1 = a_l h ∧ a_i x.1 164 e = nI (bN (gL (hB s n e) i)) ∧ ∀ q j, ¬ (j = e ∧ q = 164) → a_i x.1 q j = a_i h q j) st n 0 (s_i h 164 e 0, o3) (by omega) ⟨⟨rfl, rfl, rfl⟩, rfl, by
      show a_i (s_i h 164 e 0) 164 e = _
      rw [ieq rfl rfl, bN_0 (fun f hf => by unfold gL; simp)]
      rfl, fun q j c => ine (by omega)⟩
  have xR : sh_R (a_t x) (a_r x) := by rw [a2.1, a2.2.1]; exact hR
  have bF : bN (gL (hB s n e) n) = bN (hB s n e) := bN_c (fun f hf => by
    unfold gL
    by_cases c : f < n
    · simp [c]
    · have : hB s n e f = false := by unfold hB; exact decide_eq_false (fun w => c w.1)
      rw [this]; rfl)
  simp only [] at a1 a2 a3 a4 a5
  rw [bF] at a4
  have y43 : a_i x 126 43 = nI n := by rw [a5 _ _ (by omega)]; exact h43
  have y44 : a_i x 126 44 = nI (T + 1) := by rw [a5 _ _ (by omega)]; exact h44
  have hz0 : (nI (bN (hB s n e)) = 0) = (bN (hB s n e) = 0) := nI_e0 (by have := bN_l (f := hB s n e); omega)
  have be : ∀ Q, WP (d + 1) mX12_hearsAll 2 [some (.ref 126), some (.int (nI e)), o2, o3] [] h Q = WP (d + 1) mX12_hearsAll 19 [some (.ref 126), some (.int (nI e)), some (.int (nI n)), o] [] x Q := by
    intro Q
    rw [← a1 Q]
    rw [w_iload_n1 (M := mX12_hearsAll) dX12_hearsAll_2]
    simp [w_aload_n0 (M := mX12_hearsAll) dX12_hearsAll_3, w_getI (M := mX12_hearsAll) dX12_hearsAll_4 f_12_421 rfl (by decide) (by decide), w_ic_ge (M := mX12_hearsAll) (tgt := 133) dX12_hearsAll_7 (by decide), w_aload_n0 (M := mX12_hearsAll) dX12_hearsAll_10, w_getA (M := mX12_hearsAll) dX12_hearsAll_11 f_12_130 rfl (by decide) (by decide), w_iload_n1 (M := mX12_hearsAll) dX12_hearsAll_14, w_iconst (M := mX12_hearsAll) (v := 0) dX12_hearsAll_15 rfl, w_iastore (M := mX12_hearsAll) dX12_hearsAll_16, w_iconst (M := mX12_hearsAll) (v := 0) dX12_hearsAll_17 rfl, w_istore_n (M := mX12_hearsAll) (i := 2) dX12_hearsAll_18 rfl (by decide), Kn_v_, Kn_n_, kl_i_, kl_a_, kl_l_, kl_n_, s1_0_, s2_0_, s1_1, s1_2, s1_3, s1_4, s1_5, s1_6, s1_7, s1_8, s1_9, s1_10, s1_11, s1_12, s1_13, s1_14, s2_1, s2_2, s2_3, s2_4, s2_5, s2_6, s2_7, s2_8, s2_9, s2_10, s2_11, s2_12, s2_13, s2_14, List.map_nil, List.map_cons, List.sum_nil, List.sum_cons, ct_i_, ct_r_, ct_l_, t_si_, t_sl_, t_sr_, n_si_, n_sl_, n_sr_, i_si_, i_sl_, i_sr_, l_si_, l_sl_, l_sr_, r_si_, r_sl_, r_sr_, vr_s_, vr_n_, nz_0_, nz_1_, hR.e, h43, show (nI e < nI n) = True from nI_ltT he (by omega), ie, ce, pe, show e < 4 by omega, nI_z]
  by_cases c : bN (hB s n e) = 0
  · refine ⟨x, some (.int (nI n)), o, fun Q => ?_, a2, a3, a4, fun q j cc => a5 _ _ (by omega), ?_, ?_⟩
    · rw [be Q]
      rw [w_iload_n2 (M := mX12_hearsAll) dX12_hearsAll_19]
      simp [w_aload_n0 (M := mX12_hearsAll) dX12_hearsAll_20, w_getI (M := mX12_hearsAll) dX12_hearsAll_21 f_12_421 rfl (by decide) (by decide), w_ic_ge (M := mX12_hearsAll) (tgt := 93) dX12_hearsAll_24 (by decide), w_aload_n0 (M := mX12_hearsAll) dX12_hearsAll_93, w_getA (M := mX12_hearsAll) dX12_hearsAll_94 f_12_130 rfl (by decide) (by decide), w_iload_n1 (M := mX12_hearsAll) dX12_hearsAll_97, w_iaload (M := mX12_hearsAll) dX12_hearsAll_98, w_if_eq (M := mX12_hearsAll) (tgt := 127) dX12_hearsAll_99 (by decide), w_aload_n0 (M := mX12_hearsAll) dX12_hearsAll_102, w_getA (M := mX12_hearsAll) dX12_hearsAll_103 f_12_109 rfl (by decide) (by decide), w_iload_n1 (M := mX12_hearsAll) dX12_hearsAll_106, w_aload_n0 (M := mX12_hearsAll) dX12_hearsAll_107, w_getI (M := mX12_hearsAll) dX12_hearsAll_108 f_12_424 rfl (by decide) (by decide), w_iastore (M := mX12_hearsAll) dX12_hearsAll_111, w_aload_n0 (M := mX12_hearsAll) dX12_hearsAll_112, w_getA (M := mX12_hearsAll) dX12_hearsAll_113 f_12_106 rfl (by decide) (by decide), w_iload_n1 (M := mX12_hearsAll) dX12_hearsAll_116, w_aload_n0 (M := mX12_hearsAll) dX12_hearsAll_117, w_getA (M := mX12_hearsAll) dX12_hearsAll_118 f_12_130 rfl (by decide) (by decide), w_iload_n1 (M := mX12_hearsAll) dX12_hearsAll_121, w_iaload (M := mX12_hearsAll) dX12_hearsAll_122, c_12_499 (M := mX12_hearsAll) dX12_hearsAll_123 rfl, w_iastore (M := mX12_hearsAll) dX12_hearsAll_126, w_iinc1 (M := mX12_hearsAll) (v := 1) dX12_hearsAll_127 rfl (by decide), w_goto (M := mX12_hearsAll) (tgt := 2) dX12_hearsAll_130 (by decide), Kn_v_, Kn_n_, kl_i_, kl_a_, kl_l_, kl_n_, s1_0_, s2_0_, s1_1, s1_2, s1_3, s1_4, s1_5, s1_6, s1_7, s1_8, s1_9, s1_10, s1_11, s1_12, s1_13, s1_14, s2_1, s2_2, s2_3, s2_4, s2_5, s2_6, s2_7, s2_8, s2_9, s2_10, s2_11, s2_12, s2_13, s2_14, List.map_nil, List.map_cons, List.sum_nil, List.sum_cons, ct_i_, ct_r_, ct_l_, t_si_, t_sl_, t_sr_, n_si_, n_sl_, n_sr_, i_si_, i_sl_, i_sr_, l_si_, l_sl_, l_sr_, r_si_, r_sl_, r_sr_, vr_s_, vr_n_, nz_0_, nz_1_, xR.e, y43, show (nI n < nI n) = False from nI_ltF (Nat.le_refl _) (by omega), ie, ce, a4, hz0, c, show nI 0 = 0 from rfl, nI_s]
    · rw [if_pos c]; exact a5 _ _ (by omega)
    · rw [if_pos c]; exact a5 _ _ (by omega)
  · refine ⟨s_i (s_i x 157 e (nI (T + 1))) 156 e (low4 (hB s n e)), some (.int (nI n)), o, fun Q => ?_, a2.tr ⟨rfl, rfl, rfl⟩, a3, ?_, fun q j cc => ?_, ?_, ?_⟩
    · rw [be Q]
      rw [w_iload_n2 (M := mX12_hearsAll) dX12_hearsAll_19]
      simp [w_aload_n0 (M := mX12_hearsAll) dX12_hearsAll_20, w_getI (M := mX12_hearsAll) dX12_hearsAll_21 f_12_421 rfl (by decide) (by decide), w_ic_ge (M := mX12_hearsAll) (tgt := 93) dX12_hearsAll_24 (by decide), w_aload_n0 (M := mX12_hearsAll) dX12_hearsAll_93, w_getA (M := mX12_hearsAll) dX12_hearsAll_94 f_12_130 rfl (by decide) (by decide), w_iload_n1 (M := mX12_hearsAll) dX12_hearsAll_97, w_iaload (M := mX12_hearsAll) dX12_hearsAll_98, w_if_eq (M := mX12_hearsAll) (tgt := 127) dX12_hearsAll_99 (by decide), w_aload_n0 (M := mX12_hearsAll) dX12_hearsAll_102, w_getA (M := mX12_hearsAll) dX12_hearsAll_103 f_12_109 rfl (by decide) (by decide), w_iload_n1 (M := mX12_hearsAll) dX12_hearsAll_106, w_aload_n0 (M := mX12_hearsAll) dX12_hearsAll_107, w_getI (M := mX12_hearsAll) dX12_hearsAll_108 f_12_424 rfl (by decide) (by decide), w_iastore (M := mX12_hearsAll) dX12_hearsAll_111, w_aload_n0 (M := mX12_hearsAll) dX12_hearsAll_112, w_getA (M := mX12_hearsAll) dX12_hearsAll_113 f_12_106 rfl (by decide) (by decide), w_iload_n1 (M := mX12_hearsAll) dX12_hearsAll_116, w_aload_n0 (M := mX12_hearsAll) dX12_hearsAll_117, w_getA (M := mX12_hearsAll) dX12_hearsAll_118 f_12_130 rfl (by decide) (by decide), w_iload_n1 (M := mX12_hearsAll) dX12_hearsAll_121, w_iaload (M := mX12_hearsAll) dX12_hearsAll_122, c_12_499 (M := mX12_hearsAll) dX12_hearsAll_123 rfl, w_iastore (M := mX12_hearsAll) dX12_hearsAll_126, w_iinc1 (M := mX12_hearsAll) (v := 1) dX12_hearsAll_127 rfl (by decide), w_goto (M := mX12_hearsAll) (tgt := 2) dX12_hearsAll_130 (by decide), Kn_v_, Kn_n_, kl_i_, kl_a_, kl_l_, kl_n_, s1_0_, s2_0_, s1_1, s1_2, s1_3, s1_4, s1_5, s1_6, s1_7, s1_8, s1_9, s1_10, s1_11, s1_12, s1_13, s1_14, s2_1, s2_2, s2_3, s2_4, s2_5, s2_6, s2_7, s2_8, s2_9, s2_10, s2_11, s2_12, s2_13, s2_14, List.map_nil, List.map_cons, List.sum_nil, List.sum_cons, ct_i_, ct_r_, ct_l_, t_si_, t_sl_, t_sr_, n_si_, n_sl_, n_sr_, i_si_, i_sl_, i_sr_, l_si_, l_sl_, l_sr_, r_si_, r_sl_, r_sr_, vr_s_, vr_n_, nz_0_, nz_1_, xR.e, y43, y44, show (nI n < nI n) = False from nI_ltF (Nat.le_refl _) (by omega), ie, ce, pe, show e < 4 by omega, a4, hz0, c, q_lowestOf (F := hB s n e) c, nI_s]
    · rw [ine (by omega), ine (by omega)]; exact a4
    · rw [ine (by omega), ine (by omega)]; exact a5 _ _ (by omega)
    · rw [if_neg c, ieq rfl rfl]
    · rw [if_neg c, ine (by omega), ieq rfl rfl]
set_option maxRecDepth 20000 in
set_option maxHeartbeats 4000000 in
theorem r_hearsAll (B : rBs m n g VW VS VL h0) (k : rJ m n b0 u h0 h (LIS s (hB s n) 0)) (hT : T ≤ 100000) (hT2 : s 0 1 = nI T) (hd : dB s) (hz : ZB s) (hs : SPK h s T) : ∃ h', (∀ Q, Cal (d + 1) mX12_hearsAll [.ref 126] h Q = Q none h') ∧ rJ m n b0 u h0 h' (LIS s (hB s n) n) ∧ (∀ e, e < n → a_i h' 164 e = nI (bN (hB s n e))) ∧ ∀ j, a_i h' 166 j = a_i h 166 j := by
  have B' := B
  obtain ⟨m1, x0, x1, x2, G, hg⟩ := B'
  have n4 := G.1
  have L7 : ∀ j k, LIS s (hB s n) j 7 k = s 7 k := fun j k => by
    unfold LIS
    rw [if_neg (by omega), if_neg (by omega), if_neg (by omega)]
  have L1 : ∀ j, LIS s (hB s n) j 0 1 = nI (T + 1) := fun j => by
    unfold LIS
    rw [if_pos ⟨rfl, rfl⟩, hT2, nI_s]
  have st : ∀ (i : Nat) (x : am_h × Option Value × Option Value), i < n → (rJ m n b0 u h0 x.1 (LIS s (hB s n) i) ∧ (∀ e, e < i → a_i x.1 164 e = nI (bN (hB s n e))) ∧ ∀ j, a_i x.1 166 j = a_i h 166 j) → ∃ x' : am_h × Option Value × Option Value, (∀ Q, WP (d + 1) mX12_hearsAll 2 [some (.ref 126), some (.int (nI i)), x.2.1, x.2.2] [] x.1 Q = WP (d + 1) mX12_hearsAll 2 [some (.ref 126), some (.int (nI (i + 1))), x'.2.1, x'.2.2] [] x'.1 Q) ∧ (rJ m n b0 u h0 x'.1 (LIS s (hB s n) (i + 1)) ∧ (∀ e, e < i + 1 → a_i x'.1 164 e = nI (bN (hB s n e))) ∧ ∀ j, a_i x'.1 166 j = a_i h 166 j) := by
    intro i ⟨x, o2, o3⟩ hi ⟨y1, y2, y3⟩
    simp only [] at y1 y2 y3
    obtain ⟨h', p2, p3, q1, q2, q3, q4, q5, q6, q7⟩ := r_hearsOne (d := d) (o2 := o2) (o3 := o3) (h := x) (s := s) (T := T) (y1.R x0.2.1) n4 hi y1.2.1.2.1 (y1.2.1.2.2.1.trans (L1 i)) hT hT2 (fun k hk => (y1.2.2.2.1 k hk).trans (L7 i k)) hd hz (fun k k1 k2 => by rw [y3]; exact hs k k1 k2)
    refine ⟨(h', p2, p3), q1, ?_, fun e he => ?_, fun j => ?_⟩
    · obtain ⟨k1, k2, k3, k4, k5, k6, k7, k8⟩ := y1
      have e127 : a_i h' 127 = a_i x 127 := funext fun j => q5 _ _ (by omega)
      have K : rJ m n b0 u h0 h' (if bN (hB s n i) = 0 then LIS s (hB s n) i else up (up (LIS s (hB s n) i) 5 i (low4 (hB s n i))) 6 i (s 0 1 + 1)) := by
        by_cases c : bN (hB s n i) = 0
        · rw [if_pos c] at q6 q7 ⊢
          refine rJ.fr ⟨k1, k2, k3, k4, k5, k6, k7, k8⟩ q2 (fun q j c1 c2 c3 => ?_) (fun q j _ => by rw [q3])
          by_cases w6 : q = 156 ∧ j = i
          · rw [w6.1, w6.2]; exact q6
          · by_cases w7 : q = 157 ∧ j = i
            · rw [w7.1, w7.2]; exact q7
            · exact q5 _ _ (by omega)
        · rw [if_neg c] at q6 q7 ⊢
          have K1 := (rJ.uc (e := i) (c := 5) (r := 156) (v := low4 (hB s n i)) (⟨k1, k2, k3, k4, k5, k6, k7, k8⟩ : rJ m n b0 u h0 x (LIS s (hB s n) i)) (by omega) (by omega) rfl).uc (e := i) (c := 6) (r := 157) (v := s 0 1 + 1) (by omega) (by omega) rfl
          refine K1.fr ⟨q2.1, q2.2.1, q2.2.2⟩ (fun q j c1 c2 c3 => ?_) (fun q j _ => by rw [q3]; rfl)
          by_cases w6 : q = 156 ∧ j = i
          · rw [w6.1, w6.2, q6, ine (by omega), ieq rfl rfl]
          · by_cases w7 : q = 157 ∧ j = i
            · rw [w7.1, w7.2, q7, ieq rfl rfl, hT2, nI_s]
            · rw [q5 _ _ (by omega), ine (by omega), ine (by omega)]
      rw [LIS_s]
      exact K
    · by_cases c : e = i
      · rw [c]; exact q4
      · rw [q5 _ _ (by omega)]; exact y2 e (by omega)
    · rw [q5 _ _ (by omega)]; exact y3 j
  obtain ⟨⟨x, o2, o3⟩, a1, a2, a3, a4⟩ := lp (W := fun i (x : am_h × Option Value × Option Value) Q => WP (d + 1) mX12_hearsAll 2 [some (.ref 126), some (.int (nI i)), x.2.1, x.2.2] [] x.1 Q) (P := fun i x => rJ m n b0 u h0 x.1 (LIS s (hB s n) i) ∧ (∀ e, e < i → a_i x.1 164 e = nI (bN (hB s n e))) ∧ ∀ j, a_i x.1 166 j = a_i h 166 j) st n 0 (h, none, none) (by omega) ⟨k, fun e he => absurd he (by omega), fun j => rfl⟩
  refine ⟨x, fun Q => ?_, a2, a3, a4⟩
  have e1 := a1 Q
  have xR := a2.R x0.2.1
  have y43 : a_i x 126 43 = nI n := a2.2.1.2.1
  have e0 : (0 : Int32) = nI 0 := rfl
  unfold Cal
  rw [l_X12_hearsAll]
  simp only [am_en, am_ag, ct_i, ct_r, ct_l, List.length_cons, List.length_nil, List.replicate]
  simp [w_iconst (M := mX12_hearsAll) (v := 0) dX12_hearsAll_0 rfl, w_istore_n (M := mX12_hearsAll) (i := 1) dX12_hearsAll_1 rfl (by decide), Kn_v_, Kn_n_, kl_i_, kl_a_, kl_l_, kl_n_, s1_0_, s2_0_, s1_1, s1_2, s1_3, s1_4, s1_5, s1_6, s1_7, s1_8, s1_9, s1_10, s1_11, s1_12, s1_13, s1_14, s2_1, s2_2, s2_3, s2_4, s2_5, s2_6, s2_7, s2_8, s2_9, s2_10, s2_11, s2_12, s2_13, s2_14, List.map_nil, List.map_cons, List.sum_nil, List.sum_cons, ct_i_, ct_r_, ct_l_, t_si_, t_sl_, t_sr_, n_si_, n_sl_, n_sr_, i_si_, i_sl_, i_sr_, l_si_, l_sl_, l_sr_, r_si_, r_sl_, r_sr_, vr_s_, vr_n_, nz_0_, nz_1_]
  rw [e0]
  refine Eq.to_iff (Eq.trans e1 ?_)
  show WP (d + 1) mX12_hearsAll 2 _ _ _ _ = _
  rw [w_iload_n1 (M := mX12_hearsAll) dX12_hearsAll_2]
  simp [w_aload_n0 (M := mX12_hearsAll) dX12_hearsAll_3, w_getI (M := mX12_hearsAll) dX12_hearsAll_4 f_12_421 rfl (by decide) (by decide), w_ic_ge (M := mX12_hearsAll) (tgt := 133) dX12_hearsAll_7 (by decide), w_vret (M := mX12_hearsAll) dX12_hearsAll_133 rfl, Kn_v_, Kn_n_, kl_i_, kl_a_, kl_l_, kl_n_, s1_0_, s2_0_, s1_1, s1_2, s1_3, s1_4, s1_5, s1_6, s1_7, s1_8, s1_9, s1_10, s1_11, s1_12, s1_13, s1_14, s2_1, s2_2, s2_3, s2_4, s2_5, s2_6, s2_7, s2_8, s2_9, s2_10, s2_11, s2_12, s2_13, s2_14, List.map_nil, List.map_cons, List.sum_nil, List.sum_cons, ct_i_, ct_r_, ct_l_, t_si_, t_sl_, t_sr_, n_si_, n_sl_, n_sr_, i_si_, i_sl_, i_sr_, l_si_, l_sl_, l_sr_, r_si_, r_sl_, r_sr_, vr_s_, vr_n_, nz_0_, nz_1_, xR.e, y43, show (nI n < nI n) = False from nI_ltF (Nat.le_refl _) (by omega)]
end RHEAR
