/-! a tenth: what was heard is counted: the class -/
section COUNT
variable {p e n m B d j r : Nat} {s : TS} {h0 h : am_h} {g : Nat → Int32} {F : Nat → Bool} {H : Nat → Nat → Bool} {Q : Option Value → am_h → Prop}
/-- a row of counts, one more for each that is heard: the first i -/
def cf (c : Nat → Int32) (F : Nat → Bool) (e i : Nat) : Nat → Int32 := fun k => if k < 16 ∧ k % 4 = e ∧ k / 4 < i ∧ F (k / 4) = true then c k + 1 else c k
theorem cf_s {c : Nat → Int32} {i : Nat} (hi : i < 4) (he : e < 4) : cf c F e (i + 1) = if F i = true then ud (cf c F e i) (4 * i + e) (cf c F e i (4 * i + e) + 1) else cf c F e i := by
  have a0 : cf c F e i (4 * i + e) = c (4 * i + e) := if_neg (by omega)
  by_cases b : F i = true
  · rw [if_pos b]
    funext k
    by_cases k1 : k = 4 * i + e
    · rw [ude k1, a0, k1]
      unfold cf
      rw [if_pos ⟨by omega, by omega, by omega, by rw [show (4 * i + e) / 4 = i by omega]; exact b⟩]
    · rw [udn k1]
      unfold cf
      have : (k < 16 ∧ k % 4 = e ∧ k / 4 < i + 1 ∧ F (k / 4) = true) = (k < 16 ∧ k % 4 = e ∧ k / 4 < i ∧ F (k / 4) = true) := propext ⟨fun z => ⟨z.1, z.2.1, by omega, z.2.2.2⟩, fun z => ⟨z.1, z.2.1, by omega, z.2.2.2⟩⟩
      simp only [this]
  · rw [if_neg b]
    funext k
    unfold cf
    have : (k < 16 ∧ k % 4 = e ∧ k / 4 < i + 1 ∧ F (k / 4) = true) = (k < 16 ∧ k % 4 = e ∧ k / 4 < i ∧ F (k / 4) = true) := propext ⟨fun z => ⟨z.1, z.2.1, by
      by_cases q : k / 4 = i
      · rw [q] at z; exact absurd z.2.2.2 b
      · omega, z.2.2.2⟩, fun z => ⟨z.1, z.2.1, by omega, z.2.2.2⟩⟩
    simp only [this]
theorem cf_0 {c : Nat → Int32} : cf c F e 0 = c := funext fun k => if_neg (by omega)
theorem cf_z {c : Nat → Int32} {i : Nat} (hi : i ≤ 4) (hF : ∀ i, i < 4 → F i = false) : cf c F e i = c := funext fun k => if_neg (fun z => by rw [hF (k / 4) (by omega)] at z; exact absurd z.2.2.2 (by decide))
set_option maxRecDepth 20000 in
set_option maxHeartbeats 2000000 in
theorem q_countHeard (hp : shL (a_t h) (a_r h) p) (hn : n ≤ 4) (he : e < n) (hh : a_i h (p + 5 + e) 4 = nI (bN F)) (hr : r = if one4 F = true ∧ a_i h (p + 5 + e) 0 = 0 then p + 2 else p + 3) : Cal d mX5_countHeard [.ref p, .int (nI e), .int (nI n)] h Q = Q none (s_w h r (cf (a_i h r) F e n)) := by
  obtain ⟨p1, p2, p3, p4, p5, p6, p7, p8, p9, p10⟩ := hp
  obtain ⟨f1, f2⟩ := p6 e (by omega)
  have ie : am_in1 (nI e) 4 = True := by rw [in1_n (by omega)]; exact eq_true (by omega)
  have ce : (nI e).toNatClampNeg = e := nI_c (by omega)
  have b16 := bN_l (f := F)
  have hz : (nI (bN F) = 0) = (bN F = 0) := nI_e0 (by omega)
  have rt : a_t h r = (20, 16) := by
    rw [hr]
    split
    · exact p3
    · exact p4
  have rn : ¬ r = p + 5 + e := by
    rw [hr]
    split <;> omega
  by_cases c0 : bN F = 0
  · have hF : ∀ i, i < 4 → F i = false := by
      have := bN_z (f := F)
      rw [hz] at this
      exact (this ▸ c0)
    rw [cf_z hn hF, sw_self]
    unfold Cal
    rw [l_X5_countHeard]
    simp only [am_en, am_ag, ct_i, ct_r, ct_l, List.length_cons, List.length_nil, List.replicate]
    by_cases c : a_i h (p + 5 + e) 0 = 0 <;> simp [w_aload_n0 (M := mX5_countHeard) dX5_countHeard_0, w_getA (M := mX5_countHeard) dX5_countHeard_1 f_5_27 rfl (by decide) (by decide), w_iload_n1 (M := mX5_countHeard) dX5_countHeard_4, w_aaload (M := mX5_countHeard) dX5_countHeard_5, w_getI (M := mX5_countHeard) dX5_countHeard_6 f_5_83 rfl (by decide) (by decide), w_istore_n (M := mX5_countHeard) (i := 3) dX5_countHeard_9 rfl (by decide), w_iload_n3 (M := mX5_countHeard) dX5_countHeard_10, w_iload_n3 (M := mX5_countHeard) dX5_countHeard_11, w_iconst (M := mX5_countHeard) (v := 1) dX5_countHeard_12 rfl, w_isub (M := mX5_countHeard) dX5_countHeard_13, w_iand (M := mX5_countHeard) dX5_countHeard_14, w_if_ne (M := mX5_countHeard) (tgt := 22) dX5_countHeard_15 (by decide), w_iconst (M := mX5_countHeard) (v := 1) dX5_countHeard_18 rfl, w_goto (M := mX5_countHeard) (tgt := 23) dX5_countHeard_19 (by decide), w_iconst (M := mX5_countHeard) (v := 0) dX5_countHeard_22 rfl, w_istore (M := mX5_countHeard) dX5_countHeard_23 (by decide), w_iload4 (M := mX5_countHeard) dX5_countHeard_25, w_if_eq (M := mX5_countHeard) (tgt := 49) dX5_countHeard_27 (by decide), w_aload_n0 (M := mX5_countHeard) dX5_countHeard_30, w_getA (M := mX5_countHeard) dX5_countHeard_31 f_5_27 rfl (by decide) (by decide), w_iload_n1 (M := mX5_countHeard) dX5_countHeard_34, w_aaload (M := mX5_countHeard) dX5_countHeard_35, w_getZ (M := mX5_countHeard) dX5_countHeard_36 f_5_61 rfl (by decide) (by decide), w_if_ne (M := mX5_countHeard) (tgt := 49) dX5_countHeard_39 (by decide), w_aload_n0 (M := mX5_countHeard) dX5_countHeard_42, w_getA (M := mX5_countHeard) dX5_countHeard_43 f_5_19 rfl (by decide) (by decide), w_goto (M := mX5_countHeard) (tgt := 53) dX5_countHeard_46 (by decide), w_aload_n0 (M := mX5_countHeard) dX5_countHeard_49, w_getA (M := mX5_countHeard) dX5_countHeard_50 f_5_22 rfl (by decide) (by decide), w_astore (M := mX5_countHeard) dX5_countHeard_53 (by decide), w_iconst (M := mX5_countHeard) (v := 0) dX5_countHeard_55 rfl, w_istore (M := mX5_countHeard) dX5_countHeard_56 (by decide), w_iload_n3 (M := mX5_countHeard) dX5_countHeard_58, w_if_eq (M := mX5_countHeard) (tgt := 96) dX5_countHeard_59 (by decide), w_iload6 (M := mX5_countHeard) dX5_countHeard_62, w_iload_n2 (M := mX5_countHeard) dX5_countHeard_64, w_ic_ge (M := mX5_countHeard) (tgt := 96) dX5_countHeard_65 (by decide), w_iload_n3 (M := mX5_countHeard) dX5_countHeard_68, w_iload6 (M := mX5_countHeard) dX5_countHeard_69, w_ishr (M := mX5_countHeard) dX5_countHeard_71, w_iconst (M := mX5_countHeard) (v := 1) dX5_countHeard_72 rfl, w_iand (M := mX5_countHeard) dX5_countHeard_73, w_if_eq (M := mX5_countHeard) (tgt := 90) dX5_countHeard_74 (by decide), w_aload5 (M := mX5_countHeard) dX5_countHeard_77, w_iload6 (M := mX5_countHeard) dX5_countHeard_79, w_iconst (M := mX5_countHeard) (v := 4) dX5_countHeard_81 rfl, w_imul (M := mX5_countHeard) dX5_countHeard_82, w_iload_n1 (M := mX5_countHeard) dX5_countHeard_83, w_iadd (M := mX5_countHeard) dX5_countHeard_84, w_dup2 (M := mX5_countHeard) dX5_countHeard_85, w_iaload (M := mX5_countHeard) dX5_countHeard_86, w_iconst (M := mX5_countHeard) (v := 1) dX5_countHeard_87 rfl, w_iadd (M := mX5_countHeard) dX5_countHeard_88, w_iastore (M := mX5_countHeard) dX5_countHeard_89, w_iinc6 (M := mX5_countHeard) (v := 1) dX5_countHeard_90 rfl (by decide), w_goto (M := mX5_countHeard) (tgt := 58) dX5_countHeard_93 (by decide), w_vret (M := mX5_countHeard) dX5_countHeard_96 rfl, Kn_v_, Kn_n_, kl_i_, kl_a_, kl_l_, kl_n_, s1_0_, s2_0_, s1_1, s1_2, s1_3, s1_4, s1_5, s1_6, s1_7, s1_8, s1_9, s1_10, s1_11, s1_12, s1_13, s1_14, s2_1, s2_2, s2_3, s2_4, s2_5, s2_6, s2_7, s2_8, s2_9, s2_10, s2_11, s2_12, s2_13, s2_14, List.map_nil, List.map_cons, List.sum_nil, List.sum_cons, ct_i_, ct_r_, ct_l_, t_si_, t_sl_, t_sr_, n_si_, n_sl_, n_sr_, i_si_, i_sl_, i_sr_, l_si_, l_sl_, l_sr_, r_si_, r_sl_, r_sr_, vr_s_, vr_n_, nz_0_, nz_1_, p1, p3, p4, p5, p8, p9, p10, f1, f2, ie, ce, hh, c0, c, show nI 0 = 0 from rfl]
  · have al := bN_al c0
    have lo : ∀ i, i < n → (∀ o4, WP d mX5_countHeard 58 [some (.ref p), some (.int (nI e)), some (.int (nI n)), some (.int (nI (bN F))), some (.int o4), some (.ref r), some (.int (nI i))] [] (s_w h r (cf (a_i h r) F e i)) Q = WP d mX5_countHeard 58 [some (.ref p), some (.int (nI e)), some (.int (nI n)), some (.int (nI (bN F))), some (.int o4), some (.ref r), some (.int (nI (i + 1)))] [] (s_w h r (cf (a_i h r) F e (i + 1))) Q) := by
      intro i hi o4
      have bt := bN_bit (f := F) (e := i) (by omega)
      have cs := cf_s (c := a_i h r) (F := F) (e := e) (i := i) (by omega) (by omega)
      have lt : (nI i < nI n) = True := nI_ltT hi (by omega)
      have ix := nI_f4 (f := i) (e := e) (by omega) (by omega)
      rw [w_iload_n3 (M := mX5_countHeard) dX5_countHeard_58]
      by_cases b : F i = true
      · rw [if_pos b] at cs bt
        rw [cs]
        simp [w_if_eq (M := mX5_countHeard) (tgt := 96) dX5_countHeard_59 (by decide), w_iload6 (M := mX5_countHeard) dX5_countHeard_62, w_iload_n2 (M := mX5_countHeard) dX5_countHeard_64, w_ic_ge (M := mX5_countHeard) (tgt := 96) dX5_countHeard_65 (by decide), w_iload_n3 (M := mX5_countHeard) dX5_countHeard_68, w_iload6 (M := mX5_countHeard) dX5_countHeard_69, w_ishr (M := mX5_countHeard) dX5_countHeard_71, w_iconst (M := mX5_countHeard) (v := 1) dX5_countHeard_72 rfl, w_iand (M := mX5_countHeard) dX5_countHeard_73, w_if_eq (M := mX5_countHeard) (tgt := 90) dX5_countHeard_74 (by decide), w_aload5 (M := mX5_countHeard) dX5_countHeard_77, w_iload6 (M := mX5_countHeard) dX5_countHeard_79, w_iconst (M := mX5_countHeard) (v := 4) dX5_countHeard_81 rfl, w_imul (M := mX5_countHeard) dX5_countHeard_82, w_iload_n1 (M := mX5_countHeard) dX5_countHeard_83, w_iadd (M := mX5_countHeard) dX5_countHeard_84, w_dup2 (M := mX5_countHeard) dX5_countHeard_85, w_iaload (M := mX5_countHeard) dX5_countHeard_86, w_iconst (M := mX5_countHeard) (v := 1) dX5_countHeard_87 rfl, w_iadd (M := mX5_countHeard) dX5_countHeard_88, w_iastore (M := mX5_countHeard) dX5_countHeard_89, w_iinc6 (M := mX5_countHeard) (v := 1) dX5_countHeard_90 rfl (by decide), w_goto (M := mX5_countHeard) (tgt := 58) dX5_countHeard_93 (by decide), Kn_v_, Kn_n_, kl_i_, kl_a_, kl_l_, kl_n_, s1_0_, s2_0_, s1_1, s1_2, s1_3, s1_4, s1_5, s1_6, s1_7, s1_8, s1_9, s1_10, s1_11, s1_12, s1_13, s1_14, s2_1, s2_2, s2_3, s2_4, s2_5, s2_6, s2_7, s2_8, s2_9, s2_10, s2_11, s2_12, s2_13, s2_14, List.map_nil, List.map_cons, List.sum_nil, List.sum_cons, ct_i_, ct_r_, ct_l_, t_si_, t_sl_, t_sr_, n_si_, n_sl_, n_sr_, i_si_, i_sl_, i_sr_, l_si_, l_sl_, l_sr_, r_si_, r_sl_, r_sr_, vr_s_, vr_n_, nz_0_, nz_1_, hz, c0, lt, bt, ix, t_sw_, rt, in1_n (k := 4 * i + e) (n := 16) (by omega), show 4 * i + e < 16 by omega, nI_c (a := 4 * i + e) (by omega), i_sw_, si_sw, nI_s]
      · rw [if_neg b] at cs bt
        rw [cs]
        simp [w_if_eq (M := mX5_countHeard) (tgt := 96) dX5_countHeard_59 (by decide), w_iload6 (M := mX5_countHeard) dX5_countHeard_62, w_iload_n2 (M := mX5_countHeard) dX5_countHeard_64, w_ic_ge (M := mX5_countHeard) (tgt := 96) dX5_countHeard_65 (by decide), w_iload_n3 (M := mX5_countHeard) dX5_countHeard_68, w_iload6 (M := mX5_countHeard) dX5_countHeard_69, w_ishr (M := mX5_countHeard) dX5_countHeard_71, w_iconst (M := mX5_countHeard) (v := 1) dX5_countHeard_72 rfl, w_iand (M := mX5_countHeard) dX5_countHeard_73, w_if_eq (M := mX5_countHeard) (tgt := 90) dX5_countHeard_74 (by decide), w_aload5 (M := mX5_countHeard) dX5_countHeard_77, w_iload6 (M := mX5_countHeard) dX5_countHeard_79, w_iconst (M := mX5_countHeard) (v := 4) dX5_countHeard_81 rfl, w_imul (M := mX5_countHeard) dX5_countHeard_82, w_iload_n1 (M := mX5_countHeard) dX5_countHeard_83, w_iadd (M := mX5_countHeard) dX5_countHeard_84, w_dup2 (M := mX5_countHeard) dX5_countHeard_85, w_iaload (M := mX5_countHeard) dX5_countHeard_86, w_iconst (M := mX5_countHeard) (v := 1) dX5_countHeard_87 rfl, w_iadd (M := mX5_countHeard) dX5_countHeard_88, w_iastore (M := mX5_countHeard) dX5_countHeard_89, w_iinc6 (M := mX5_countHeard) (v := 1) dX5_countHeard_90 rfl (by decide), w_goto (M := mX5_countHeard) (tgt := 58) dX5_countHeard_93 (by decide), Kn_v_, Kn_n_, kl_i_, kl_a_, kl_l_, kl_n_, s1_0_, s2_0_, s1_1, s1_2, s1_3, s1_4, s1_5, s1_6, s1_7, s1_8, s1_9, s1_10, s1_11, s1_12, s1_13, s1_14, s2_1, s2_2, s2_3, s2_4, s2_5, s2_6, s2_7, s2_8, s2_9, s2_10, s2_11, s2_12, s2_13, s2_14, List.map_nil, List.map_cons, List.sum_nil, List.sum_cons, ct_i_, ct_r_, ct_l_, t_si_, t_sl_, t_sr_, n_si_, n_sl_, n_sr_, i_si_, i_sl_, i_sr_, l_si_, l_sl_, l_sr_, r_si_, r_sl_, r_sr_, vr_s_, vr_n_, nz_0_, nz_1_, hz, c0, lt, bt, nI_s]
    have key := fun o4 => lq (n := n) (W := fun i => WP d mX5_countHeard 58 [some (.ref p), some (.int (nI e)), some (.int (nI n)), some (.int (nI (bN F))), some (.int o4), some (.ref r), some (.int (nI i))] [] (s_w h r (cf (a_i h r) F e i)) Q) (fun i hi => lo i hi o4) n 0 (by omega)
    have en : ∀ o4, WP d mX5_countHeard 58 [some (.ref p), some (.int (nI e)), some (.int (nI n)), some (.int (nI (bN F))), some (.int o4), some (.ref r), some (.int (nI 0))] [] h Q = Q none (s_w h r (cf (a_i h r) F e n)) := by
      intro o4
      have k2 := key o4
      simp only [cf_0, sw_self] at k2
      rw [k2]
      rw [w_iload_n3 (M := mX5_countHeard) dX5_countHeard_58]
      simp [w_if_eq (M := mX5_countHeard) (tgt := 96) dX5_countHeard_59 (by decide), w_iload6 (M := mX5_countHeard) dX5_countHeard_62, w_iload_n2 (M := mX5_countHeard) dX5_countHeard_64, w_ic_ge (M := mX5_countHeard) (tgt := 96) dX5_countHeard_65 (by decide), w_iload_n3 (M := mX5_countHeard) dX5_countHeard_68, w_iload6 (M := mX5_countHeard) dX5_countHeard_69, w_ishr (M := mX5_countHeard) dX5_countHeard_71, w_iconst (M := mX5_countHeard) (v := 1) dX5_countHeard_72 rfl, w_iand (M := mX5_countHeard) dX5_countHeard_73, w_if_eq (M := mX5_countHeard) (tgt := 90) dX5_countHeard_74 (by decide), w_aload5 (M := mX5_countHeard) dX5_countHeard_77, w_iload6 (M := mX5_countHeard) dX5_countHeard_79, w_iconst (M := mX5_countHeard) (v := 4) dX5_countHeard_81 rfl, w_imul (M := mX5_countHeard) dX5_countHeard_82, w_iload_n1 (M := mX5_countHeard) dX5_countHeard_83, w_iadd (M := mX5_countHeard) dX5_countHeard_84, w_dup2 (M := mX5_countHeard) dX5_countHeard_85, w_iaload (M := mX5_countHeard) dX5_countHeard_86, w_iconst (M := mX5_countHeard) (v := 1) dX5_countHeard_87 rfl, w_iadd (M := mX5_countHeard) dX5_countHeard_88, w_iastore (M := mX5_countHeard) dX5_countHeard_89, w_iinc6 (M := mX5_countHeard) (v := 1) dX5_countHeard_90 rfl (by decide), w_goto (M := mX5_countHeard) (tgt := 58) dX5_countHeard_93 (by decide), w_vret (M := mX5_countHeard) dX5_countHeard_96 rfl, Kn_v_, Kn_n_, kl_i_, kl_a_, kl_l_, kl_n_, s1_0_, s2_0_, s1_1, s1_2, s1_3, s1_4, s1_5, s1_6, s1_7, s1_8, s1_9, s1_10, s1_11, s1_12, s1_13, s1_14, s2_1, s2_2, s2_3, s2_4, s2_5, s2_6, s2_7, s2_8, s2_9, s2_10, s2_11, s2_12, s2_13, s2_14, List.map_nil, List.map_cons, List.sum_nil, List.sum_cons, ct_i_, ct_r_, ct_l_, t_si_, t_sl_, t_sr_, n_si_, n_sl_, n_sr_, i_si_, i_sl_, i_sr_, l_si_, l_sl_, l_sr_, r_si_, r_sl_, r_sr_, vr_s_, vr_n_, nz_0_, nz_1_, hz, c0, show (nI n < nI n) = False from nI_ltF (Nat.le_refl _) (by omega)]
    have e0 : nI 0 = 0 := rfl
    rw [e0] at en
    unfold Cal
    rw [l_X5_countHeard]
    simp only [am_en, am_ag, ct_i, ct_r, ct_l, List.length_cons, List.length_nil, List.replicate]
    by_cases c1 : one4 F = true
    · have al1 := eq_true (al ▸ c1 : nI (bN F) &&& (nI (bN F) - 1) = 0)
      by_cases c2 : a_i h (p + 5 + e) 0 = 0
      · rw [if_pos ⟨c1, c2⟩] at hr
        subst hr
        simp [w_aload_n0 (M := mX5_countHeard) dX5_countHeard_0, w_getA (M := mX5_countHeard) dX5_countHeard_1 f_5_27 rfl (by decide) (by decide), w_iload_n1 (M := mX5_countHeard) dX5_countHeard_4, w_aaload (M := mX5_countHeard) dX5_countHeard_5, w_getI (M := mX5_countHeard) dX5_countHeard_6 f_5_83 rfl (by decide) (by decide), w_istore_n (M := mX5_countHeard) (i := 3) dX5_countHeard_9 rfl (by decide), w_iload_n3 (M := mX5_countHeard) dX5_countHeard_10, w_iload_n3 (M := mX5_countHeard) dX5_countHeard_11, w_iconst (M := mX5_countHeard) (v := 1) dX5_countHeard_12 rfl, w_isub (M := mX5_countHeard) dX5_countHeard_13, w_iand (M := mX5_countHeard) dX5_countHeard_14, w_if_ne (M := mX5_countHeard) (tgt := 22) dX5_countHeard_15 (by decide), w_iconst (M := mX5_countHeard) (v := 1) dX5_countHeard_18 rfl, w_goto (M := mX5_countHeard) (tgt := 23) dX5_countHeard_19 (by decide), w_iconst (M := mX5_countHeard) (v := 0) dX5_countHeard_22 rfl, w_istore (M := mX5_countHeard) dX5_countHeard_23 (by decide), w_iload4 (M := mX5_countHeard) dX5_countHeard_25, w_if_eq (M := mX5_countHeard) (tgt := 49) dX5_countHeard_27 (by decide), w_aload_n0 (M := mX5_countHeard) dX5_countHeard_30, w_getA (M := mX5_countHeard) dX5_countHeard_31 f_5_27 rfl (by decide) (by decide), w_iload_n1 (M := mX5_countHeard) dX5_countHeard_34, w_aaload (M := mX5_countHeard) dX5_countHeard_35, w_getZ (M := mX5_countHeard) dX5_countHeard_36 f_5_61 rfl (by decide) (by decide), w_if_ne (M := mX5_countHeard) (tgt := 49) dX5_countHeard_39 (by decide), w_aload_n0 (M := mX5_countHeard) dX5_countHeard_42, w_getA (M := mX5_countHeard) dX5_countHeard_43 f_5_19 rfl (by decide) (by decide), w_goto (M := mX5_countHeard) (tgt := 53) dX5_countHeard_46 (by decide), w_aload_n0 (M := mX5_countHeard) dX5_countHeard_49, w_getA (M := mX5_countHeard) dX5_countHeard_50 f_5_22 rfl (by decide) (by decide), w_astore (M := mX5_countHeard) dX5_countHeard_53 (by decide), w_iconst (M := mX5_countHeard) (v := 0) dX5_countHeard_55 rfl, w_istore (M := mX5_countHeard) dX5_countHeard_56 (by decide), Kn_v_, Kn_n_, kl_i_, kl_a_, kl_l_, kl_n_, s1_0_, s2_0_, s1_1, s1_2, s1_3, s1_4, s1_5, s1_6, s1_7, s1_8, s1_9, s1_10, s1_11, s1_12, s1_13, s1_14, s2_1, s2_2, s2_3, s2_4, s2_5, s2_6, s2_7, s2_8, s2_9, s2_10, s2_11, s2_12, s2_13, s2_14, List.map_nil, List.map_cons, List.sum_nil, List.sum_cons, ct_i_, ct_r_, ct_l_, t_si_, t_sl_, t_sr_, n_si_, n_sl_, n_sr_, i_si_, i_sl_, i_sr_, l_si_, l_sl_, l_sr_, r_si_, r_sl_, r_sr_, vr_s_, vr_n_, nz_0_, nz_1_, p1, p3, p4, p5, p8, p9, p10, f1, f2, ie, ce, hh, al1, c2, en]
      · rw [if_neg (fun z => c2 z.2)] at hr
        subst hr
        simp [w_aload_n0 (M := mX5_countHeard) dX5_countHeard_0, w_getA (M := mX5_countHeard) dX5_countHeard_1 f_5_27 rfl (by decide) (by decide), w_iload_n1 (M := mX5_countHeard) dX5_countHeard_4, w_aaload (M := mX5_countHeard) dX5_countHeard_5, w_getI (M := mX5_countHeard) dX5_countHeard_6 f_5_83 rfl (by decide) (by decide), w_istore_n (M := mX5_countHeard) (i := 3) dX5_countHeard_9 rfl (by decide), w_iload_n3 (M := mX5_countHeard) dX5_countHeard_10, w_iload_n3 (M := mX5_countHeard) dX5_countHeard_11, w_iconst (M := mX5_countHeard) (v := 1) dX5_countHeard_12 rfl, w_isub (M := mX5_countHeard) dX5_countHeard_13, w_iand (M := mX5_countHeard) dX5_countHeard_14, w_if_ne (M := mX5_countHeard) (tgt := 22) dX5_countHeard_15 (by decide), w_iconst (M := mX5_countHeard) (v := 1) dX5_countHeard_18 rfl, w_goto (M := mX5_countHeard) (tgt := 23) dX5_countHeard_19 (by decide), w_iconst (M := mX5_countHeard) (v := 0) dX5_countHeard_22 rfl, w_istore (M := mX5_countHeard) dX5_countHeard_23 (by decide), w_iload4 (M := mX5_countHeard) dX5_countHeard_25, w_if_eq (M := mX5_countHeard) (tgt := 49) dX5_countHeard_27 (by decide), w_aload_n0 (M := mX5_countHeard) dX5_countHeard_30, w_getA (M := mX5_countHeard) dX5_countHeard_31 f_5_27 rfl (by decide) (by decide), w_iload_n1 (M := mX5_countHeard) dX5_countHeard_34, w_aaload (M := mX5_countHeard) dX5_countHeard_35, w_getZ (M := mX5_countHeard) dX5_countHeard_36 f_5_61 rfl (by decide) (by decide), w_if_ne (M := mX5_countHeard) (tgt := 49) dX5_countHeard_39 (by decide), w_aload_n0 (M := mX5_countHeard) dX5_countHeard_42, w_getA (M := mX5_countHeard) dX5_countHeard_43 f_5_19 rfl (by decide) (by decide), w_goto (M := mX5_countHeard) (tgt := 53) dX5_countHeard_46 (by decide), w_aload_n0 (M := mX5_countHeard) dX5_countHeard_49, w_getA (M := mX5_countHeard) dX5_countHeard_50 f_5_22 rfl (by decide) (by decide), w_astore (M := mX5_countHeard) dX5_countHeard_53 (by decide), w_iconst (M := mX5_countHeard) (v := 0) dX5_countHeard_55 rfl, w_istore (M := mX5_countHeard) dX5_countHeard_56 (by decide), Kn_v_, Kn_n_, kl_i_, kl_a_, kl_l_, kl_n_, s1_0_, s2_0_, s1_1, s1_2, s1_3, s1_4, s1_5, s1_6, s1_7, s1_8, s1_9, s1_10, s1_11, s1_12, s1_13, s1_14, s2_1, s2_2, s2_3, s2_4, s2_5, s2_6, s2_7, s2_8, s2_9, s2_10, s2_11, s2_12, s2_13, s2_14, List.map_nil, List.map_cons, List.sum_nil, List.sum_cons, ct_i_, ct_r_, ct_l_, t_si_, t_sl_, t_sr_, n_si_, n_sl_, n_sr_, i_si_, i_sl_, i_sr_, l_si_, l_sl_, l_sr_, r_si_, r_sl_, r_sr_, vr_s_, vr_n_, nz_0_, nz_1_, p1, p3, p4, p5, p8, p9, p10, f1, f2, ie, ce, hh, al1, c2, en]
    · have al1 := eq_false (fun z => c1 (al ▸ z) : ¬ nI (bN F) &&& (nI (bN F) - 1) = 0)
      rw [if_neg (fun z => c1 z.1)] at hr
      subst hr
      simp [w_aload_n0 (M := mX5_countHeard) dX5_countHeard_0, w_getA (M := mX5_countHeard) dX5_countHeard_1 f_5_27 rfl (by decide) (by decide), w_iload_n1 (M := mX5_countHeard) dX5_countHeard_4, w_aaload (M := mX5_countHeard) dX5_countHeard_5, w_getI (M := mX5_countHeard) dX5_countHeard_6 f_5_83 rfl (by decide) (by decide), w_istore_n (M := mX5_countHeard) (i := 3) dX5_countHeard_9 rfl (by decide), w_iload_n3 (M := mX5_countHeard) dX5_countHeard_10, w_iload_n3 (M := mX5_countHeard) dX5_countHeard_11, w_iconst (M := mX5_countHeard) (v := 1) dX5_countHeard_12 rfl, w_isub (M := mX5_countHeard) dX5_countHeard_13, w_iand (M := mX5_countHeard) dX5_countHeard_14, w_if_ne (M := mX5_countHeard) (tgt := 22) dX5_countHeard_15 (by decide), w_iconst (M := mX5_countHeard) (v := 1) dX5_countHeard_18 rfl, w_goto (M := mX5_countHeard) (tgt := 23) dX5_countHeard_19 (by decide), w_iconst (M := mX5_countHeard) (v := 0) dX5_countHeard_22 rfl, w_istore (M := mX5_countHeard) dX5_countHeard_23 (by decide), w_iload4 (M := mX5_countHeard) dX5_countHeard_25, w_if_eq (M := mX5_countHeard) (tgt := 49) dX5_countHeard_27 (by decide), w_aload_n0 (M := mX5_countHeard) dX5_countHeard_30, w_getA (M := mX5_countHeard) dX5_countHeard_31 f_5_27 rfl (by decide) (by decide), w_iload_n1 (M := mX5_countHeard) dX5_countHeard_34, w_aaload (M := mX5_countHeard) dX5_countHeard_35, w_getZ (M := mX5_countHeard) dX5_countHeard_36 f_5_61 rfl (by decide) (by decide), w_if_ne (M := mX5_countHeard) (tgt := 49) dX5_countHeard_39 (by decide), w_aload_n0 (M := mX5_countHeard) dX5_countHeard_42, w_getA (M := mX5_countHeard) dX5_countHeard_43 f_5_19 rfl (by decide) (by decide), w_goto (M := mX5_countHeard) (tgt := 53) dX5_countHeard_46 (by decide), w_aload_n0 (M := mX5_countHeard) dX5_countHeard_49, w_getA (M := mX5_countHeard) dX5_countHeard_50 f_5_22 rfl (by decide) (by decide), w_astore (M := mX5_countHeard) dX5_countHeard_53 (by decide), w_iconst (M := mX5_countHeard) (v := 0) dX5_countHeard_55 rfl, w_istore (M := mX5_countHeard) dX5_countHeard_56 (by decide), Kn_v_, Kn_n_, kl_i_, kl_a_, kl_l_, kl_n_, s1_0_, s2_0_, s1_1, s1_2, s1_3, s1_4, s1_5, s1_6, s1_7, s1_8, s1_9, s1_10, s1_11, s1_12, s1_13, s1_14, s2_1, s2_2, s2_3, s2_4, s2_5, s2_6, s2_7, s2_8, s2_9, s2_10, s2_11, s2_12, s2_13, s2_14, List.map_nil, List.map_cons, List.sum_nil, List.sum_cons, ct_i_, ct_r_, ct_l_, t_si_, t_sl_, t_sr_, n_si_, n_sl_, n_sr_, i_si_, i_sl_, i_sr_, l_si_, l_sl_, l_sr_, r_si_, r_sl_, r_sr_, vr_s_, vr_n_, nz_0_, nz_1_, p1, p3, p4, p5, p8, p9, p10, f1, f2, ie, ce, hh, al1, en]
/-- counted, and what it did put behind: one more end -/
theorem cK.nx (hm : mpB m p B) (K : cK m p h0 h (CNT s H j)) (hj : j < n) (hn : n ≤ 4) (hH : ∀ f, n ≤ f → H j f = false) (h01 : s 1 j = 0 ∨ s 1 j = 1) (hr : r = if one4 (H j) = true ∧ s 1 j = 0 then p + 2 else p + 3) : cK m p h0 (s_l (s_w h r (cf (a_i h r) (H j) j n)) (p + 5 + j) 13 (a_l h (p + 5 + j) 13 <<< (1 : Int64) ||| (if decide (s 1 j = 1) = true then 1 else 0))) (CNT s H (j + 1)) := by
  obtain ⟨k1, k2, k3, k4, k5⟩ := K
  have rr : r = p + 2 ∨ r = p + 3 := by
    rw [hr]
    split
    · exact Or.inl rfl
    · exact Or.inr rfl
  have nr : ∀ q, ¬ (q = p + 2 ∨ q = p + 3) → a_i (s_w h r (cf (a_i h r) (H j) j n)) q = a_i h q := fun q hq => iwn (by omega)
  have cn0 : ∀ c i, ¬ c = 8 → ¬ c = 9 → ¬ (30 ≤ c ∧ c < 34) → CNT s H (j + 1) c i = CNT s H j c i := by
    intro c i h1 h2 h3
    unfold CNT
    rw [if_neg h1, if_neg h2, if_neg (by omega), if_neg h1, if_neg h2, if_neg (by omega)]
  have cs : ∀ c i, ¬ c = 8 → ¬ c = 9 → ¬ (30 ≤ c ∧ c < 34) → CNT s H j c i = s c i := by
    intro c i h1 h2 h3
    unfold CNT
    rw [if_neg h1, if_neg h2, if_neg (by omega)]
  have s10 : (s 1 j = 0) = ¬ s 1 j = 1 := by
    rcases h01 with z | z <;> rw [z] <;> decide
  have cl : clrB s H j = true ↔ (one4 (H j) = true ∧ s 1 j = 0) := by
    unfold clrB
    rw [s10]
    simp
  refine ⟨k1.tr ⟨rfl, rfl, rfl⟩, ?_, fun z => ?_, fun q i c => ?_, fun q i c => ?_⟩
  · obtain ⟨⟨m0, m1, m2, m3, m4⟩, m5, m6⟩ := k2
    show rM (a_i (s_w h r (cf (a_i h r) (H j) j n))) _ p _
    refine ⟨⟨?_, ?_, ?_, ?_, ?_⟩, fun k hk => ?_, fun e he => ?_⟩
    · rw [nr p (by omega), cn0 _ _ (by omega) (by omega) (by omega)]; exact m0
    · rw [nr p (by omega), cn0 _ _ (by omega) (by omega) (by omega)]; exact m1
    · rw [nr p (by omega), cn0 _ _ (by omega) (by omega) (by omega)]; exact m2
    · rw [nr p (by omega), cn0 _ _ (by omega) (by omega) (by omega)]; exact m3
    · rw [nr p (by omega), cn0 _ _ (by omega) (by omega) (by omega)]; exact m4
    · obtain ⟨y1, y2, y3⟩ := m5 k hk
      have u8 : CNT s H (j + 1) 8 k = if k < 16 ∧ k % 4 < j + 1 ∧ H (k % 4) (k / 4) = true ∧ clrB s H (k % 4) = true then s 8 k + 1 else s 8 k := if_pos rfl
      have u9 : CNT s H (j + 1) 9 k = if k < 16 ∧ k % 4 < j + 1 ∧ H (k % 4) (k / 4) = true ∧ ¬ clrB s H (k % 4) = true then s 9 k + 1 else s 9 k := by
        unfold CNT; rw [if_neg (by omega), if_pos rfl]
      have v8 : CNT s H j 8 k = if k < 16 ∧ k % 4 < j ∧ H (k % 4) (k / 4) = true ∧ clrB s H (k % 4) = true then s 8 k + 1 else s 8 k := if_pos rfl
      have v9 : CNT s H j 9 k = if k < 16 ∧ k % 4 < j ∧ H (k % 4) (k / 4) = true ∧ ¬ clrB s H (k % 4) = true then s 9 k + 1 else s 9 k := by
        unfold CNT; rw [if_neg (by omega), if_pos rfl]
      rw [nr (p + 1) (by omega), cn0 7 k (by omega) (by omega) (by omega)]
      refine ⟨y1, ?_, ?_⟩
      · by_cases c : one4 (H j) = true ∧ s 1 j = 0
        · rw [if_pos c] at hr
          subst hr
          rw [iwe rfl, u8]
          unfold cf
          rw [y2, v8]
          by_cases c2 : k % 4 = j
          · rw [c2]
            by_cases c3 : H j (k / 4) = true
            · have c4 : k / 4 < n := by
                by_cases w : k / 4 < n
                · exact w
                · rw [hH _ (by omega)] at c3; exact absurd c3 (by decide)
              rw [if_pos ⟨hk, rfl, c4, c3⟩, if_neg (fun w => absurd w.2.1 (by omega)), if_pos ⟨hk, by omega, c3, cl.mpr c⟩]
            · rw [if_neg (fun w => c3 w.2.2.2), if_neg (fun w => c3 w.2.2.1), if_neg (fun w => c3 w.2.2.1)]
          · rw [if_neg (fun w => c2 w.2.1)]
            have : (k % 4 < j + 1) = (k % 4 < j) := propext ⟨fun _ => by omega, fun _ => by omega⟩
            simp only [this]
        · rw [if_neg c] at hr
          subst hr
          rw [iwn (by omega), u8, y2, v8]
          by_cases c2 : k % 4 = j
          · rw [c2, if_neg (fun w => absurd w.2.1 (by omega)), if_neg (fun w => c (cl.mp w.2.2.2))]
          · have : (k % 4 < j + 1) = (k % 4 < j) := propext ⟨fun _ => by omega, fun _ => by omega⟩
            simp only [this]
      · by_cases c : one4 (H j) = true ∧ s 1 j = 0
        · rw [if_pos c] at hr
          subst hr
          rw [iwn (by omega), u9, y3, v9]
          by_cases c2 : k % 4 = j
          · rw [c2, if_neg (fun w => absurd w.2.1 (by omega)), if_neg (fun w => w.2.2.2 (cl.mpr c))]
          · have : (k % 4 < j + 1) = (k % 4 < j) := propext ⟨fun _ => by omega, fun _ => by omega⟩
            simp only [this]
        · rw [if_neg c] at hr
          subst hr
          rw [iwe rfl, u9]
          unfold cf
          rw [y3, v9]
          by_cases c2 : k % 4 = j
          · rw [c2]
            by_cases c3 : H j (k / 4) = true
            · have c4 : k / 4 < n := by
                by_cases w : k / 4 < n
                · exact w
                · rw [hH _ (by omega)] at c3; exact absurd c3 (by decide)
              rw [if_pos ⟨hk, rfl, c4, c3⟩, if_neg (fun w => absurd w.2.1 (by omega)), if_pos ⟨hk, by omega, c3, fun w => c (cl.mp w)⟩]
            · rw [if_neg (fun w => c3 w.2.2.2), if_neg (fun w => c3 w.2.2.1), if_neg (fun w => c3 w.2.2.1)]
          · rw [if_neg (fun w => c2 w.2.1)]
            have : (k % 4 < j + 1) = (k % 4 < j) := propext ⟨fun _ => by omega, fun _ => by omega⟩
            simp only [this]
    · have hz := m6 e he
      unfold rMe at hz ⊢
      rw [nr (p + 5 + e) (by omega)]
      obtain ⟨z1, z2, z3, z4, z5, z6, z7, z8, z9, z10, z11⟩ := hz
      rw [cn0 1 e (by omega) (by omega) (by omega), cn0 2 e (by omega) (by omega) (by omega), cn0 3 e (by omega) (by omega) (by omega), cn0 4 e (by omega) (by omega) (by omega), cn0 5 e (by omega) (by omega) (by omega), cn0 6 e (by omega) (by omega) (by omega), cn0 18 e (by omega) (by omega) (by omega), cn0 19 e (by omega) (by omega) (by omega), cn0 20 e (by omega) (by omega) (by omega), cn0 21 e (by omega) (by omega) (by omega), cn0 22 e (by omega) (by omega) (by omega), cn0 23 e (by omega) (by omega) (by omega)]
      refine ⟨z1, z2, z3, z4, z5, z6, z7, z8, z9, z10, fun k hk => ?_⟩
      by_cases c : e = j
      · subst c
        rw [leq rfl rfl, shl1 hk]
        have u : CNT s H (e + 1) (30 + e) k = if k = 0 then s 1 e else s (30 + e) (k - 1) := by
          unfold CNT
          rw [if_neg (by omega), if_neg (by omega), if_pos ⟨by omega, by omega, by omega⟩, show 30 + e - 30 = e by omega]
        have v : ∀ k, CNT s H e (30 + e) k = s (30 + e) k := by
          intro k
          unfold CNT
          rw [if_neg (by omega), if_neg (by omega), if_neg (by omega)]
        rw [u]
        by_cases c2 : k = 0
        · rw [if_pos c2, if_pos c2]
          simp
        · rw [if_neg c2, if_neg c2, z11 _ (by omega), v]
      · rw [ln (by omega)]
        have u : CNT s H (j + 1) (30 + e) k = CNT s H j (30 + e) k := by
          have v : ∀ j', CNT s H j' (30 + e) k = if e < j' then (if k = 0 then s 1 e else s (30 + e) (k - 1)) else s (30 + e) k := by
            intro j'
            unfold CNT
            rw [if_neg (by omega), if_neg (by omega)]
            by_cases c2 : e < j'
            · rw [if_pos ⟨by omega, by omega, by omega⟩, if_pos c2, show 30 + e - 30 = e by omega]
            · rw [if_neg (by omega), if_neg c2]
          rw [v, v]
          by_cases c2 : e < j
          · rw [if_pos (show e < j + 1 by omega), if_pos c2]
          · rw [if_neg (show ¬ e < j + 1 by omega), if_neg c2]
        rw [u]
        exact z11 k hk
  · refine rBk_s (s := CNT s H j) (fun c i hc => cn0 c i (by omega) (by omega) (by omega)) ?_
    exact rBk_fr (fun k i hk => by
      show a_i (s_w h r (cf (a_i h r) (H j) j n)) _ i = _
      rw [nr _ (by unfold mpB at hm; omega)]) (k3 z)
  · show a_i (s_w h r (cf (a_i h r) (H j) j n)) q i = _
    rw [nr _ (fun z => c (by unfold tch; omega))]
    exact k4 q i c
  · rw [ln (by omega)]
    exact k5 q i c
end COUNT
