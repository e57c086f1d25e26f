section OPS6
variable {X : PX} {d : Nat} {h : am_h}
theorem cn_eq {g : Nat → Int32} {e n : Nat} {k : Int32} (hn : Nn (g 165) = n) (hm : n ≤ 90) : cn (dec g 90) e k = itr (fun i s => s + (if g (166 + 5 * i) = nI e ∧ (k = -1 ∨ g (166 + 5 * i + 4) = k) then 1 else 0)) 0 n 0 := by
  unfold cn
  rw [dec_3, show 90 + 75 = 165 from rfl, hn]
  refine itr_congr (n := n) (I := fun _ _ => True) (fun _ _ _ _ => trivial) (fun i s hi _ => ?_) n 0 0 (by omega) trivial
  rw [dec_c10 (by omega), dec_c14 (by omega)]
/-- an end's cell, side by side -/
theorem Inv.n (k : Inv X h) {e : Nat} (he : e < 4) : a_i h (12 + e) 0 = a_i h 127 (93 + e) ∧ a_i h (12 + e) 1 = a_i h 127 (97 + e) ∧ a_i h (12 + e) 2 = a_i h 127 (101 + e) ∧ a_i h (12 + e) 3 = a_i h 127 (105 + e) ∧ a_i h (12 + e) 5 = a_i h 127 (109 + e) ∧ a_i h (12 + e) 6 = a_i h 127 (113 + e) ∧ a_i h (12 + e) 10 = cn (dec (a_i h 127) 90) e (-1) ∧ a_i h (12 + e) 11 = cn (dec (a_i h 127) 90) e 2 ∧ a_i h (12 + e) 12 = lend (dec (a_i h 127) 90) e := by
  have z := k.2.1.2.1.2.2.2.2.2.2 e he
  unfold rEn at z
  obtain ⟨z1, z2, z3, z4, z5, z6, z7, z8, z9, _⟩ := z
  rw [dec_c1 he] at z1
  rw [dec_c2 he] at z2
  rw [dec_c3 he] at z3
  rw [dec_c4 he] at z4
  rw [dec_c5 he] at z5
  rw [dec_c6 he] at z6
  exact ⟨z1, z2, z3, z4, z5, z6, z7, z8, z9⟩
theorem Inv.sp (k : Inv X h) {e : Nat} (he : e < 4) : a_i h 127 (93 + e) = 0 ∨ a_i h 127 (93 + e) = 1 := by
  have z := (k.2.1.2.2.2.2.1.2.2.2.2.1 e he).1
  rw [dec_c1 he] at z
  exact z
/-- the ends of the line now, by number -/
theorem shE (hC : sh_C (a_t h) (a_r h)) {e : Nat} (he : e < 4) : a_r h 11 e = some (12 + e) ∧ a_t h (12 + e) = (3, 14) := by
  have : e = 0 ∨ e = 1 ∨ e = 2 ∨ e = 3 := by omega
  rcases this with rfl | rfl | rfl | rfl <;> simp [hC.e]
theorem i_lt {a b : Int32} : (a < b) = (a.toInt < b.toInt) := propext Int32.lt_iff_toInt_lt
theorem sub_i {v : Int32} {a : Nat} (ha : a < 1000) (hv : (a : Int) ≤ v.toInt) : (v - nI a).toInt = v.toInt - a := by
  have h1 := Int32.toInt_lt v
  rw [Int32.toInt_sub, nI_i (by omega), Int.bmod_eq_of_le] <;> omega
set_option maxRecDepth 20000 in
set_option maxHeartbeats 4000000 in
theorem op_of (k : Inv X h) {v0 v1 : Int32} : opS X (d + 2) mX11_of mX12_of [.ref 0, .int v0, .int v1] [.ref 126, .int v0, .int v1] h := by
  have hC := k.1.1
  have hR := k.1.2.1
  refine both0.S ?_ k
  obtain ⟨n, e1, e2, e3⟩ := k.N
  obtain ⟨T, t1, t2, t3⟩ := k.T
  by_cases c : inn v0 0 (a_i h 127 0 - 1) = true
  · obtain ⟨a, a1, rfl⟩ := inn_ix (n := n) (by omega) (by rw [e1] at c; exact c)
    have hn := k.n (e := a) (by omega)
    have ho := k.o (e := a) (by omega)
    have hs := k.sp (e := a) (by omega)
    rw [cn_eq t3 t2, cn_eq t3 t2] at hn
    have q0 : ∀ Q : Option Value → am_h → Prop, Cal (d + 2) mX12_of [.ref 126, .int (nI a), .int v1] h Q = Q (some (.int (if v1 = 4 then a_i h 127 (93 + a) else if v1 = 5 then a_i h 127 (97 + a) else if v1 = 6 then a_i h 127 (101 + a) else if v1 = 7 then a_i h 127 (105 + a) else if v1 = 8 then a_i h 127 (109 + a) else if v1 = 9 then itr (fun i s => s + (if a_i h 127 (166 + 5 * i) = nI a ∧ ((-1 : Int32) = -1 ∨ a_i h 127 (166 + 5 * i + 4) = -1) then 1 else 0)) 0 T 0 else if v1 = 10 then itr (fun i s => s + (if a_i h 127 (166 + 5 * i) = nI a ∧ ((2 : Int32) = -1 ∨ a_i h 127 (166 + 5 * i + 4) = 2) then 1 else 0)) 0 T 0 else if inn v1 0 3 = true then a_i h 127 (12 + 4 * a + Nn v1) else if inn v1 20 (19 + a_i h 127 0) = true then a_i h 127 (117 + 4 * Nn (v1 - 20) + a) else -2))) h := by
      intro Q
      have i1 : (93 + nI a).toNatClampNeg = 93 + a := ix_a (a := 93) (by omega)
      have i2 : (0 ≤ 93 + nI a) = True := ip_a (a := 93) (by omega)
      have i3 : (97 + nI a).toNatClampNeg = 97 + a := ix_a (a := 97) (by omega)
      have i4 : (0 ≤ 97 + nI a) = True := ip_a (a := 97) (by omega)
      have i5 : (101 + nI a).toNatClampNeg = 101 + a := ix_a (a := 101) (by omega)
      have i6 : (0 ≤ 101 + nI a) = True := ip_a (a := 101) (by omega)
      have i7 : (105 + nI a).toNatClampNeg = 105 + a := ix_a (a := 105) (by omega)
      have i8 : (0 ≤ 105 + nI a) = True := ip_a (a := 105) (by omega)
      have i9 : (109 + nI a).toNatClampNeg = 109 + a := ix_a (a := 109) (by omega)
      have i10 : (0 ≤ 109 + nI a) = True := ip_a (a := 109) (by omega)
      unfold Cal
      rw [l_X12_of]
      simp only [am_en, am_ag, ct_i, ct_r, ct_l, List.length_cons, List.length_nil, List.replicate]
      simp [w_aload_n0 (M := mX12_of) dX12_of_0, w_iload_n1 (M := mX12_of) dX12_of_1, c_12_185 (M := mX12_of) dX12_of_2 rfl, w_if_ne (M := mX12_of) (tgt := 11) dX12_of_5 (by decide), w_bipush (M := mX12_of) (v := (-2)) dX12_of_8 rfl, w_iret (M := mX12_of) dX12_of_10 rfl, w_iload_n2 (M := mX12_of) dX12_of_11, sw_X12_of_12, w_aload_n0 (M := mX12_of) dX12_of_56, w_getA (M := mX12_of) dX12_of_57 f_12_7 rfl (by decide) (by decide), w_bipush (M := mX12_of) (v := 93) dX12_of_60 rfl, w_iload_n1 (M := mX12_of) dX12_of_62, w_iadd (M := mX12_of) dX12_of_63, w_iaload (M := mX12_of) dX12_of_64, w_iret (M := mX12_of) dX12_of_65 rfl, w_aload_n0 (M := mX12_of) dX12_of_66, w_getA (M := mX12_of) dX12_of_67 f_12_7 rfl (by decide) (by decide), w_bipush (M := mX12_of) (v := 97) dX12_of_70 rfl, w_iload_n1 (M := mX12_of) dX12_of_72, w_iadd (M := mX12_of) dX12_of_73, w_iaload (M := mX12_of) dX12_of_74, w_iret (M := mX12_of) dX12_of_75 rfl, w_aload_n0 (M := mX12_of) dX12_of_76, w_getA (M := mX12_of) dX12_of_77 f_12_7 rfl (by decide) (by decide), w_bipush (M := mX12_of) (v := 101) dX12_of_80 rfl, w_iload_n1 (M := mX12_of) dX12_of_82, w_iadd (M := mX12_of) dX12_of_83, w_iaload (M := mX12_of) dX12_of_84, w_iret (M := mX12_of) dX12_of_85 rfl, w_aload_n0 (M := mX12_of) dX12_of_86, w_getA (M := mX12_of) dX12_of_87 f_12_7 rfl (by decide) (by decide), w_bipush (M := mX12_of) (v := 105) dX12_of_90 rfl, w_iload_n1 (M := mX12_of) dX12_of_92, w_iadd (M := mX12_of) dX12_of_93, w_iaload (M := mX12_of) dX12_of_94, w_iret (M := mX12_of) dX12_of_95 rfl, w_aload_n0 (M := mX12_of) dX12_of_96, w_getA (M := mX12_of) dX12_of_97 f_12_7 rfl (by decide) (by decide), w_bipush (M := mX12_of) (v := 109) dX12_of_100 rfl, w_iload_n1 (M := mX12_of) dX12_of_102, w_iadd (M := mX12_of) dX12_of_103, w_iaload (M := mX12_of) dX12_of_104, w_iret (M := mX12_of) dX12_of_105 rfl, w_aload_n0 (M := mX12_of) dX12_of_106, w_iload_n1 (M := mX12_of) dX12_of_107, w_iconst (M := mX12_of) (v := (-1)) dX12_of_108 rfl, c_12_547 (M := mX12_of) dX12_of_109 rfl, w_iret (M := mX12_of) dX12_of_112 rfl, w_aload_n0 (M := mX12_of) dX12_of_113, w_iload_n1 (M := mX12_of) dX12_of_114, w_iconst (M := mX12_of) (v := 2) dX12_of_115 rfl, c_12_547 (M := mX12_of) dX12_of_116 rfl, w_iret (M := mX12_of) dX12_of_119 rfl, w_iload_n2 (M := mX12_of) dX12_of_120, w_iconst (M := mX12_of) (v := 0) dX12_of_121 rfl, w_iconst (M := mX12_of) (v := 3) dX12_of_122 rfl, c_12_173 (M := mX12_of) dX12_of_123 rfl, w_if_eq (M := mX12_of) (tgt := 136) dX12_of_126 (by decide), w_aload_n0 (M := mX12_of) dX12_of_129, w_iload_n1 (M := mX12_of) dX12_of_130, w_iload_n2 (M := mX12_of) dX12_of_131, c_12_448 (M := mX12_of) dX12_of_132 rfl, w_iret (M := mX12_of) dX12_of_135 rfl, w_iload_n2 (M := mX12_of) dX12_of_136, w_bipush (M := mX12_of) (v := 20) dX12_of_137 rfl, w_bipush (M := mX12_of) (v := 19) dX12_of_139 rfl, w_aload_n0 (M := mX12_of) dX12_of_141, w_getA (M := mX12_of) dX12_of_142 f_12_7 rfl (by decide) (by decide), w_iconst (M := mX12_of) (v := 0) dX12_of_145 rfl, w_iaload (M := mX12_of) dX12_of_146, w_iadd (M := mX12_of) dX12_of_147, c_12_173 (M := mX12_of) dX12_of_148 rfl, w_if_eq (M := mX12_of) (tgt := 166) dX12_of_151 (by decide), w_aload_n0 (M := mX12_of) dX12_of_154, w_iload_n2 (M := mX12_of) dX12_of_155, w_bipush (M := mX12_of) (v := 20) dX12_of_156 rfl, w_isub (M := mX12_of) dX12_of_158, w_iload_n1 (M := mX12_of) dX12_of_159, c_12_188 (M := mX12_of) dX12_of_160 rfl, w_goto (M := mX12_of) (tgt := 168) dX12_of_163 (by decide), w_bipush (M := mX12_of) (v := (-2)) dX12_of_166 rfl, w_iret (M := mX12_of) dX12_of_168 rfl, Kn_v_, Kn_n_, kl_i_, kl_a_, kl_l_, kl_n_, s1_0_, s2_0_, s1_1, s1_2, s1_3, s1_4, s1_5, s1_6, s1_7, s1_8, s1_9, s1_10, s1_11, s1_12, s1_13, s1_14, s2_1, s2_2, s2_3, s2_4, s2_5, s2_6, s2_7, s2_8, s2_9, s2_10, s2_11, s2_12, s2_13, s2_14, List.map_nil, List.map_cons, List.sum_nil, List.sum_cons, ct_i_, ct_r_, ct_l_, t_si_, t_sl_, t_sr_, n_si_, n_sl_, n_sr_, i_si_, i_sl_, i_sr_, l_si_, l_sl_, l_sr_, r_si_, r_sl_, r_sr_, vr_s_, vr_n_, nz_0_, nz_1_, bI_0, bI_n, bI_t, bI_f, q_X12_in, q_X12_isEnd, q_X12_told, q_X12_delayOf, q_X12_countOf (eq_true hR) t1 t2, hR, hR.e, am_in1, c, i1, i2, i3, i4, i5, i6, i7, i8, i9, i10]
      by_cases w4 : v1 = 4
      · simp [w4]; intro; omega
      · by_cases w5 : v1 = 5
        · simp [w5]; intro; omega
        · by_cases w6 : v1 = 6
          · simp [w6]; intro; omega
          · by_cases w7 : v1 = 7
            · simp [w7]; intro; omega
            · by_cases w8 : v1 = 8
              · simp [w8]; intro; omega
              · by_cases w9 : v1 = 9
                · simp [w9]
                · by_cases w10 : v1 = 10
                  · simp [w10]
                  · by_cases u1 : inn v1 0 3 = true
                    · obtain ⟨b, b1, b2, rfl⟩ := inn_n u1 (a := 0) (b := 3) rfl rfl (by omega) (by omega)
                      have j1 : (12 + 4 * nI a + nI b).toNatClampNeg = 12 + 4 * a + b := ix_amc (a := 12) (b := 4) (by omega)
                      have j2 : (0 ≤ 12 + 4 * nI a + nI b) = True := ip_amc (a := 12) (b := 4) (by omega)
                      have j3 : Nn (nI b) = b := nI_c (by omega)
                      simp [w4, w5, w6, w7, w8, w9, w10, u1, j1, j2, j3]
                      intro; omega
                    · by_cases u2 : inn v1 20 (19 + a_i h 127 0) = true
                      · rw [e1] at u2 ⊢
                        have u3 : inn v1 (nI 20) (nI (19 + n)) = true := by rw [← nI_a]; exact u2
                        obtain ⟨b, b1, b2, rfl⟩ := inn_n u3 rfl rfl (by omega) (by omega)
                        have j0 : nI b - 20 = nI (b - 20) := nI_sb (b := 20) (by omega)
                        have j1 : (117 + 4 * nI (b - 20) + nI a).toNatClampNeg = 117 + 4 * (b - 20) + a := ix_amc (a := 117) (b := 4) (by omega)
                        have j2 : (0 ≤ 117 + 4 * nI (b - 20) + nI a) = True := ip_amc (a := 117) (b := 4) (by omega)
                        have j3 : Nn (nI (b - 20)) = b - 20 := nI_c (by omega)
                        simp [w4, w5, w6, w7, w8, w9, w10, u1, u2, j0, j1, j2, j3]
                        intro; omega
                      · simp [w4, w5, w6, w7, w8, w9, w10, u1, u2]
    refine ⟨_, fun Q => ?_, q0⟩
    unfold Cal
    rw [l_X11_of]
    simp only [am_en, am_ag, ct_i, ct_r, ct_l, List.length_cons, List.length_nil, List.replicate]
    simp [w_aload_n0 (M := mX11_of) dX11_of_0, w_iload_n1 (M := mX11_of) dX11_of_1, c_11_105 (M := mX11_of) dX11_of_2 rfl, w_if_ne (M := mX11_of) (tgt := 11) dX11_of_5 (by decide), w_bipush (M := mX11_of) (v := (-2)) dX11_of_8 rfl, w_iret (M := mX11_of) dX11_of_10 rfl, w_iload_n2 (M := mX11_of) dX11_of_11, w_bipush (M := mX11_of) (v := 20) dX11_of_12 rfl, w_ic_lt (M := mX11_of) (tgt := 48) dX11_of_14 (by decide), w_iload_n2 (M := mX11_of) dX11_of_17, w_bipush (M := mX11_of) (v := 20) dX11_of_18 rfl, w_isub (M := mX11_of) dX11_of_20, w_istore_n (M := mX11_of) (i := 3) dX11_of_21 rfl (by decide), w_aload_n0 (M := mX11_of) dX11_of_22, w_iload_n3 (M := mX11_of) dX11_of_23, c_11_105 (M := mX11_of) dX11_of_24 rfl, w_if_eq (M := mX11_of) (tgt := 45) dX11_of_27 (by decide), w_aload_n0 (M := mX11_of) dX11_of_30, w_getO (M := mX11_of) dX11_of_31 f_11_10 rfl (by decide) (by decide), w_getO (M := mX11_of) dX11_of_34 f_11_82 rfl (by decide) (by decide), w_iload_n3 (M := mX11_of) dX11_of_37, w_iload_n1 (M := mX11_of) dX11_of_38, c_11_92 (M := mX11_of) dX11_of_39 rfl, w_goto (M := mX11_of) (tgt := 47) dX11_of_42 (by decide), w_bipush (M := mX11_of) (v := (-2)) dX11_of_45 rfl, w_iret (M := mX11_of) dX11_of_47 rfl, w_iload_n2 (M := mX11_of) dX11_of_48, w_iconst (M := mX11_of) (v := 3) dX11_of_49 rfl, w_ic_gt (M := mX11_of) (tgt := 66) dX11_of_50 (by decide), w_aload_n0 (M := mX11_of) dX11_of_53, w_getO (M := mX11_of) dX11_of_54 f_11_10 rfl (by decide) (by decide), w_getO (M := mX11_of) dX11_of_57 f_11_64 rfl (by decide) (by decide), w_iload_n1 (M := mX11_of) dX11_of_60, w_iload_n2 (M := mX11_of) dX11_of_61, c_11_251 (M := mX11_of) dX11_of_62 rfl, w_iret (M := mX11_of) dX11_of_65 rfl, w_aload_n0 (M := mX11_of) dX11_of_66, w_getO (M := mX11_of) dX11_of_67 f_11_10 rfl (by decide) (by decide), w_getO (M := mX11_of) dX11_of_70 f_11_82 rfl (by decide) (by decide), w_getA (M := mX11_of) dX11_of_73 f_11_117 rfl (by decide) (by decide), w_iload_n1 (M := mX11_of) dX11_of_76, w_aaload (M := mX11_of) dX11_of_77, w_iload_n2 (M := mX11_of) dX11_of_78, c_11_254 (M := mX11_of) dX11_of_79 rfl, w_iret (M := mX11_of) dX11_of_82 rfl, Kn_v_, Kn_n_, kl_i_, kl_a_, kl_l_, kl_n_, s1_0_, s2_0_, s1_1, s1_2, s1_3, s1_4, s1_5, s1_6, s1_7, s1_8, s1_9, s1_10, s1_11, s1_12, s1_13, s1_14, s2_1, s2_2, s2_3, s2_4, s2_5, s2_6, s2_7, s2_8, s2_9, s2_10, s2_11, s2_12, s2_13, s2_14, List.map_nil, List.map_cons, List.sum_nil, List.sum_cons, ct_i_, ct_r_, ct_l_, t_si_, t_sl_, t_sr_, n_si_, n_sl_, n_sr_, i_si_, i_sl_, i_sr_, l_si_, l_sl_, l_sr_, r_si_, r_sl_, r_sr_, vr_s_, vr_n_, nz_0_, nz_1_, bI_0, bI_n, bI_t, bI_f, q_X11_isEnd, q_X5_delayOf_7, q_X10_number, q_X3_number, hC, hC.e, am_in1, c, k.e, shE hC (e := a) (by omega), nI_c (a := a) (by omega), nI_p (a := a) (by omega), show a < 4 by omega, ho]
    have hn0 : (if a_i h (12 + a) 0 = 0 then Q (some (Value.int 0)) h else Q (some (Value.int 1)) h) = Q (some (.int (a_i h 127 (93 + a)))) h := by
      rw [hn.1]
      rcases hs with hs | hs <;> rw [hs] <;> rfl
    simp only [hn0]
    by_cases l : v1 < 20
    · have u2 : ¬ inn v1 20 (19 + a_i h 127 0) = true := fun z => by
        have z1 := (inn_bt z).1
        rw [i_lt] at l
        have : (20 : Int32).toInt = 20 := rfl
        omega
      by_cases u1 : inn v1 0 3 = true
      · obtain ⟨b, b1, b2, rfl⟩ := inn_n u1 (a := 0) (b := 3) rfl rfl (by omega) (by omega)
        have : b = 0 ∨ b = 1 ∨ b = 2 ∨ b = 3 := by omega
        rcases this with rfl | rfl | rfl | rfl
        · simp [show nI 0 = 0 from rfl, show inn 0 0 3 = true from rfl, show Nn 0 = 0 from rfl]
        · simp [show nI 1 = 1 from rfl, show inn 1 0 3 = true from rfl, show Nn 1 = 1 from rfl]
        · simp [show nI 2 = 2 from rfl, show inn 2 0 3 = true from rfl, show Nn 2 = 2 from rfl]
        · simp [show nI 3 = 3 from rfl, show inn 3 0 3 = true from rfl, show Nn 3 = 3 from rfl]
      · have f : ∀ w : Int32, inn w 0 3 = true → v1 = w → False := fun w hw e => u1 (e ▸ hw)
        have f0 : ¬ v1 = 0 := f 0 rfl
        have f1 : ¬ v1 = 1 := f 1 rfl
        have f2 : ¬ v1 = 2 := f 2 rfl
        have f3 : ¬ v1 = 3 := f 3 rfl
        by_cases w4 : v1 = 4
        · subst w4; simp
        · by_cases w5 : v1 = 5
          · subst w5; simp [hn]
          · by_cases w6 : v1 = 6
            · subst w6; simp [hn]
            · by_cases w7 : v1 = 7
              · subst w7; simp [hn]
              · by_cases w8 : v1 = 8
                · subst w8; simp [hn]
                · by_cases w9 : v1 = 9
                  · subst w9; simp [hn]
                  · by_cases w10 : v1 = 10
                    · subst w10; simp [hn]
                    · by_cases l3 : 3 < v1 <;> simp [l, l3, u1, u2, f0, f1, f2, f3, w4, w5, w6, w7, w8, w9, w10]
    · have hv : 20 ≤ v1.toInt := by
        rw [i_lt] at l
        have : (20 : Int32).toInt = 20 := rfl
        omega
      have g : ∀ w : Int32, w.toInt < 20 → ¬ v1 = w := fun w hw e => by subst e; omega
      have u1 : ¬ inn v1 0 3 = true := fun z => by
        have z1 := (inn_bt z).2
        have : (3 : Int32).toInt = 3 := rfl
        omega
      have w4 := g 4 (by decide)
      have w5 := g 5 (by decide)
      have w6 := g 6 (by decide)
      have w7 := g 7 (by decide)
      have w8 := g 8 (by decide)
      have w9 := g 9 (by decide)
      have w10 := g 10 (by decide)
      have sv : (v1 - 20).toInt = v1.toInt - 20 := sub_i (a := 20) (by omega) hv
      have ee : inn v1 20 (19 + a_i h 127 0) = inn (v1 - 20) 0 (a_i h 127 0 - 1) := by
        rw [e1, show (19 : Int32) = nI 19 from rfl, nI_a]
        unfold inn
        rw [Bool.eq_iff_iff]
        simp only [Bool.and_eq_true, decide_eq_true_eq, Int32.le_iff_toInt_le]
        rw [sv, n1_i (by omega), nI_i (by omega)]
        have e20 : (20 : Int32).toInt = 20 := rfl
        have e0 : (0 : Int32).toInt = 0 := rfl
        omega
      rw [ee]
      by_cases u2 : inn (v1 - 20) 0 (a_i h 127 0 - 1) = true
      · obtain ⟨b, b1, b2⟩ := inn_ix (n := n) (by omega) (by rw [e1] at u2; exact u2)
        have j1 : (nI b * 4 + nI a).toNatClampNeg = b * 4 + a := ix_ma (b := 4) (by omega)
        have j2 : (0 ≤ nI b * 4 + nI a) = True := ip_ma (b := 4) (by omega)
        have j3 : Nn (nI b) = b := nI_c (by omega)
        have z := (k.dl (i := b * 4 + a) (by omega)).1
        rw [show 117 + (b * 4 + a) = 117 + 4 * b + a by omega] at z
        have u3 : inn (nI b) 0 (a_i h 127 0 - 1) = true := by rw [← b2]; exact u2
        simp [l, u1, u3, w4, w5, w6, w7, w8, w9, w10, b2, j1, j2, j3, z, show b * 4 + a < 16 by omega]
      · simp [l, u1, u2, w4, w5, w6, w7, w8, w9, w10]
  · refine ⟨-2, fun Q => ?_, fun Q => ?_⟩
    · unfold Cal
      rw [l_X11_of]
      simp only [am_en, am_ag, ct_i, ct_r, ct_l, List.length_cons, List.length_nil, List.replicate]
      simp [w_aload_n0 (M := mX11_of) dX11_of_0, w_iload_n1 (M := mX11_of) dX11_of_1, c_11_105 (M := mX11_of) dX11_of_2 rfl, w_if_ne (M := mX11_of) (tgt := 11) dX11_of_5 (by decide), w_bipush (M := mX11_of) (v := (-2)) dX11_of_8 rfl, w_iret (M := mX11_of) dX11_of_10 rfl, w_iload_n2 (M := mX11_of) dX11_of_11, w_bipush (M := mX11_of) (v := 20) dX11_of_12 rfl, w_ic_lt (M := mX11_of) (tgt := 48) dX11_of_14 (by decide), w_iload_n2 (M := mX11_of) dX11_of_17, w_bipush (M := mX11_of) (v := 20) dX11_of_18 rfl, w_isub (M := mX11_of) dX11_of_20, w_istore_n (M := mX11_of) (i := 3) dX11_of_21 rfl (by decide), w_aload_n0 (M := mX11_of) dX11_of_22, w_iload_n3 (M := mX11_of) dX11_of_23, c_11_105 (M := mX11_of) dX11_of_24 rfl, w_if_eq (M := mX11_of) (tgt := 45) dX11_of_27 (by decide), w_aload_n0 (M := mX11_of) dX11_of_30, w_getO (M := mX11_of) dX11_of_31 f_11_10 rfl (by decide) (by decide), w_getO (M := mX11_of) dX11_of_34 f_11_82 rfl (by decide) (by decide), w_iload_n3 (M := mX11_of) dX11_of_37, w_iload_n1 (M := mX11_of) dX11_of_38, c_11_92 (M := mX11_of) dX11_of_39 rfl, w_goto (M := mX11_of) (tgt := 47) dX11_of_42 (by decide), w_bipush (M := mX11_of) (v := (-2)) dX11_of_45 rfl, w_iret (M := mX11_of) dX11_of_47 rfl, w_iload_n2 (M := mX11_of) dX11_of_48, w_iconst (M := mX11_of) (v := 3) dX11_of_49 rfl, w_ic_gt (M := mX11_of) (tgt := 66) dX11_of_50 (by decide), w_aload_n0 (M := mX11_of) dX11_of_53, w_getO (M := mX11_of) dX11_of_54 f_11_10 rfl (by decide) (by decide), w_getO (M := mX11_of) dX11_of_57 f_11_64 rfl (by decide) (by decide), w_iload_n1 (M := mX11_of) dX11_of_60, w_iload_n2 (M := mX11_of) dX11_of_61, c_11_251 (M := mX11_of) dX11_of_62 rfl, w_iret (M := mX11_of) dX11_of_65 rfl, w_aload_n0 (M := mX11_of) dX11_of_66, w_getO (M := mX11_of) dX11_of_67 f_11_10 rfl (by decide) (by decide), w_getO (M := mX11_of) dX11_of_70 f_11_82 rfl (by decide) (by decide), w_getA (M := mX11_of) dX11_of_73 f_11_117 rfl (by decide) (by decide), w_iload_n1 (M := mX11_of) dX11_of_76, w_aaload (M := mX11_of) dX11_of_77, w_iload_n2 (M := mX11_of) dX11_of_78, c_11_254 (M := mX11_of) dX11_of_79 rfl, w_iret (M := mX11_of) dX11_of_82 rfl, Kn_v_, Kn_n_, kl_i_, kl_a_, kl_l_, kl_n_, s1_0_, s2_0_, s1_1, s1_2, s1_3, s1_4, s1_5, s1_6, s1_7, s1_8, s1_9, s1_10, s1_11, s1_12, s1_13, s1_14, s2_1, s2_2, s2_3, s2_4, s2_5, s2_6, s2_7, s2_8, s2_9, s2_10, s2_11, s2_12, s2_13, s2_14, List.map_nil, List.map_cons, List.sum_nil, List.sum_cons, ct_i_, ct_r_, ct_l_, t_si_, t_sl_, t_sr_, n_si_, n_sl_, n_sr_, i_si_, i_sl_, i_sr_, l_si_, l_sl_, l_sr_, r_si_, r_sl_, r_sr_, vr_s_, vr_n_, nz_0_, nz_1_, bI_0, q_X11_isEnd, hC, hC.e, k.e, c]
    · unfold Cal
      rw [l_X12_of]
      simp only [am_en, am_ag, ct_i, ct_r, ct_l, List.length_cons, List.length_nil, List.replicate]
      simp [w_aload_n0 (M := mX12_of) dX12_of_0, w_iload_n1 (M := mX12_of) dX12_of_1, c_12_185 (M := mX12_of) dX12_of_2 rfl, w_if_ne (M := mX12_of) (tgt := 11) dX12_of_5 (by decide), w_bipush (M := mX12_of) (v := (-2)) dX12_of_8 rfl, w_iret (M := mX12_of) dX12_of_10 rfl, w_iload_n2 (M := mX12_of) dX12_of_11, sw_X12_of_12, w_aload_n0 (M := mX12_of) dX12_of_56, w_getA (M := mX12_of) dX12_of_57 f_12_7 rfl (by decide) (by decide), w_bipush (M := mX12_of) (v := 93) dX12_of_60 rfl, w_iload_n1 (M := mX12_of) dX12_of_62, w_iadd (M := mX12_of) dX12_of_63, w_iaload (M := mX12_of) dX12_of_64, w_iret (M := mX12_of) dX12_of_65 rfl, w_aload_n0 (M := mX12_of) dX12_of_66, w_getA (M := mX12_of) dX12_of_67 f_12_7 rfl (by decide) (by decide), w_bipush (M := mX12_of) (v := 97) dX12_of_70 rfl, w_iload_n1 (M := mX12_of) dX12_of_72, w_iadd (M := mX12_of) dX12_of_73, w_iaload (M := mX12_of) dX12_of_74, w_iret (M := mX12_of) dX12_of_75 rfl, w_aload_n0 (M := mX12_of) dX12_of_76, w_getA (M := mX12_of) dX12_of_77 f_12_7 rfl (by decide) (by decide), w_bipush (M := mX12_of) (v := 101) dX12_of_80 rfl, w_iload_n1 (M := mX12_of) dX12_of_82, w_iadd (M := mX12_of) dX12_of_83, w_iaload (M := mX12_of) dX12_of_84, w_iret (M := mX12_of) dX12_of_85 rfl, w_aload_n0 (M := mX12_of) dX12_of_86, w_getA (M := mX12_of) dX12_of_87 f_12_7 rfl (by decide) (by decide), w_bipush (M := mX12_of) (v := 105) dX12_of_90 rfl, w_iload_n1 (M := mX12_of) dX12_of_92, w_iadd (M := mX12_of) dX12_of_93, w_iaload (M := mX12_of) dX12_of_94, w_iret (M := mX12_of) dX12_of_95 rfl, w_aload_n0 (M := mX12_of) dX12_of_96, w_getA (M := mX12_of) dX12_of_97 f_12_7 rfl (by decide) (by decide), w_bipush (M := mX12_of) (v := 109) dX12_of_100 rfl, w_iload_n1 (M := mX12_of) dX12_of_102, w_iadd (M := mX12_of) dX12_of_103, w_iaload (M := mX12_of) dX12_of_104, w_iret (M := mX12_of) dX12_of_105 rfl, w_aload_n0 (M := mX12_of) dX12_of_106, w_iload_n1 (M := mX12_of) dX12_of_107, w_iconst (M := mX12_of) (v := (-1)) dX12_of_108 rfl, c_12_547 (M := mX12_of) dX12_of_109 rfl, w_iret (M := mX12_of) dX12_of_112 rfl, w_aload_n0 (M := mX12_of) dX12_of_113, w_iload_n1 (M := mX12_of) dX12_of_114, w_iconst (M := mX12_of) (v := 2) dX12_of_115 rfl, c_12_547 (M := mX12_of) dX12_of_116 rfl, w_iret (M := mX12_of) dX12_of_119 rfl, w_iload_n2 (M := mX12_of) dX12_of_120, w_iconst (M := mX12_of) (v := 0) dX12_of_121 rfl, w_iconst (M := mX12_of) (v := 3) dX12_of_122 rfl, c_12_173 (M := mX12_of) dX12_of_123 rfl, w_if_eq (M := mX12_of) (tgt := 136) dX12_of_126 (by decide), w_aload_n0 (M := mX12_of) dX12_of_129, w_iload_n1 (M := mX12_of) dX12_of_130, w_iload_n2 (M := mX12_of) dX12_of_131, c_12_448 (M := mX12_of) dX12_of_132 rfl, w_iret (M := mX12_of) dX12_of_135 rfl, w_iload_n2 (M := mX12_of) dX12_of_136, w_bipush (M := mX12_of) (v := 20) dX12_of_137 rfl, w_bipush (M := mX12_of) (v := 19) dX12_of_139 rfl, w_aload_n0 (M := mX12_of) dX12_of_141, w_getA (M := mX12_of) dX12_of_142 f_12_7 rfl (by decide) (by decide), w_iconst (M := mX12_of) (v := 0) dX12_of_145 rfl, w_iaload (M := mX12_of) dX12_of_146, w_iadd (M := mX12_of) dX12_of_147, c_12_173 (M := mX12_of) dX12_of_148 rfl, w_if_eq (M := mX12_of) (tgt := 166) dX12_of_151 (by decide), w_aload_n0 (M := mX12_of) dX12_of_154, w_iload_n2 (M := mX12_of) dX12_of_155, w_bipush (M := mX12_of) (v := 20) dX12_of_156 rfl, w_isub (M := mX12_of) dX12_of_158, w_iload_n1 (M := mX12_of) dX12_of_159, c_12_188 (M := mX12_of) dX12_of_160 rfl, w_goto (M := mX12_of) (tgt := 168) dX12_of_163 (by decide), w_bipush (M := mX12_of) (v := (-2)) dX12_of_166 rfl, w_iret (M := mX12_of) dX12_of_168 rfl, Kn_v_, Kn_n_, kl_i_, kl_a_, kl_l_, kl_n_, s1_0_, s2_0_, s1_1, s1_2, s1_3, s1_4, s1_5, s1_6, s1_7, s1_8, s1_9, s1_10, s1_11, s1_12, s1_13, s1_14, s2_1, s2_2, s2_3, s2_4, s2_5, s2_6, s2_7, s2_8, s2_9, s2_10, s2_11, s2_12, s2_13, s2_14, List.map_nil, List.map_cons, List.sum_nil, List.sum_cons, ct_i_, ct_r_, ct_l_, t_si_, t_sl_, t_sr_, n_si_, n_sl_, n_sr_, i_si_, i_sl_, i_sr_, l_si_, l_sl_, l_sr_, r_si_, r_sl_, r_sr_, vr_s_, vr_n_, nz_0_, nz_1_, bI_0, q_X12_isEnd, hR, hR.e, c]
end OPS6
