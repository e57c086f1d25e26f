/-! the law's loop: each case leads back to its head (lawgen.py) -/
section LAW
variable {h0 h : am_h} {n i : Nat}
/-- all that holds at the head of the law's loop -/
def LWI (h0 h : am_h) : Prop := Inv XP h ∧ sepH h ∧ oldP h0 h
/-- what the law begins with: the script, the two rows of bounds -/
def LW0 (h0 : am_h) (n : Nat) : Prop := rOl h0 ∧ (∀ q, 1000000 ≤ q → 40 ≤ (a_t h0 q).1) ∧ a_t h0 1000000 = (40, n) ∧ n ≤ 3584
def lwL (i : Nat) : am_L := [some (.ref 1000000), some (.ref 0), some (.ref 126), some (.int (nI i))]
theorem oldP.rf {x : am_h} : oldP x x := fun _ _ _ => ⟨rfl, fun _ => ⟨rfl, rfl, rfl⟩⟩
theorem lw_ol (z : LW0 h0 n) (o : oldP h0 h) : rOl h := z.1.old o
theorem lw_sc (z : LW0 h0 n) (o : oldP h0 h) : a_t h 1000000 = (40, n) ∧ ∀ j, a_i h 1000000 j = a_i h0 1000000 j := by
  obtain ⟨a, b⟩ := o 1000000 (by omega) (z.2.1 _ (by omega))
  exact ⟨a.trans z.2.2.1, fun j => (b j).1⟩
/-- both sides of a call -/
theorem lw_two {d : Nat} {M1 M2 : am_m} {as1 as2 : List Value} (W : LWI h0 h) (o : opS XP d M1 M2 as1 as2 h) (s1 : sok hC as1) (s2 : sok hR as2) (rm : refM M2) : ∃ (r : Int32) (h1 h2 : am_h), (∀ Q, Cal d M1 as1 h Q = Q (some (.int r)) h1) ∧ (∀ Q, Cal d M2 as2 h1 Q = Q (some (.int r)) h2) ∧ oldP h0 h1 ∧ a_t h1 126 = (12, 78) ∧ LWI h0 h2 := by
  obtain ⟨r, h1, h2, c1, c2, iv⟩ := o
  obtain ⟨k, s, od⟩ := W
  obtain ⟨k1, u1⟩ := sepC s c1 s1
  obtain ⟨k2, u2, e2⟩ := sepR k1 c2 s2 (Cal.na c2 rm)
  have o1 := od.tr (Cal.old c1)
  refine ⟨r, h1, h2, c1, c2, o1, ?_, iv, k2, o1.tr (Cal.old c2)⟩
  rw [(u1 126 (by unfold hC; omega)).1]
  exact k.1.2.1.e.1
theorem sC0 : sok hC [.ref 0] := sok_c (vk_r nC0) sok_n
theorem sR0 : sok hR [.ref 126] := sok_c (vk_r nR126) sok_n
theorem sC1 {v0 : Int32} : sok hC [.ref 0, .int v0] := sok_c (vk_r nC0) (sok_c vk_i sok_n)
theorem sR1 {v0 : Int32} : sok hR [.ref 126, .int v0] := sok_c (vk_r nR126) (sok_c vk_i sok_n)
theorem sC2 {v0 v1 : Int32} : sok hC [.ref 0, .int v0, .int v1] := sok_c (vk_r nC0) (sok_c vk_i (sok_c vk_i sok_n))
theorem sR2 {v0 v1 : Int32} : sok hR [.ref 126, .int v0, .int v1] := sok_c (vk_r nR126) (sok_c vk_i (sok_c vk_i sok_n))
theorem sC3 {v0 v1 v2 : Int32} : sok hC [.ref 0, .int v0, .int v1, .int v2] := sok_c (vk_r nC0) (sok_c vk_i (sok_c vk_i (sok_c vk_i sok_n)))
theorem sR3 {v0 v1 v2 : Int32} : sok hR [.ref 126, .int v0, .int v1, .int v2] := sok_c (vk_r nR126) (sok_c vk_i (sok_c vk_i (sok_c vk_i sok_n)))
theorem sC4 {v0 v1 v2 v3 : Int32} : sok hC [.ref 0, .int v0, .int v1, .int v2, .int v3] := sok_c (vk_r nC0) (sok_c vk_i (sok_c vk_i (sok_c vk_i (sok_c vk_i sok_n))))
theorem sR4 {v0 v1 v2 v3 : Int32} : sok hR [.ref 126, .int v0, .int v1, .int v2, .int v3] := sok_c (vk_r nR126) (sok_c vk_i (sok_c vk_i (sok_c vk_i (sok_c vk_i sok_n))))
theorem sC5 {v0 v1 v2 v3 v4 : Int32} : sok hC [.ref 0, .int v0, .int v1, .int v2, .int v3, .int v4] := sok_c (vk_r nC0) (sok_c vk_i (sok_c vk_i (sok_c vk_i (sok_c vk_i (sok_c vk_i sok_n)))))
theorem sR5 {v0 v1 v2 v3 v4 : Int32} : sok hR [.ref 126, .int v0, .int v1, .int v2, .int v3, .int v4] := sok_c (vk_r nR126) (sok_c vk_i (sok_c vk_i (sok_c vk_i (sok_c vk_i (sok_c vk_i sok_n)))))
theorem sC6 {v0 v1 v2 v3 v4 v5 : Int32} : sok hC [.ref 0, .int v0, .int v1, .int v2, .int v3, .int v4, .int v5] := sok_c (vk_r nC0) (sok_c vk_i (sok_c vk_i (sok_c vk_i (sok_c vk_i (sok_c vk_i (sok_c vk_i sok_n))))))
theorem sR6 {v0 v1 v2 v3 v4 v5 : Int32} : sok hR [.ref 126, .int v0, .int v1, .int v2, .int v3, .int v4, .int v5] := sok_c (vk_r nR126) (sok_c vk_i (sok_c vk_i (sok_c vk_i (sok_c vk_i (sok_c vk_i (sok_c vk_i sok_n))))))
set_option maxRecDepth 20000 in
set_option maxHeartbeats 4000000 in
theorem lw_0 (z : LW0 h0 n) (W : LWI h0 h) (hi : i + 7 ≤ n) : ∃ h2, (∀ Q, WP 101 mL_law 220 (lwL i) [] h Q = WP 101 mL_law 1851 (lwL i) [] h2 Q) ∧ LWI h0 h2 := by
  have ol := lw_ol z W.2.2
  obtain ⟨t0, i0⟩ := lw_sc z W.2.2
  have n2 := z.2.2.2
  have eC := W.1.1.1.e.1
  have a1 : nI i + 1 = nI (i + 1) := nI_a (b := 1)
  have x1 : am_in1 (nI (i + 1)) n = True := by rw [in1_n (by omega)]; exact eq_true (by omega)
  have c1 := nI_c (a := i + 1) (by omega)
  have a2 : nI i + 2 = nI (i + 2) := nI_a (b := 2)
  have x2 : am_in1 (nI (i + 2)) n = True := by rw [in1_n (by omega)]; exact eq_true (by omega)
  have c2 := nI_c (a := i + 2) (by omega)
  have a3 : nI i + 3 = nI (i + 3) := nI_a (b := 3)
  have x3 : am_in1 (nI (i + 3)) n = True := by rw [in1_n (by omega)]; exact eq_true (by omega)
  have c3 := nI_c (a := i + 3) (by omega)
  have a4 : nI i + 4 = nI (i + 4) := nI_a (b := 4)
  have x4 : am_in1 (nI (i + 4)) n = True := by rw [in1_n (by omega)]; exact eq_true (by omega)
  have c4 := nI_c (a := i + 4) (by omega)
  have o : opS XP 100 mX11_tellEnd mX12_tellEnd [.ref 0, .int (a_i h 1000000 (i + 1)), .int (a_i h 1000000 (i + 2)), .int (a_i h 1000000 (i + 3)), .int (a_i h 1000000 (i + 4))] [.ref 126, .int (a_i h 1000000 (i + 1)), .int (a_i h 1000000 (i + 2)), .int (a_i h 1000000 (i + 3)), .int (a_i h 1000000 (i + 4))] h := op_tellEnd (d := 99) W.1 (v0 := a_i h 1000000 (i + 1)) (v1 := a_i h 1000000 (i + 2)) (v2 := a_i h 1000000 (i + 3)) (v3 := a_i h 1000000 (i + 4))
  obtain ⟨r, h1, h2, e1, e2, o1, q1, W2⟩ := lw_two W o sC4 sR4 ⟨rfl, na_tellEnd⟩
  obtain ⟨t1, i1⟩ := lw_sc z o1
  have iq : ∀ j, a_i h1 1000000 j = a_i h 1000000 j := fun j => (i1 j).trans (i0 j).symm
  refine ⟨h2, fun Q => ?_, W2⟩
  unfold lwL
  simp [w_aload_n1 (M := mL_law) dL_law_220, w_aload_n0 (M := mL_law) dL_law_221, w_iload_n3 (M := mL_law) dL_law_222, w_iconst (M := mL_law) (v := 1) dL_law_223 rfl, w_iadd (M := mL_law) dL_law_224, w_iaload (M := mL_law) dL_law_225, w_aload_n0 (M := mL_law) dL_law_226, w_iload_n3 (M := mL_law) dL_law_227, w_iconst (M := mL_law) (v := 2) dL_law_228 rfl, w_iadd (M := mL_law) dL_law_229, w_iaload (M := mL_law) dL_law_230, w_aload_n0 (M := mL_law) dL_law_231, w_iload_n3 (M := mL_law) dL_law_232, w_iconst (M := mL_law) (v := 3) dL_law_233 rfl, w_iadd (M := mL_law) dL_law_234, w_iaload (M := mL_law) dL_law_235, w_aload_n0 (M := mL_law) dL_law_236, w_iload_n3 (M := mL_law) dL_law_237, w_iconst (M := mL_law) (v := 4) dL_law_238 rfl, w_iadd (M := mL_law) dL_law_239, w_iaload (M := mL_law) dL_law_240, c_13_13 (M := mL_law) dL_law_241 rfl, w_aload_n2 (M := mL_law) dL_law_244, w_aload_n0 (M := mL_law) dL_law_245, w_iload_n3 (M := mL_law) dL_law_246, w_iconst (M := mL_law) (v := 1) dL_law_247 rfl, w_iadd (M := mL_law) dL_law_248, w_iaload (M := mL_law) dL_law_249, w_aload_n0 (M := mL_law) dL_law_250, w_iload_n3 (M := mL_law) dL_law_251, w_iconst (M := mL_law) (v := 2) dL_law_252 rfl, w_iadd (M := mL_law) dL_law_253, w_iaload (M := mL_law) dL_law_254, w_aload_n0 (M := mL_law) dL_law_255, w_iload_n3 (M := mL_law) dL_law_256, w_iconst (M := mL_law) (v := 3) dL_law_257 rfl, w_iadd (M := mL_law) dL_law_258, w_iaload (M := mL_law) dL_law_259, w_aload_n0 (M := mL_law) dL_law_260, w_iload_n3 (M := mL_law) dL_law_261, w_iconst (M := mL_law) (v := 4) dL_law_262 rfl, w_iadd (M := mL_law) dL_law_263, w_iaload (M := mL_law) dL_law_264, c_13_17 (M := mL_law) dL_law_265 rfl, w_ic_eq (M := mL_law) (tgt := 1851) dL_law_268 (by decide), w_iconst (M := mL_law) (v := 0) dL_law_271 rfl, w_ireturn (M := mL_law) dL_law_272 rfl, Kn_v_, Kn_n_, kl_i_, kl_a_, kl_l_, kl_n_, s1_0_, s2_0_, s1_1, s1_2, s1_3, s1_4, s1_5, s1_6, s1_7, s1_8, s1_9, s1_10, s1_11, s1_12, s1_13, s1_14, s2_1, s2_2, s2_3, s2_4, s2_5, s2_6, s2_7, s2_8, s2_9, s2_10, s2_11, s2_12, s2_13, s2_14, List.map_nil, List.map_cons, List.sum_nil, List.sum_cons, ct_i_, ct_r_, ct_l_, t_si_, t_sl_, t_sr_, n_si_, n_sl_, n_sr_, i_si_, i_sl_, i_sr_, l_si_, l_sl_, l_sr_, r_si_, r_sl_, r_sr_, vr_s_, vr_n_, nz_0_, nz_1_, t0, eC, t1, q1, iq, e1, e2, a1, x1, c1, a2, x2, c2, a3, x3, c3, a4, x4, c4]
set_option maxRecDepth 20000 in
set_option maxHeartbeats 4000000 in
theorem lw_1 (z : LW0 h0 n) (W : LWI h0 h) (hi : i + 7 ≤ n) : ∃ h2, (∀ Q, WP 101 mL_law 273 (lwL i) [] h Q = WP 101 mL_law 1851 (lwL i) [] h2 Q) ∧ LWI h0 h2 := by
  have ol := lw_ol z W.2.2
  obtain ⟨t0, i0⟩ := lw_sc z W.2.2
  have n2 := z.2.2.2
  have eC := W.1.1.1.e.1
  have a1 : nI i + 1 = nI (i + 1) := nI_a (b := 1)
  have x1 : am_in1 (nI (i + 1)) n = True := by rw [in1_n (by omega)]; exact eq_true (by omega)
  have c1 := nI_c (a := i + 1) (by omega)
  have o : opS XP 100 mX11_seed mX12_seed [.ref 0, .int (a_i h 1000000 (i + 1))] [.ref 126, .int (a_i h 1000000 (i + 1))] h := op_seed (d := 99) W.1 (v0 := a_i h 1000000 (i + 1))
  obtain ⟨r, h1, h2, e1, e2, o1, q1, W2⟩ := lw_two W o sC1 sR1 ⟨rfl, na_seed⟩
  obtain ⟨t1, i1⟩ := lw_sc z o1
  have iq : ∀ j, a_i h1 1000000 j = a_i h 1000000 j := fun j => (i1 j).trans (i0 j).symm
  refine ⟨h2, fun Q => ?_, W2⟩
  unfold lwL
  simp [w_aload_n1 (M := mL_law) dL_law_273, w_aload_n0 (M := mL_law) dL_law_274, w_iload_n3 (M := mL_law) dL_law_275, w_iconst (M := mL_law) (v := 1) dL_law_276 rfl, w_iadd (M := mL_law) dL_law_277, w_iaload (M := mL_law) dL_law_278, c_13_18 (M := mL_law) dL_law_279 rfl, w_aload_n2 (M := mL_law) dL_law_282, w_aload_n0 (M := mL_law) dL_law_283, w_iload_n3 (M := mL_law) dL_law_284, w_iconst (M := mL_law) (v := 1) dL_law_285 rfl, w_iadd (M := mL_law) dL_law_286, w_iaload (M := mL_law) dL_law_287, c_13_22 (M := mL_law) dL_law_288 rfl, w_ic_eq (M := mL_law) (tgt := 1851) dL_law_291 (by decide), w_iconst (M := mL_law) (v := 0) dL_law_294 rfl, w_ireturn (M := mL_law) dL_law_295 rfl, Kn_v_, Kn_n_, kl_i_, kl_a_, kl_l_, kl_n_, s1_0_, s2_0_, s1_1, s1_2, s1_3, s1_4, s1_5, s1_6, s1_7, s1_8, s1_9, s1_10, s1_11, s1_12, s1_13, s1_14, s2_1, s2_2, s2_3, s2_4, s2_5, s2_6, s2_7, s2_8, s2_9, s2_10, s2_11, s2_12, s2_13, s2_14, List.map_nil, List.map_cons, List.sum_nil, List.sum_cons, ct_i_, ct_r_, ct_l_, t_si_, t_sl_, t_sr_, n_si_, n_sl_, n_sr_, i_si_, i_sl_, i_sr_, l_si_, l_sl_, l_sr_, r_si_, r_sl_, r_sr_, vr_s_, vr_n_, nz_0_, nz_1_, t0, eC, t1, q1, iq, e1, e2, a1, x1, c1]
set_option maxRecDepth 20000 in
set_option maxHeartbeats 4000000 in
theorem lw_2 (z : LW0 h0 n) (W : LWI h0 h) (hi : i + 7 ≤ n) : ∃ h2, (∀ Q, WP 101 mL_law 296 (lwL i) [] h Q = WP 101 mL_law 1851 (lwL i) [] h2 Q) ∧ LWI h0 h2 := by
  have ol := lw_ol z W.2.2
  obtain ⟨t0, i0⟩ := lw_sc z W.2.2
  have n2 := z.2.2.2
  have eC := W.1.1.1.e.1
  have a1 : nI i + 1 = nI (i + 1) := nI_a (b := 1)
  have x1 : am_in1 (nI (i + 1)) n = True := by rw [in1_n (by omega)]; exact eq_true (by omega)
  have c1 := nI_c (a := i + 1) (by omega)
  have a2 : nI i + 2 = nI (i + 2) := nI_a (b := 2)
  have x2 : am_in1 (nI (i + 2)) n = True := by rw [in1_n (by omega)]; exact eq_true (by omega)
  have c2 := nI_c (a := i + 2) (by omega)
  have a3 : nI i + 3 = nI (i + 3) := nI_a (b := 3)
  have x3 : am_in1 (nI (i + 3)) n = True := by rw [in1_n (by omega)]; exact eq_true (by omega)
  have c3 := nI_c (a := i + 3) (by omega)
  have o : opS XP 100 mX11_delay mX12_delay [.ref 0, .int (a_i h 1000000 (i + 1)), .int (a_i h 1000000 (i + 2)), .int (a_i h 1000000 (i + 3))] [.ref 126, .int (a_i h 1000000 (i + 1)), .int (a_i h 1000000 (i + 2)), .int (a_i h 1000000 (i + 3))] h := op_delay (d := 96) W.1 (v0 := a_i h 1000000 (i + 1)) (v1 := a_i h 1000000 (i + 2)) (v2 := a_i h 1000000 (i + 3))
  obtain ⟨r, h1, h2, e1, e2, o1, q1, W2⟩ := lw_two W o sC3 sR3 ⟨rfl, na_delay⟩
  obtain ⟨t1, i1⟩ := lw_sc z o1
  have iq : ∀ j, a_i h1 1000000 j = a_i h 1000000 j := fun j => (i1 j).trans (i0 j).symm
  refine ⟨h2, fun Q => ?_, W2⟩
  unfold lwL
  simp [w_aload_n1 (M := mL_law) dL_law_296, w_aload_n0 (M := mL_law) dL_law_297, w_iload_n3 (M := mL_law) dL_law_298, w_iconst (M := mL_law) (v := 1) dL_law_299 rfl, w_iadd (M := mL_law) dL_law_300, w_iaload (M := mL_law) dL_law_301, w_aload_n0 (M := mL_law) dL_law_302, w_iload_n3 (M := mL_law) dL_law_303, w_iconst (M := mL_law) (v := 2) dL_law_304 rfl, w_iadd (M := mL_law) dL_law_305, w_iaload (M := mL_law) dL_law_306, w_aload_n0 (M := mL_law) dL_law_307, w_iload_n3 (M := mL_law) dL_law_308, w_iconst (M := mL_law) (v := 3) dL_law_309 rfl, w_iadd (M := mL_law) dL_law_310, w_iaload (M := mL_law) dL_law_311, c_13_23 (M := mL_law) dL_law_312 rfl, w_aload_n2 (M := mL_law) dL_law_315, w_aload_n0 (M := mL_law) dL_law_316, w_iload_n3 (M := mL_law) dL_law_317, w_iconst (M := mL_law) (v := 1) dL_law_318 rfl, w_iadd (M := mL_law) dL_law_319, w_iaload (M := mL_law) dL_law_320, w_aload_n0 (M := mL_law) dL_law_321, w_iload_n3 (M := mL_law) dL_law_322, w_iconst (M := mL_law) (v := 2) dL_law_323 rfl, w_iadd (M := mL_law) dL_law_324, w_iaload (M := mL_law) dL_law_325, w_aload_n0 (M := mL_law) dL_law_326, w_iload_n3 (M := mL_law) dL_law_327, w_iconst (M := mL_law) (v := 3) dL_law_328 rfl, w_iadd (M := mL_law) dL_law_329, w_iaload (M := mL_law) dL_law_330, c_13_27 (M := mL_law) dL_law_331 rfl, w_ic_eq (M := mL_law) (tgt := 1851) dL_law_334 (by decide), w_iconst (M := mL_law) (v := 0) dL_law_337 rfl, w_ireturn (M := mL_law) dL_law_338 rfl, Kn_v_, Kn_n_, kl_i_, kl_a_, kl_l_, kl_n_, s1_0_, s2_0_, s1_1, s1_2, s1_3, s1_4, s1_5, s1_6, s1_7, s1_8, s1_9, s1_10, s1_11, s1_12, s1_13, s1_14, s2_1, s2_2, s2_3, s2_4, s2_5, s2_6, s2_7, s2_8, s2_9, s2_10, s2_11, s2_12, s2_13, s2_14, List.map_nil, List.map_cons, List.sum_nil, List.sum_cons, ct_i_, ct_r_, ct_l_, t_si_, t_sl_, t_sr_, n_si_, n_sl_, n_sr_, i_si_, i_sl_, i_sr_, l_si_, l_sl_, l_sr_, r_si_, r_sl_, r_sr_, vr_s_, vr_n_, nz_0_, nz_1_, t0, eC, t1, q1, iq, e1, e2, a1, x1, c1, a2, x2, c2, a3, x3, c3]
set_option maxRecDepth 20000 in
set_option maxHeartbeats 4000000 in
theorem lw_3 (z : LW0 h0 n) (W : LWI h0 h) (hi : i + 7 ≤ n) : ∃ h2, (∀ Q, WP 101 mL_law 339 (lwL i) [] h Q = WP 101 mL_law 1851 (lwL i) [] h2 Q) ∧ LWI h0 h2 := by
  have ol := lw_ol z W.2.2
  obtain ⟨t0, i0⟩ := lw_sc z W.2.2
  have n2 := z.2.2.2
  have eC := W.1.1.1.e.1
  have a1 : nI i + 1 = nI (i + 1) := nI_a (b := 1)
  have x1 : am_in1 (nI (i + 1)) n = True := by rw [in1_n (by omega)]; exact eq_true (by omega)
  have c1 := nI_c (a := i + 1) (by omega)
  have o : opS XP 100 mX11_rule mX12_rule [.ref 0, .int (a_i h 1000000 (i + 1))] [.ref 126, .int (a_i h 1000000 (i + 1))] h := op_rule (d := 96) W.1 (v0 := a_i h 1000000 (i + 1))
  obtain ⟨r, h1, h2, e1, e2, o1, q1, W2⟩ := lw_two W o sC1 sR1 ⟨rfl, na_rule⟩
  obtain ⟨t1, i1⟩ := lw_sc z o1
  have iq : ∀ j, a_i h1 1000000 j = a_i h 1000000 j := fun j => (i1 j).trans (i0 j).symm
  refine ⟨h2, fun Q => ?_, W2⟩
  unfold lwL
  simp [w_aload_n1 (M := mL_law) dL_law_339, w_aload_n0 (M := mL_law) dL_law_340, w_iload_n3 (M := mL_law) dL_law_341, w_iconst (M := mL_law) (v := 1) dL_law_342 rfl, w_iadd (M := mL_law) dL_law_343, w_iaload (M := mL_law) dL_law_344, c_13_28 (M := mL_law) dL_law_345 rfl, w_aload_n2 (M := mL_law) dL_law_348, w_aload_n0 (M := mL_law) dL_law_349, w_iload_n3 (M := mL_law) dL_law_350, w_iconst (M := mL_law) (v := 1) dL_law_351 rfl, w_iadd (M := mL_law) dL_law_352, w_iaload (M := mL_law) dL_law_353, c_13_31 (M := mL_law) dL_law_354 rfl, w_ic_eq (M := mL_law) (tgt := 1851) dL_law_357 (by decide), w_iconst (M := mL_law) (v := 0) dL_law_360 rfl, w_ireturn (M := mL_law) dL_law_361 rfl, Kn_v_, Kn_n_, kl_i_, kl_a_, kl_l_, kl_n_, s1_0_, s2_0_, s1_1, s1_2, s1_3, s1_4, s1_5, s1_6, s1_7, s1_8, s1_9, s1_10, s1_11, s1_12, s1_13, s1_14, s2_1, s2_2, s2_3, s2_4, s2_5, s2_6, s2_7, s2_8, s2_9, s2_10, s2_11, s2_12, s2_13, s2_14, List.map_nil, List.map_cons, List.sum_nil, List.sum_cons, ct_i_, ct_r_, ct_l_, t_si_, t_sl_, t_sr_, n_si_, n_sl_, n_sr_, i_si_, i_sl_, i_sr_, l_si_, l_sl_, l_sr_, r_si_, r_sl_, r_sr_, vr_s_, vr_n_, nz_0_, nz_1_, t0, eC, t1, q1, iq, e1, e2, a1, x1, c1]
set_option maxRecDepth 20000 in
set_option maxHeartbeats 4000000 in
theorem lw_4 (z : LW0 h0 n) (W : LWI h0 h) (hi : i + 7 ≤ n) : ∃ h2, (∀ Q, WP 101 mL_law 362 (lwL i) [] h Q = WP 101 mL_law 1851 (lwL i) [] h2 Q) ∧ LWI h0 h2 := by
  have ol := lw_ol z W.2.2
  obtain ⟨t0, i0⟩ := lw_sc z W.2.2
  have n2 := z.2.2.2
  have eC := W.1.1.1.e.1
  have a1 : nI i + 1 = nI (i + 1) := nI_a (b := 1)
  have x1 : am_in1 (nI (i + 1)) n = True := by rw [in1_n (by omega)]; exact eq_true (by omega)
  have c1 := nI_c (a := i + 1) (by omega)
  have a2 : nI i + 2 = nI (i + 2) := nI_a (b := 2)
  have x2 : am_in1 (nI (i + 2)) n = True := by rw [in1_n (by omega)]; exact eq_true (by omega)
  have c2 := nI_c (a := i + 2) (by omega)
  have o : opS XP 100 mX11_speak mX12_speak [.ref 0, .int (a_i h 1000000 (i + 1)), .int (a_i h 1000000 (i + 2))] [.ref 126, .int (a_i h 1000000 (i + 1)), .int (a_i h 1000000 (i + 2))] h := op_speak (d := 96) W.1 (v0 := a_i h 1000000 (i + 1)) (v1 := a_i h 1000000 (i + 2))
  obtain ⟨r, h1, h2, e1, e2, o1, q1, W2⟩ := lw_two W o sC2 sR2 ⟨rfl, na_speak⟩
  obtain ⟨t1, i1⟩ := lw_sc z o1
  have iq : ∀ j, a_i h1 1000000 j = a_i h 1000000 j := fun j => (i1 j).trans (i0 j).symm
  refine ⟨h2, fun Q => ?_, W2⟩
  unfold lwL
  simp [w_aload_n1 (M := mL_law) dL_law_362, w_aload_n0 (M := mL_law) dL_law_363, w_iload_n3 (M := mL_law) dL_law_364, w_iconst (M := mL_law) (v := 1) dL_law_365 rfl, w_iadd (M := mL_law) dL_law_366, w_iaload (M := mL_law) dL_law_367, w_aload_n0 (M := mL_law) dL_law_368, w_iload_n3 (M := mL_law) dL_law_369, w_iconst (M := mL_law) (v := 2) dL_law_370 rfl, w_iadd (M := mL_law) dL_law_371, w_iaload (M := mL_law) dL_law_372, c_13_32 (M := mL_law) dL_law_373 rfl, w_aload_n2 (M := mL_law) dL_law_376, w_aload_n0 (M := mL_law) dL_law_377, w_iload_n3 (M := mL_law) dL_law_378, w_iconst (M := mL_law) (v := 1) dL_law_379 rfl, w_iadd (M := mL_law) dL_law_380, w_iaload (M := mL_law) dL_law_381, w_aload_n0 (M := mL_law) dL_law_382, w_iload_n3 (M := mL_law) dL_law_383, w_iconst (M := mL_law) (v := 2) dL_law_384 rfl, w_iadd (M := mL_law) dL_law_385, w_iaload (M := mL_law) dL_law_386, c_13_36 (M := mL_law) dL_law_387 rfl, w_ic_eq (M := mL_law) (tgt := 1851) dL_law_390 (by decide), w_iconst (M := mL_law) (v := 0) dL_law_393 rfl, w_ireturn (M := mL_law) dL_law_394 rfl, Kn_v_, Kn_n_, kl_i_, kl_a_, kl_l_, kl_n_, s1_0_, s2_0_, s1_1, s1_2, s1_3, s1_4, s1_5, s1_6, s1_7, s1_8, s1_9, s1_10, s1_11, s1_12, s1_13, s1_14, s2_1, s2_2, s2_3, s2_4, s2_5, s2_6, s2_7, s2_8, s2_9, s2_10, s2_11, s2_12, s2_13, s2_14, List.map_nil, List.map_cons, List.sum_nil, List.sum_cons, ct_i_, ct_r_, ct_l_, t_si_, t_sl_, t_sr_, n_si_, n_sl_, n_sr_, i_si_, i_sl_, i_sr_, l_si_, l_sl_, l_sr_, r_si_, r_sl_, r_sr_, vr_s_, vr_n_, nz_0_, nz_1_, t0, eC, t1, q1, iq, e1, e2, a1, x1, c1, a2, x2, c2]
set_option maxRecDepth 20000 in
set_option maxHeartbeats 4000000 in
theorem lw_5 (z : LW0 h0 n) (W : LWI h0 h) (hi : i + 7 ≤ n) : ∃ h2, (∀ Q, WP 101 mL_law 395 (lwL i) [] h Q = WP 101 mL_law 1851 (lwL i) [] h2 Q) ∧ LWI h0 h2 := by
  have ol := lw_ol z W.2.2
  obtain ⟨t0, i0⟩ := lw_sc z W.2.2
  have n2 := z.2.2.2
  have eC := W.1.1.1.e.1
  have a1 : nI i + 1 = nI (i + 1) := nI_a (b := 1)
  have x1 : am_in1 (nI (i + 1)) n = True := by rw [in1_n (by omega)]; exact eq_true (by omega)
  have c1 := nI_c (a := i + 1) (by omega)
  have o : opS XP 100 mX11_hush mX12_hush [.ref 0, .int (a_i h 1000000 (i + 1))] [.ref 126, .int (a_i h 1000000 (i + 1))] h := op_hush (d := 96) W.1 (v0 := a_i h 1000000 (i + 1))
  obtain ⟨r, h1, h2, e1, e2, o1, q1, W2⟩ := lw_two W o sC1 sR1 ⟨rfl, na_hush⟩
  obtain ⟨t1, i1⟩ := lw_sc z o1
  have iq : ∀ j, a_i h1 1000000 j = a_i h 1000000 j := fun j => (i1 j).trans (i0 j).symm
  refine ⟨h2, fun Q => ?_, W2⟩
  unfold lwL
  simp [w_aload_n1 (M := mL_law) dL_law_395, w_aload_n0 (M := mL_law) dL_law_396, w_iload_n3 (M := mL_law) dL_law_397, w_iconst (M := mL_law) (v := 1) dL_law_398 rfl, w_iadd (M := mL_law) dL_law_399, w_iaload (M := mL_law) dL_law_400, c_13_37 (M := mL_law) dL_law_401 rfl, w_aload_n2 (M := mL_law) dL_law_404, w_aload_n0 (M := mL_law) dL_law_405, w_iload_n3 (M := mL_law) dL_law_406, w_iconst (M := mL_law) (v := 1) dL_law_407 rfl, w_iadd (M := mL_law) dL_law_408, w_iaload (M := mL_law) dL_law_409, c_13_41 (M := mL_law) dL_law_410 rfl, w_ic_eq (M := mL_law) (tgt := 1851) dL_law_413 (by decide), w_iconst (M := mL_law) (v := 0) dL_law_416 rfl, w_ireturn (M := mL_law) dL_law_417 rfl, Kn_v_, Kn_n_, kl_i_, kl_a_, kl_l_, kl_n_, s1_0_, s2_0_, s1_1, s1_2, s1_3, s1_4, s1_5, s1_6, s1_7, s1_8, s1_9, s1_10, s1_11, s1_12, s1_13, s1_14, s2_1, s2_2, s2_3, s2_4, s2_5, s2_6, s2_7, s2_8, s2_9, s2_10, s2_11, s2_12, s2_13, s2_14, List.map_nil, List.map_cons, List.sum_nil, List.sum_cons, ct_i_, ct_r_, ct_l_, t_si_, t_sl_, t_sr_, n_si_, n_sl_, n_sr_, i_si_, i_sl_, i_sr_, l_si_, l_sl_, l_sr_, r_si_, r_sl_, r_sr_, vr_s_, vr_n_, nz_0_, nz_1_, t0, eC, t1, q1, iq, e1, e2, a1, x1, c1]
set_option maxRecDepth 20000 in
set_option maxHeartbeats 4000000 in
theorem lw_6 (z : LW0 h0 n) (W : LWI h0 h) (hi : i + 7 ≤ n) : ∃ h2, (∀ Q, WP 101 mL_law 418 (lwL i) [] h Q = WP 101 mL_law 1851 (lwL i) [] h2 Q) ∧ LWI h0 h2 := by
  have ol := lw_ol z W.2.2
  obtain ⟨t0, i0⟩ := lw_sc z W.2.2
  have n2 := z.2.2.2
  have eC := W.1.1.1.e.1
  have a1 : nI i + 1 = nI (i + 1) := nI_a (b := 1)
  have x1 : am_in1 (nI (i + 1)) n = True := by rw [in1_n (by omega)]; exact eq_true (by omega)
  have c1 := nI_c (a := i + 1) (by omega)
  have o : opS XP 100 mX11_yes mX12_yes [.ref 0, .int (a_i h 1000000 (i + 1))] [.ref 126, .int (a_i h 1000000 (i + 1))] h := op_yes (d := 96) W.1 (v0 := a_i h 1000000 (i + 1))
  obtain ⟨r, h1, h2, e1, e2, o1, q1, W2⟩ := lw_two W o sC1 sR1 ⟨rfl, na_yes⟩
  obtain ⟨t1, i1⟩ := lw_sc z o1
  have iq : ∀ j, a_i h1 1000000 j = a_i h 1000000 j := fun j => (i1 j).trans (i0 j).symm
  refine ⟨h2, fun Q => ?_, W2⟩
  unfold lwL
  simp [w_aload_n1 (M := mL_law) dL_law_418, w_aload_n0 (M := mL_law) dL_law_419, w_iload_n3 (M := mL_law) dL_law_420, w_iconst (M := mL_law) (v := 1) dL_law_421 rfl, w_iadd (M := mL_law) dL_law_422, w_iaload (M := mL_law) dL_law_423, c_13_42 (M := mL_law) dL_law_424 rfl, w_aload_n2 (M := mL_law) dL_law_427, w_aload_n0 (M := mL_law) dL_law_428, w_iload_n3 (M := mL_law) dL_law_429, w_iconst (M := mL_law) (v := 1) dL_law_430 rfl, w_iadd (M := mL_law) dL_law_431, w_iaload (M := mL_law) dL_law_432, c_13_45 (M := mL_law) dL_law_433 rfl, w_ic_eq (M := mL_law) (tgt := 1851) dL_law_436 (by decide), w_iconst (M := mL_law) (v := 0) dL_law_439 rfl, w_ireturn (M := mL_law) dL_law_440 rfl, Kn_v_, Kn_n_, kl_i_, kl_a_, kl_l_, kl_n_, s1_0_, s2_0_, s1_1, s1_2, s1_3, s1_4, s1_5, s1_6, s1_7, s1_8, s1_9, s1_10, s1_11, s1_12, s1_13, s1_14, s2_1, s2_2, s2_3, s2_4, s2_5, s2_6, s2_7, s2_8, s2_9, s2_10, s2_11, s2_12, s2_13, s2_14, List.map_nil, List.map_cons, List.sum_nil, List.sum_cons, ct_i_, ct_r_, ct_l_, t_si_, t_sl_, t_sr_, n_si_, n_sl_, n_sr_, i_si_, i_sl_, i_sr_, l_si_, l_sl_, l_sr_, r_si_, r_sl_, r_sr_, vr_s_, vr_n_, nz_0_, nz_1_, t0, eC, t1, q1, iq, e1, e2, a1, x1, c1]
set_option maxRecDepth 20000 in
set_option maxHeartbeats 4000000 in
theorem lw_7 (z : LW0 h0 n) (W : LWI h0 h) (hi : i + 7 ≤ n) : ∃ h2, (∀ Q, WP 101 mL_law 441 (lwL i) [] h Q = WP 101 mL_law 1851 (lwL i) [] h2 Q) ∧ LWI h0 h2 := by
  have ol := lw_ol z W.2.2
  obtain ⟨t0, i0⟩ := lw_sc z W.2.2
  have n2 := z.2.2.2
  have eC := W.1.1.1.e.1
  have a1 : nI i + 1 = nI (i + 1) := nI_a (b := 1)
  have x1 : am_in1 (nI (i + 1)) n = True := by rw [in1_n (by omega)]; exact eq_true (by omega)
  have c1 := nI_c (a := i + 1) (by omega)
  have o : opS XP 100 mX11_go mX12_go [.ref 0, .int (a_i h 1000000 (i + 1))] [.ref 126, .int (a_i h 1000000 (i + 1))] h := op_go (d := 92) W.1 ol (v0 := a_i h 1000000 (i + 1))
  obtain ⟨r, h1, h2, e1, e2, o1, q1, W2⟩ := lw_two W o sC1 sR1 ⟨rfl, na_go⟩
  obtain ⟨t1, i1⟩ := lw_sc z o1
  have iq : ∀ j, a_i h1 1000000 j = a_i h 1000000 j := fun j => (i1 j).trans (i0 j).symm
  refine ⟨h2, fun Q => ?_, W2⟩
  unfold lwL
  simp [w_aload_n1 (M := mL_law) dL_law_441, w_aload_n0 (M := mL_law) dL_law_442, w_iload_n3 (M := mL_law) dL_law_443, w_iconst (M := mL_law) (v := 1) dL_law_444 rfl, w_iadd (M := mL_law) dL_law_445, w_iaload (M := mL_law) dL_law_446, c_13_46 (M := mL_law) dL_law_447 rfl, w_aload_n2 (M := mL_law) dL_law_450, w_aload_n0 (M := mL_law) dL_law_451, w_iload_n3 (M := mL_law) dL_law_452, w_iconst (M := mL_law) (v := 1) dL_law_453 rfl, w_iadd (M := mL_law) dL_law_454, w_iaload (M := mL_law) dL_law_455, c_13_49 (M := mL_law) dL_law_456 rfl, w_ic_eq (M := mL_law) (tgt := 1851) dL_law_459 (by decide), w_iconst (M := mL_law) (v := 0) dL_law_462 rfl, w_ireturn (M := mL_law) dL_law_463 rfl, Kn_v_, Kn_n_, kl_i_, kl_a_, kl_l_, kl_n_, s1_0_, s2_0_, s1_1, s1_2, s1_3, s1_4, s1_5, s1_6, s1_7, s1_8, s1_9, s1_10, s1_11, s1_12, s1_13, s1_14, s2_1, s2_2, s2_3, s2_4, s2_5, s2_6, s2_7, s2_8, s2_9, s2_10, s2_11, s2_12, s2_13, s2_14, List.map_nil, List.map_cons, List.sum_nil, List.sum_cons, ct_i_, ct_r_, ct_l_, t_si_, t_sl_, t_sr_, n_si_, n_sl_, n_sr_, i_si_, i_sl_, i_sr_, l_si_, l_sl_, l_sr_, r_si_, r_sl_, r_sr_, vr_s_, vr_n_, nz_0_, nz_1_, t0, eC, t1, q1, iq, e1, e2, a1, x1, c1]
set_option maxRecDepth 20000 in
set_option maxHeartbeats 4000000 in
theorem lw_8 (z : LW0 h0 n) (W : LWI h0 h) (hi : i + 7 ≤ n) : ∃ h2, (∀ Q, WP 101 mL_law 464 (lwL i) [] h Q = WP 101 mL_law 1851 (lwL i) [] h2 Q) ∧ LWI h0 h2 := by
  have ol := lw_ol z W.2.2
  obtain ⟨t0, i0⟩ := lw_sc z W.2.2
  have n2 := z.2.2.2
  have eC := W.1.1.1.e.1
  have a1 : nI i + 1 = nI (i + 1) := nI_a (b := 1)
  have x1 : am_in1 (nI (i + 1)) n = True := by rw [in1_n (by omega)]; exact eq_true (by omega)
  have c1 := nI_c (a := i + 1) (by omega)
  have a2 : nI i + 2 = nI (i + 2) := nI_a (b := 2)
  have x2 : am_in1 (nI (i + 2)) n = True := by rw [in1_n (by omega)]; exact eq_true (by omega)
  have c2 := nI_c (a := i + 2) (by omega)
  have a3 : nI i + 3 = nI (i + 3) := nI_a (b := 3)
  have x3 : am_in1 (nI (i + 3)) n = True := by rw [in1_n (by omega)]; exact eq_true (by omega)
  have c3 := nI_c (a := i + 3) (by omega)
  have a4 : nI i + 4 = nI (i + 4) := nI_a (b := 4)
  have x4 : am_in1 (nI (i + 4)) n = True := by rw [in1_n (by omega)]; exact eq_true (by omega)
  have c4 := nI_c (a := i + 4) (by omega)
  have a5 : nI i + 5 = nI (i + 5) := nI_a (b := 5)
  have x5 : am_in1 (nI (i + 5)) n = True := by rw [in1_n (by omega)]; exact eq_true (by omega)
  have c5 := nI_c (a := i + 5) (by omega)
  have o : opS XP 100 mX11_feed mX12_feed [.ref 0, .int (a_i h 1000000 (i + 1)), .int (a_i h 1000000 (i + 2)), .int (a_i h 1000000 (i + 3)), .int (a_i h 1000000 (i + 4)), .int (a_i h 1000000 (i + 5))] [.ref 126, .int (a_i h 1000000 (i + 1)), .int (a_i h 1000000 (i + 2)), .int (a_i h 1000000 (i + 3)), .int (a_i h 1000000 (i + 4)), .int (a_i h 1000000 (i + 5))] h := op_feed (d := 99) W.1 (v0 := a_i h 1000000 (i + 1)) (v1 := a_i h 1000000 (i + 2)) (v2 := a_i h 1000000 (i + 3)) (v3 := a_i h 1000000 (i + 4)) (v4 := a_i h 1000000 (i + 5))
  obtain ⟨r, h1, h2, e1, e2, o1, q1, W2⟩ := lw_two W o sC5 sR5 ⟨rfl, na_feed⟩
  obtain ⟨t1, i1⟩ := lw_sc z o1
  have iq : ∀ j, a_i h1 1000000 j = a_i h 1000000 j := fun j => (i1 j).trans (i0 j).symm
  refine ⟨h2, fun Q => ?_, W2⟩
  unfold lwL
  simp [w_aload_n1 (M := mL_law) dL_law_464, w_aload_n0 (M := mL_law) dL_law_465, w_iload_n3 (M := mL_law) dL_law_466, w_iconst (M := mL_law) (v := 1) dL_law_467 rfl, w_iadd (M := mL_law) dL_law_468, w_iaload (M := mL_law) dL_law_469, w_aload_n0 (M := mL_law) dL_law_470, w_iload_n3 (M := mL_law) dL_law_471, w_iconst (M := mL_law) (v := 2) dL_law_472 rfl, w_iadd (M := mL_law) dL_law_473, w_iaload (M := mL_law) dL_law_474, w_aload_n0 (M := mL_law) dL_law_475, w_iload_n3 (M := mL_law) dL_law_476, w_iconst (M := mL_law) (v := 3) dL_law_477 rfl, w_iadd (M := mL_law) dL_law_478, w_iaload (M := mL_law) dL_law_479, w_aload_n0 (M := mL_law) dL_law_480, w_iload_n3 (M := mL_law) dL_law_481, w_iconst (M := mL_law) (v := 4) dL_law_482 rfl, w_iadd (M := mL_law) dL_law_483, w_iaload (M := mL_law) dL_law_484, w_aload_n0 (M := mL_law) dL_law_485, w_iload_n3 (M := mL_law) dL_law_486, w_iconst (M := mL_law) (v := 5) dL_law_487 rfl, w_iadd (M := mL_law) dL_law_488, w_iaload (M := mL_law) dL_law_489, c_13_50 (M := mL_law) dL_law_490 rfl, w_aload_n2 (M := mL_law) dL_law_493, w_aload_n0 (M := mL_law) dL_law_494, w_iload_n3 (M := mL_law) dL_law_495, w_iconst (M := mL_law) (v := 1) dL_law_496 rfl, w_iadd (M := mL_law) dL_law_497, w_iaload (M := mL_law) dL_law_498, w_aload_n0 (M := mL_law) dL_law_499, w_iload_n3 (M := mL_law) dL_law_500, w_iconst (M := mL_law) (v := 2) dL_law_501 rfl, w_iadd (M := mL_law) dL_law_502, w_iaload (M := mL_law) dL_law_503, w_aload_n0 (M := mL_law) dL_law_504, w_iload_n3 (M := mL_law) dL_law_505, w_iconst (M := mL_law) (v := 3) dL_law_506 rfl, w_iadd (M := mL_law) dL_law_507, w_iaload (M := mL_law) dL_law_508, w_aload_n0 (M := mL_law) dL_law_509, w_iload_n3 (M := mL_law) dL_law_510, w_iconst (M := mL_law) (v := 4) dL_law_511 rfl, w_iadd (M := mL_law) dL_law_512, w_iaload (M := mL_law) dL_law_513, w_aload_n0 (M := mL_law) dL_law_514, w_iload_n3 (M := mL_law) dL_law_515, w_iconst (M := mL_law) (v := 5) dL_law_516 rfl, w_iadd (M := mL_law) dL_law_517, w_iaload (M := mL_law) dL_law_518, c_13_54 (M := mL_law) dL_law_519 rfl, w_ic_eq (M := mL_law) (tgt := 1851) dL_law_522 (by decide), w_iconst (M := mL_law) (v := 0) dL_law_525 rfl, w_ireturn (M := mL_law) dL_law_526 rfl, Kn_v_, Kn_n_, kl_i_, kl_a_, kl_l_, kl_n_, s1_0_, s2_0_, s1_1, s1_2, s1_3, s1_4, s1_5, s1_6, s1_7, s1_8, s1_9, s1_10, s1_11, s1_12, s1_13, s1_14, s2_1, s2_2, s2_3, s2_4, s2_5, s2_6, s2_7, s2_8, s2_9, s2_10, s2_11, s2_12, s2_13, s2_14, List.map_nil, List.map_cons, List.sum_nil, List.sum_cons, ct_i_, ct_r_, ct_l_, t_si_, t_sl_, t_sr_, n_si_, n_sl_, n_sr_, i_si_, i_sl_, i_sr_, l_si_, l_sl_, l_sr_, r_si_, r_sl_, r_sr_, vr_s_, vr_n_, nz_0_, nz_1_, t0, eC, t1, q1, iq, e1, e2, a1, x1, c1, a2, x2, c2, a3, x3, c3, a4, x4, c4, a5, x5, c5]
set_option maxRecDepth 20000 in
set_option maxHeartbeats 4000000 in
theorem lw_9 (z : LW0 h0 n) (W : LWI h0 h) (hi : i + 7 ≤ n) : ∃ h2, (∀ Q, WP 101 mL_law 527 (lwL i) [] h Q = WP 101 mL_law 1851 (lwL i) [] h2 Q) ∧ LWI h0 h2 := by
  have ol := lw_ol z W.2.2
  obtain ⟨t0, i0⟩ := lw_sc z W.2.2
  have n2 := z.2.2.2
  have eC := W.1.1.1.e.1
  have a1 : nI i + 1 = nI (i + 1) := nI_a (b := 1)
  have x1 : am_in1 (nI (i + 1)) n = True := by rw [in1_n (by omega)]; exact eq_true (by omega)
  have c1 := nI_c (a := i + 1) (by omega)
  have o : opS XP 100 mX11_end mX12_end [.ref 0, .int (a_i h 1000000 (i + 1))] [.ref 126, .int (a_i h 1000000 (i + 1))] h := op_end (d := 99) W.1 (v0 := a_i h 1000000 (i + 1))
  obtain ⟨r, h1, h2, e1, e2, o1, q1, W2⟩ := lw_two W o sC1 sR1 ⟨rfl, na_end⟩
  obtain ⟨t1, i1⟩ := lw_sc z o1
  have iq : ∀ j, a_i h1 1000000 j = a_i h 1000000 j := fun j => (i1 j).trans (i0 j).symm
  refine ⟨h2, fun Q => ?_, W2⟩
  unfold lwL
  simp [w_aload_n1 (M := mL_law) dL_law_527, w_aload_n0 (M := mL_law) dL_law_528, w_iload_n3 (M := mL_law) dL_law_529, w_iconst (M := mL_law) (v := 1) dL_law_530 rfl, w_iadd (M := mL_law) dL_law_531, w_iaload (M := mL_law) dL_law_532, c_13_55 (M := mL_law) dL_law_533 rfl, w_aload_n2 (M := mL_law) dL_law_536, w_aload_n0 (M := mL_law) dL_law_537, w_iload_n3 (M := mL_law) dL_law_538, w_iconst (M := mL_law) (v := 1) dL_law_539 rfl, w_iadd (M := mL_law) dL_law_540, w_iaload (M := mL_law) dL_law_541, c_13_58 (M := mL_law) dL_law_542 rfl, w_ic_eq (M := mL_law) (tgt := 1851) dL_law_545 (by decide), w_iconst (M := mL_law) (v := 0) dL_law_548 rfl, w_ireturn (M := mL_law) dL_law_549 rfl, Kn_v_, Kn_n_, kl_i_, kl_a_, kl_l_, kl_n_, s1_0_, s2_0_, s1_1, s1_2, s1_3, s1_4, s1_5, s1_6, s1_7, s1_8, s1_9, s1_10, s1_11, s1_12, s1_13, s1_14, s2_1, s2_2, s2_3, s2_4, s2_5, s2_6, s2_7, s2_8, s2_9, s2_10, s2_11, s2_12, s2_13, s2_14, List.map_nil, List.map_cons, List.sum_nil, List.sum_cons, ct_i_, ct_r_, ct_l_, t_si_, t_sl_, t_sr_, n_si_, n_sl_, n_sr_, i_si_, i_sl_, i_sr_, l_si_, l_sl_, l_sr_, r_si_, r_sl_, r_sr_, vr_s_, vr_n_, nz_0_, nz_1_, t0, eC, t1, q1, iq, e1, e2, a1, x1, c1]
set_option maxRecDepth 20000 in
set_option maxHeartbeats 4000000 in
theorem lw_10 (z : LW0 h0 n) (W : LWI h0 h) (hi : i + 7 ≤ n) (tx : opS XP 100 mX11_text mX12_text [.ref 0] [.ref 126] h) : ∃ h2, (∀ Q, WP 101 mL_law 550 (lwL i) [] h Q = WP 101 mL_law 1851 (lwL i) [] h2 Q) ∧ LWI h0 h2 := by
  have ol := lw_ol z W.2.2
  obtain ⟨t0, i0⟩ := lw_sc z W.2.2
  have n2 := z.2.2.2
  have eC := W.1.1.1.e.1
  have o : opS XP 100 mX11_text mX12_text [.ref 0] [.ref 126] h := tx
  obtain ⟨r, h1, h2, e1, e2, o1, q1, W2⟩ := lw_two W o sC0 sR0 ⟨rfl, na_text⟩
  obtain ⟨t1, i1⟩ := lw_sc z o1
  have iq : ∀ j, a_i h1 1000000 j = a_i h 1000000 j := fun j => (i1 j).trans (i0 j).symm
  refine ⟨h2, fun Q => ?_, W2⟩
  unfold lwL
  simp [w_aload_n1 (M := mL_law) dL_law_550, c_13_59 (M := mL_law) dL_law_551 rfl, w_aload_n2 (M := mL_law) dL_law_554, c_13_63 (M := mL_law) dL_law_555 rfl, w_ic_eq (M := mL_law) (tgt := 1851) dL_law_558 (by decide), w_iconst (M := mL_law) (v := 0) dL_law_561 rfl, w_ireturn (M := mL_law) dL_law_562 rfl, Kn_v_, Kn_n_, kl_i_, kl_a_, kl_l_, kl_n_, s1_0_, s2_0_, s1_1, s1_2, s1_3, s1_4, s1_5, s1_6, s1_7, s1_8, s1_9, s1_10, s1_11, s1_12, s1_13, s1_14, s2_1, s2_2, s2_3, s2_4, s2_5, s2_6, s2_7, s2_8, s2_9, s2_10, s2_11, s2_12, s2_13, s2_14, List.map_nil, List.map_cons, List.sum_nil, List.sum_cons, ct_i_, ct_r_, ct_l_, t_si_, t_sl_, t_sr_, n_si_, n_sl_, n_sr_, i_si_, i_sl_, i_sr_, l_si_, l_sl_, l_sr_, r_si_, r_sl_, r_sr_, vr_s_, vr_n_, nz_0_, nz_1_, t0, eC, t1, q1, iq, e1, e2]
set_option maxRecDepth 20000 in
set_option maxHeartbeats 4000000 in
theorem lw_11 (z : LW0 h0 n) (W : LWI h0 h) (hi : i + 7 ≤ n) : ∃ h2, (∀ Q, WP 101 mL_law 563 (lwL i) [] h Q = WP 101 mL_law 1851 (lwL i) [] h2 Q) ∧ LWI h0 h2 := by
  have ol := lw_ol z W.2.2
  obtain ⟨t0, i0⟩ := lw_sc z W.2.2
  have n2 := z.2.2.2
  have eC := W.1.1.1.e.1
  have a1 : nI i + 1 = nI (i + 1) := nI_a (b := 1)
  have x1 : am_in1 (nI (i + 1)) n = True := by rw [in1_n (by omega)]; exact eq_true (by omega)
  have c1 := nI_c (a := i + 1) (by omega)
  have o : opS XP 100 mX11_fault mX12_fault [.ref 0, .int (a_i h 1000000 (i + 1))] [.ref 126, .int (a_i h 1000000 (i + 1))] h := op_fault (d := 100) W.1 (v0 := a_i h 1000000 (i + 1))
  obtain ⟨r, h1, h2, e1, e2, o1, q1, W2⟩ := lw_two W o sC1 sR1 ⟨rfl, na_fault⟩
  obtain ⟨t1, i1⟩ := lw_sc z o1
  have iq : ∀ j, a_i h1 1000000 j = a_i h 1000000 j := fun j => (i1 j).trans (i0 j).symm
  refine ⟨h2, fun Q => ?_, W2⟩
  unfold lwL
  simp [w_aload_n1 (M := mL_law) dL_law_563, w_aload_n0 (M := mL_law) dL_law_564, w_iload_n3 (M := mL_law) dL_law_565, w_iconst (M := mL_law) (v := 1) dL_law_566 rfl, w_iadd (M := mL_law) dL_law_567, w_iaload (M := mL_law) dL_law_568, c_13_64 (M := mL_law) dL_law_569 rfl, w_aload_n2 (M := mL_law) dL_law_572, w_aload_n0 (M := mL_law) dL_law_573, w_iload_n3 (M := mL_law) dL_law_574, w_iconst (M := mL_law) (v := 1) dL_law_575 rfl, w_iadd (M := mL_law) dL_law_576, w_iaload (M := mL_law) dL_law_577, c_13_67 (M := mL_law) dL_law_578 rfl, w_ic_eq (M := mL_law) (tgt := 1851) dL_law_581 (by decide), w_iconst (M := mL_law) (v := 0) dL_law_584 rfl, w_ireturn (M := mL_law) dL_law_585 rfl, Kn_v_, Kn_n_, kl_i_, kl_a_, kl_l_, kl_n_, s1_0_, s2_0_, s1_1, s1_2, s1_3, s1_4, s1_5, s1_6, s1_7, s1_8, s1_9, s1_10, s1_11, s1_12, s1_13, s1_14, s2_1, s2_2, s2_3, s2_4, s2_5, s2_6, s2_7, s2_8, s2_9, s2_10, s2_11, s2_12, s2_13, s2_14, List.map_nil, List.map_cons, List.sum_nil, List.sum_cons, ct_i_, ct_r_, ct_l_, t_si_, t_sl_, t_sr_, n_si_, n_sl_, n_sr_, i_si_, i_sl_, i_sr_, l_si_, l_sl_, l_sr_, r_si_, r_sl_, r_sr_, vr_s_, vr_n_, nz_0_, nz_1_, t0, eC, t1, q1, iq, e1, e2, a1, x1, c1]
set_option maxRecDepth 20000 in
set_option maxHeartbeats 4000000 in
theorem lw_12 (z : LW0 h0 n) (W : LWI h0 h) (hi : i + 7 ≤ n) : ∃ h2, (∀ Q, WP 101 mL_law 586 (lwL i) [] h Q = WP 101 mL_law 1851 (lwL i) [] h2 Q) ∧ LWI h0 h2 := by
  have ol := lw_ol z W.2.2
  obtain ⟨t0, i0⟩ := lw_sc z W.2.2
  have n2 := z.2.2.2
  have eC := W.1.1.1.e.1
  have a1 : nI i + 1 = nI (i + 1) := nI_a (b := 1)
  have x1 : am_in1 (nI (i + 1)) n = True := by rw [in1_n (by omega)]; exact eq_true (by omega)
  have c1 := nI_c (a := i + 1) (by omega)
  have o : opS XP 100 mX11_by mX12_by [.ref 0, .int (a_i h 1000000 (i + 1))] [.ref 126, .int (a_i h 1000000 (i + 1))] h := op_by (d := 99) W.1 (v0 := a_i h 1000000 (i + 1))
  obtain ⟨r, h1, h2, e1, e2, o1, q1, W2⟩ := lw_two W o sC1 sR1 ⟨rfl, na_by⟩
  obtain ⟨t1, i1⟩ := lw_sc z o1
  have iq : ∀ j, a_i h1 1000000 j = a_i h 1000000 j := fun j => (i1 j).trans (i0 j).symm
  refine ⟨h2, fun Q => ?_, W2⟩
  unfold lwL
  simp [w_aload_n1 (M := mL_law) dL_law_586, w_aload_n0 (M := mL_law) dL_law_587, w_iload_n3 (M := mL_law) dL_law_588, w_iconst (M := mL_law) (v := 1) dL_law_589 rfl, w_iadd (M := mL_law) dL_law_590, w_iaload (M := mL_law) dL_law_591, c_13_68 (M := mL_law) dL_law_592 rfl, w_aload_n2 (M := mL_law) dL_law_595, w_aload_n0 (M := mL_law) dL_law_596, w_iload_n3 (M := mL_law) dL_law_597, w_iconst (M := mL_law) (v := 1) dL_law_598 rfl, w_iadd (M := mL_law) dL_law_599, w_iaload (M := mL_law) dL_law_600, c_13_71 (M := mL_law) dL_law_601 rfl, w_ic_eq (M := mL_law) (tgt := 1851) dL_law_604 (by decide), w_iconst (M := mL_law) (v := 0) dL_law_607 rfl, w_ireturn (M := mL_law) dL_law_608 rfl, Kn_v_, Kn_n_, kl_i_, kl_a_, kl_l_, kl_n_, s1_0_, s2_0_, s1_1, s1_2, s1_3, s1_4, s1_5, s1_6, s1_7, s1_8, s1_9, s1_10, s1_11, s1_12, s1_13, s1_14, s2_1, s2_2, s2_3, s2_4, s2_5, s2_6, s2_7, s2_8, s2_9, s2_10, s2_11, s2_12, s2_13, s2_14, List.map_nil, List.map_cons, List.sum_nil, List.sum_cons, ct_i_, ct_r_, ct_l_, t_si_, t_sl_, t_sr_, n_si_, n_sl_, n_sr_, i_si_, i_sl_, i_sr_, l_si_, l_sl_, l_sr_, r_si_, r_sl_, r_sr_, vr_s_, vr_n_, nz_0_, nz_1_, t0, eC, t1, q1, iq, e1, e2, a1, x1, c1]
set_option maxRecDepth 20000 in
set_option maxHeartbeats 4000000 in
theorem lw_13 (z : LW0 h0 n) (W : LWI h0 h) (hi : i + 7 ≤ n) : ∃ h2, (∀ Q, WP 101 mL_law 609 (lwL i) [] h Q = WP 101 mL_law 1851 (lwL i) [] h2 Q) ∧ LWI h0 h2 := by
  have ol := lw_ol z W.2.2
  obtain ⟨t0, i0⟩ := lw_sc z W.2.2
  have n2 := z.2.2.2
  have eC := W.1.1.1.e.1
  have a1 : nI i + 1 = nI (i + 1) := nI_a (b := 1)
  have x1 : am_in1 (nI (i + 1)) n = True := by rw [in1_n (by omega)]; exact eq_true (by omega)
  have c1 := nI_c (a := i + 1) (by omega)
  have o : opS XP 100 mX11_played mX12_played [.ref 0, .int (a_i h 1000000 (i + 1))] [.ref 126, .int (a_i h 1000000 (i + 1))] h := op_played (d := 91) W.1 ol W.2.1 (v0 := a_i h 1000000 (i + 1))
  obtain ⟨r, h1, h2, e1, e2, o1, q1, W2⟩ := lw_two W o sC1 sR1 ⟨rfl, na_played⟩
  obtain ⟨t1, i1⟩ := lw_sc z o1
  have iq : ∀ j, a_i h1 1000000 j = a_i h 1000000 j := fun j => (i1 j).trans (i0 j).symm
  refine ⟨h2, fun Q => ?_, W2⟩
  unfold lwL
  simp [w_aload_n1 (M := mL_law) dL_law_609, w_aload_n0 (M := mL_law) dL_law_610, w_iload_n3 (M := mL_law) dL_law_611, w_iconst (M := mL_law) (v := 1) dL_law_612 rfl, w_iadd (M := mL_law) dL_law_613, w_iaload (M := mL_law) dL_law_614, c_13_72 (M := mL_law) dL_law_615 rfl, w_aload_n2 (M := mL_law) dL_law_618, w_aload_n0 (M := mL_law) dL_law_619, w_iload_n3 (M := mL_law) dL_law_620, w_iconst (M := mL_law) (v := 1) dL_law_621 rfl, w_iadd (M := mL_law) dL_law_622, w_iaload (M := mL_law) dL_law_623, c_13_75 (M := mL_law) dL_law_624 rfl, w_ic_eq (M := mL_law) (tgt := 1851) dL_law_627 (by decide), w_iconst (M := mL_law) (v := 0) dL_law_630 rfl, w_ireturn (M := mL_law) dL_law_631 rfl, Kn_v_, Kn_n_, kl_i_, kl_a_, kl_l_, kl_n_, s1_0_, s2_0_, s1_1, s1_2, s1_3, s1_4, s1_5, s1_6, s1_7, s1_8, s1_9, s1_10, s1_11, s1_12, s1_13, s1_14, s2_1, s2_2, s2_3, s2_4, s2_5, s2_6, s2_7, s2_8, s2_9, s2_10, s2_11, s2_12, s2_13, s2_14, List.map_nil, List.map_cons, List.sum_nil, List.sum_cons, ct_i_, ct_r_, ct_l_, t_si_, t_sl_, t_sr_, n_si_, n_sl_, n_sr_, i_si_, i_sl_, i_sr_, l_si_, l_sl_, l_sr_, r_si_, r_sl_, r_sr_, vr_s_, vr_n_, nz_0_, nz_1_, t0, eC, t1, q1, iq, e1, e2, a1, x1, c1]
set_option maxRecDepth 20000 in
set_option maxHeartbeats 4000000 in
theorem lw_14 (z : LW0 h0 n) (W : LWI h0 h) (hi : i + 7 ≤ n) : ∃ h2, (∀ Q, WP 101 mL_law 632 (lwL i) [] h Q = WP 101 mL_law 1851 (lwL i) [] h2 Q) ∧ LWI h0 h2 := by
  have ol := lw_ol z W.2.2
  obtain ⟨t0, i0⟩ := lw_sc z W.2.2
  have n2 := z.2.2.2
  have eC := W.1.1.1.e.1
  have o : opS XP 100 mX11_undo mX12_undo [.ref 0] [.ref 126] h := op_undo (d := 96) W.1 
  obtain ⟨r, h1, h2, e1, e2, o1, q1, W2⟩ := lw_two W o sC0 sR0 ⟨rfl, na_undo⟩
  obtain ⟨t1, i1⟩ := lw_sc z o1
  have iq : ∀ j, a_i h1 1000000 j = a_i h 1000000 j := fun j => (i1 j).trans (i0 j).symm
  refine ⟨h2, fun Q => ?_, W2⟩
  unfold lwL
  simp [w_aload_n1 (M := mL_law) dL_law_632, c_13_76 (M := mL_law) dL_law_633 rfl, w_aload_n2 (M := mL_law) dL_law_636, c_13_79 (M := mL_law) dL_law_637 rfl, w_ic_eq (M := mL_law) (tgt := 1851) dL_law_640 (by decide), w_iconst (M := mL_law) (v := 0) dL_law_643 rfl, w_ireturn (M := mL_law) dL_law_644 rfl, Kn_v_, Kn_n_, kl_i_, kl_a_, kl_l_, kl_n_, s1_0_, s2_0_, s1_1, s1_2, s1_3, s1_4, s1_5, s1_6, s1_7, s1_8, s1_9, s1_10, s1_11, s1_12, s1_13, s1_14, s2_1, s2_2, s2_3, s2_4, s2_5, s2_6, s2_7, s2_8, s2_9, s2_10, s2_11, s2_12, s2_13, s2_14, List.map_nil, List.map_cons, List.sum_nil, List.sum_cons, ct_i_, ct_r_, ct_l_, t_si_, t_sl_, t_sr_, n_si_, n_sl_, n_sr_, i_si_, i_sl_, i_sr_, l_si_, l_sl_, l_sr_, r_si_, r_sl_, r_sr_, vr_s_, vr_n_, nz_0_, nz_1_, t0, eC, t1, q1, iq, e1, e2]
set_option maxRecDepth 20000 in
set_option maxHeartbeats 4000000 in
theorem lw_15 (z : LW0 h0 n) (W : LWI h0 h) (hi : i + 7 ≤ n) : ∃ h2, (∀ Q, WP 101 mL_law 645 (lwL i) [] h Q = WP 101 mL_law 1851 (lwL i) [] h2 Q) ∧ LWI h0 h2 := by
  have ol := lw_ol z W.2.2
  obtain ⟨t0, i0⟩ := lw_sc z W.2.2
  have n2 := z.2.2.2
  have eC := W.1.1.1.e.1
  have a1 : nI i + 1 = nI (i + 1) := nI_a (b := 1)
  have x1 : am_in1 (nI (i + 1)) n = True := by rw [in1_n (by omega)]; exact eq_true (by omega)
  have c1 := nI_c (a := i + 1) (by omega)
  have a2 : nI i + 2 = nI (i + 2) := nI_a (b := 2)
  have x2 : am_in1 (nI (i + 2)) n = True := by rw [in1_n (by omega)]; exact eq_true (by omega)
  have c2 := nI_c (a := i + 2) (by omega)
  have o : opS XP 100 mX11_of mX12_of [.ref 0, .int (a_i h 1000000 (i + 1)), .int (a_i h 1000000 (i + 2))] [.ref 126, .int (a_i h 1000000 (i + 1)), .int (a_i h 1000000 (i + 2))] h := op_of (d := 98) W.1 (v0 := a_i h 1000000 (i + 1)) (v1 := a_i h 1000000 (i + 2))
  obtain ⟨r, h1, h2, e1, e2, o1, q1, W2⟩ := lw_two W o sC2 sR2 ⟨rfl, na_of⟩
  obtain ⟨t1, i1⟩ := lw_sc z o1
  have iq : ∀ j, a_i h1 1000000 j = a_i h 1000000 j := fun j => (i1 j).trans (i0 j).symm
  refine ⟨h2, fun Q => ?_, W2⟩
  unfold lwL
  simp [w_aload_n1 (M := mL_law) dL_law_645, w_aload_n0 (M := mL_law) dL_law_646, w_iload_n3 (M := mL_law) dL_law_647, w_iconst (M := mL_law) (v := 1) dL_law_648 rfl, w_iadd (M := mL_law) dL_law_649, w_iaload (M := mL_law) dL_law_650, w_aload_n0 (M := mL_law) dL_law_651, w_iload_n3 (M := mL_law) dL_law_652, w_iconst (M := mL_law) (v := 2) dL_law_653 rfl, w_iadd (M := mL_law) dL_law_654, w_iaload (M := mL_law) dL_law_655, c_13_80 (M := mL_law) dL_law_656 rfl, w_aload_n2 (M := mL_law) dL_law_659, w_aload_n0 (M := mL_law) dL_law_660, w_iload_n3 (M := mL_law) dL_law_661, w_iconst (M := mL_law) (v := 1) dL_law_662 rfl, w_iadd (M := mL_law) dL_law_663, w_iaload (M := mL_law) dL_law_664, w_aload_n0 (M := mL_law) dL_law_665, w_iload_n3 (M := mL_law) dL_law_666, w_iconst (M := mL_law) (v := 2) dL_law_667 rfl, w_iadd (M := mL_law) dL_law_668, w_iaload (M := mL_law) dL_law_669, c_13_83 (M := mL_law) dL_law_670 rfl, w_ic_eq (M := mL_law) (tgt := 1851) dL_law_673 (by decide), w_iconst (M := mL_law) (v := 0) dL_law_676 rfl, w_ireturn (M := mL_law) dL_law_677 rfl, Kn_v_, Kn_n_, kl_i_, kl_a_, kl_l_, kl_n_, s1_0_, s2_0_, s1_1, s1_2, s1_3, s1_4, s1_5, s1_6, s1_7, s1_8, s1_9, s1_10, s1_11, s1_12, s1_13, s1_14, s2_1, s2_2, s2_3, s2_4, s2_5, s2_6, s2_7, s2_8, s2_9, s2_10, s2_11, s2_12, s2_13, s2_14, List.map_nil, List.map_cons, List.sum_nil, List.sum_cons, ct_i_, ct_r_, ct_l_, t_si_, t_sl_, t_sr_, n_si_, n_sl_, n_sr_, i_si_, i_sl_, i_sr_, l_si_, l_sl_, l_sr_, r_si_, r_sl_, r_sr_, vr_s_, vr_n_, nz_0_, nz_1_, t0, eC, t1, q1, iq, e1, e2, a1, x1, c1, a2, x2, c2]
set_option maxRecDepth 20000 in
set_option maxHeartbeats 4000000 in
theorem lw_16 (z : LW0 h0 n) (W : LWI h0 h) (hi : i + 7 ≤ n) : ∃ h2, (∀ Q, WP 101 mL_law 678 (lwL i) [] h Q = WP 101 mL_law 1851 (lwL i) [] h2 Q) ∧ LWI h0 h2 := by
  have ol := lw_ol z W.2.2
  obtain ⟨t0, i0⟩ := lw_sc z W.2.2
  have n2 := z.2.2.2
  have eC := W.1.1.1.e.1
  have a1 : nI i + 1 = nI (i + 1) := nI_a (b := 1)
  have x1 : am_in1 (nI (i + 1)) n = True := by rw [in1_n (by omega)]; exact eq_true (by omega)
  have c1 := nI_c (a := i + 1) (by omega)
  have a2 : nI i + 2 = nI (i + 2) := nI_a (b := 2)
  have x2 : am_in1 (nI (i + 2)) n = True := by rw [in1_n (by omega)]; exact eq_true (by omega)
  have c2 := nI_c (a := i + 2) (by omega)
  have a3 : nI i + 3 = nI (i + 3) := nI_a (b := 3)
  have x3 : am_in1 (nI (i + 3)) n = True := by rw [in1_n (by omega)]; exact eq_true (by omega)
  have c3 := nI_c (a := i + 3) (by omega)
  by_cases b3 : a_i h 1000000 (i + 3) = 0
  · have o : opS XP 100 mX11_through mX12_through [.ref 0, .int (a_i h 1000000 (i + 1)), .int (a_i h 1000000 (i + 2)), .int (0)] [.ref 126, .int (a_i h 1000000 (i + 1)), .int (a_i h 1000000 (i + 2)), .int (0)] h := op_through (d := 97) W.1 (v0 := a_i h 1000000 (i + 1)) (v1 := a_i h 1000000 (i + 2)) (v2 := 0)
    obtain ⟨r, h1, h2, e1, e2, o1, q1, W2⟩ := lw_two W o sC3 sR3 ⟨rfl, na_through⟩
    obtain ⟨t1, i1⟩ := lw_sc z o1
    have iq : ∀ j, a_i h1 1000000 j = a_i h 1000000 j := fun j => (i1 j).trans (i0 j).symm
    refine ⟨h2, fun Q => ?_, W2⟩
    unfold lwL
    simp [w_aload_n1 (M := mL_law) dL_law_678, w_aload_n0 (M := mL_law) dL_law_679, w_iload_n3 (M := mL_law) dL_law_680, w_iconst (M := mL_law) (v := 1) dL_law_681 rfl, w_iadd (M := mL_law) dL_law_682, w_iaload (M := mL_law) dL_law_683, w_aload_n0 (M := mL_law) dL_law_684, w_iload_n3 (M := mL_law) dL_law_685, w_iconst (M := mL_law) (v := 2) dL_law_686 rfl, w_iadd (M := mL_law) dL_law_687, w_iaload (M := mL_law) dL_law_688, w_aload_n0 (M := mL_law) dL_law_689, w_iload_n3 (M := mL_law) dL_law_690, w_iconst (M := mL_law) (v := 3) dL_law_691 rfl, w_iadd (M := mL_law) dL_law_692, w_iaload (M := mL_law) dL_law_693, w_if_eq (M := mL_law) (tgt := 701) dL_law_694 (by decide), w_iconst (M := mL_law) (v := 1) dL_law_697 rfl, w_goto (M := mL_law) (tgt := 702) dL_law_698 (by decide), w_iconst (M := mL_law) (v := 0) dL_law_701 rfl, c_13_84 (M := mL_law) dL_law_702 rfl, w_aload_n2 (M := mL_law) dL_law_705, w_aload_n0 (M := mL_law) dL_law_706, w_iload_n3 (M := mL_law) dL_law_707, w_iconst (M := mL_law) (v := 1) dL_law_708 rfl, w_iadd (M := mL_law) dL_law_709, w_iaload (M := mL_law) dL_law_710, w_aload_n0 (M := mL_law) dL_law_711, w_iload_n3 (M := mL_law) dL_law_712, w_iconst (M := mL_law) (v := 2) dL_law_713 rfl, w_iadd (M := mL_law) dL_law_714, w_iaload (M := mL_law) dL_law_715, w_aload_n0 (M := mL_law) dL_law_716, w_iload_n3 (M := mL_law) dL_law_717, w_iconst (M := mL_law) (v := 3) dL_law_718 rfl, w_iadd (M := mL_law) dL_law_719, w_iaload (M := mL_law) dL_law_720, w_if_eq (M := mL_law) (tgt := 728) dL_law_721 (by decide), w_iconst (M := mL_law) (v := 1) dL_law_724 rfl, w_goto (M := mL_law) (tgt := 729) dL_law_725 (by decide), w_iconst (M := mL_law) (v := 0) dL_law_728 rfl, c_13_88 (M := mL_law) dL_law_729 rfl, w_ic_eq (M := mL_law) (tgt := 1851) dL_law_732 (by decide), w_iconst (M := mL_law) (v := 0) dL_law_735 rfl, w_ireturn (M := mL_law) dL_law_736 rfl, Kn_v_, Kn_n_, kl_i_, kl_a_, kl_l_, kl_n_, s1_0_, s2_0_, s1_1, s1_2, s1_3, s1_4, s1_5, s1_6, s1_7, s1_8, s1_9, s1_10, s1_11, s1_12, s1_13, s1_14, s2_1, s2_2, s2_3, s2_4, s2_5, s2_6, s2_7, s2_8, s2_9, s2_10, s2_11, s2_12, s2_13, s2_14, List.map_nil, List.map_cons, List.sum_nil, List.sum_cons, ct_i_, ct_r_, ct_l_, t_si_, t_sl_, t_sr_, n_si_, n_sl_, n_sr_, i_si_, i_sl_, i_sr_, l_si_, l_sl_, l_sr_, r_si_, r_sl_, r_sr_, vr_s_, vr_n_, nz_0_, nz_1_, t0, eC, t1, q1, iq, e1, e2, a1, x1, c1, a2, x2, c2, a3, x3, c3, b3]
  · have o : opS XP 100 mX11_through mX12_through [.ref 0, .int (a_i h 1000000 (i + 1)), .int (a_i h 1000000 (i + 2)), .int (1)] [.ref 126, .int (a_i h 1000000 (i + 1)), .int (a_i h 1000000 (i + 2)), .int (1)] h := op_through (d := 97) W.1 (v0 := a_i h 1000000 (i + 1)) (v1 := a_i h 1000000 (i + 2)) (v2 := 1)
    obtain ⟨r, h1, h2, e1, e2, o1, q1, W2⟩ := lw_two W o sC3 sR3 ⟨rfl, na_through⟩
    obtain ⟨t1, i1⟩ := lw_sc z o1
    have iq : ∀ j, a_i h1 1000000 j = a_i h 1000000 j := fun j => (i1 j).trans (i0 j).symm
    refine ⟨h2, fun Q => ?_, W2⟩
    unfold lwL
    simp [w_aload_n1 (M := mL_law) dL_law_678, w_aload_n0 (M := mL_law) dL_law_679, w_iload_n3 (M := mL_law) dL_law_680, w_iconst (M := mL_law) (v := 1) dL_law_681 rfl, w_iadd (M := mL_law) dL_law_682, w_iaload (M := mL_law) dL_law_683, w_aload_n0 (M := mL_law) dL_law_684, w_iload_n3 (M := mL_law) dL_law_685, w_iconst (M := mL_law) (v := 2) dL_law_686 rfl, w_iadd (M := mL_law) dL_law_687, w_iaload (M := mL_law) dL_law_688, w_aload_n0 (M := mL_law) dL_law_689, w_iload_n3 (M := mL_law) dL_law_690, w_iconst (M := mL_law) (v := 3) dL_law_691 rfl, w_iadd (M := mL_law) dL_law_692, w_iaload (M := mL_law) dL_law_693, w_if_eq (M := mL_law) (tgt := 701) dL_law_694 (by decide), w_iconst (M := mL_law) (v := 1) dL_law_697 rfl, w_goto (M := mL_law) (tgt := 702) dL_law_698 (by decide), w_iconst (M := mL_law) (v := 0) dL_law_701 rfl, c_13_84 (M := mL_law) dL_law_702 rfl, w_aload_n2 (M := mL_law) dL_law_705, w_aload_n0 (M := mL_law) dL_law_706, w_iload_n3 (M := mL_law) dL_law_707, w_iconst (M := mL_law) (v := 1) dL_law_708 rfl, w_iadd (M := mL_law) dL_law_709, w_iaload (M := mL_law) dL_law_710, w_aload_n0 (M := mL_law) dL_law_711, w_iload_n3 (M := mL_law) dL_law_712, w_iconst (M := mL_law) (v := 2) dL_law_713 rfl, w_iadd (M := mL_law) dL_law_714, w_iaload (M := mL_law) dL_law_715, w_aload_n0 (M := mL_law) dL_law_716, w_iload_n3 (M := mL_law) dL_law_717, w_iconst (M := mL_law) (v := 3) dL_law_718 rfl, w_iadd (M := mL_law) dL_law_719, w_iaload (M := mL_law) dL_law_720, w_if_eq (M := mL_law) (tgt := 728) dL_law_721 (by decide), w_iconst (M := mL_law) (v := 1) dL_law_724 rfl, w_goto (M := mL_law) (tgt := 729) dL_law_725 (by decide), w_iconst (M := mL_law) (v := 0) dL_law_728 rfl, c_13_88 (M := mL_law) dL_law_729 rfl, w_ic_eq (M := mL_law) (tgt := 1851) dL_law_732 (by decide), w_iconst (M := mL_law) (v := 0) dL_law_735 rfl, w_ireturn (M := mL_law) dL_law_736 rfl, Kn_v_, Kn_n_, kl_i_, kl_a_, kl_l_, kl_n_, s1_0_, s2_0_, s1_1, s1_2, s1_3, s1_4, s1_5, s1_6, s1_7, s1_8, s1_9, s1_10, s1_11, s1_12, s1_13, s1_14, s2_1, s2_2, s2_3, s2_4, s2_5, s2_6, s2_7, s2_8, s2_9, s2_10, s2_11, s2_12, s2_13, s2_14, List.map_nil, List.map_cons, List.sum_nil, List.sum_cons, ct_i_, ct_r_, ct_l_, t_si_, t_sl_, t_sr_, n_si_, n_sl_, n_sr_, i_si_, i_sl_, i_sr_, l_si_, l_sl_, l_sr_, r_si_, r_sl_, r_sr_, vr_s_, vr_n_, nz_0_, nz_1_, t0, eC, t1, q1, iq, e1, e2, a1, x1, c1, a2, x2, c2, a3, x3, c3, b3]
set_option maxRecDepth 20000 in
set_option maxHeartbeats 4000000 in
theorem lw_17 (z : LW0 h0 n) (W : LWI h0 h) (hi : i + 7 ≤ n) : ∃ h2, (∀ Q, WP 101 mL_law 737 (lwL i) [] h Q = WP 101 mL_law 1851 (lwL i) [] h2 Q) ∧ LWI h0 h2 := by
  have ol := lw_ol z W.2.2
  obtain ⟨t0, i0⟩ := lw_sc z W.2.2
  have n2 := z.2.2.2
  have eC := W.1.1.1.e.1
  have a1 : nI i + 1 = nI (i + 1) := nI_a (b := 1)
  have x1 : am_in1 (nI (i + 1)) n = True := by rw [in1_n (by omega)]; exact eq_true (by omega)
  have c1 := nI_c (a := i + 1) (by omega)
  have a2 : nI i + 2 = nI (i + 2) := nI_a (b := 2)
  have x2 : am_in1 (nI (i + 2)) n = True := by rw [in1_n (by omega)]; exact eq_true (by omega)
  have c2 := nI_c (a := i + 2) (by omega)
  have o : opS XP 100 mX11_turn mX12_turn [.ref 0, .int (a_i h 1000000 (i + 1)), .int (a_i h 1000000 (i + 2))] [.ref 126, .int (a_i h 1000000 (i + 1)), .int (a_i h 1000000 (i + 2))] h := op_turn (d := 98) W.1 (v0 := a_i h 1000000 (i + 1)) (v1 := a_i h 1000000 (i + 2))
  obtain ⟨r, h1, h2, e1, e2, o1, q1, W2⟩ := lw_two W o sC2 sR2 ⟨rfl, na_turn⟩
  obtain ⟨t1, i1⟩ := lw_sc z o1
  have iq : ∀ j, a_i h1 1000000 j = a_i h 1000000 j := fun j => (i1 j).trans (i0 j).symm
  refine ⟨h2, fun Q => ?_, W2⟩
  unfold lwL
  simp [w_aload_n1 (M := mL_law) dL_law_737, w_aload_n0 (M := mL_law) dL_law_738, w_iload_n3 (M := mL_law) dL_law_739, w_iconst (M := mL_law) (v := 1) dL_law_740 rfl, w_iadd (M := mL_law) dL_law_741, w_iaload (M := mL_law) dL_law_742, w_aload_n0 (M := mL_law) dL_law_743, w_iload_n3 (M := mL_law) dL_law_744, w_iconst (M := mL_law) (v := 2) dL_law_745 rfl, w_iadd (M := mL_law) dL_law_746, w_iaload (M := mL_law) dL_law_747, c_13_89 (M := mL_law) dL_law_748 rfl, w_aload_n2 (M := mL_law) dL_law_751, w_aload_n0 (M := mL_law) dL_law_752, w_iload_n3 (M := mL_law) dL_law_753, w_iconst (M := mL_law) (v := 1) dL_law_754 rfl, w_iadd (M := mL_law) dL_law_755, w_iaload (M := mL_law) dL_law_756, w_aload_n0 (M := mL_law) dL_law_757, w_iload_n3 (M := mL_law) dL_law_758, w_iconst (M := mL_law) (v := 2) dL_law_759 rfl, w_iadd (M := mL_law) dL_law_760, w_iaload (M := mL_law) dL_law_761, c_13_92 (M := mL_law) dL_law_762 rfl, w_ic_eq (M := mL_law) (tgt := 1851) dL_law_765 (by decide), w_iconst (M := mL_law) (v := 0) dL_law_768 rfl, w_ireturn (M := mL_law) dL_law_769 rfl, Kn_v_, Kn_n_, kl_i_, kl_a_, kl_l_, kl_n_, s1_0_, s2_0_, s1_1, s1_2, s1_3, s1_4, s1_5, s1_6, s1_7, s1_8, s1_9, s1_10, s1_11, s1_12, s1_13, s1_14, s2_1, s2_2, s2_3, s2_4, s2_5, s2_6, s2_7, s2_8, s2_9, s2_10, s2_11, s2_12, s2_13, s2_14, List.map_nil, List.map_cons, List.sum_nil, List.sum_cons, ct_i_, ct_r_, ct_l_, t_si_, t_sl_, t_sr_, n_si_, n_sl_, n_sr_, i_si_, i_sl_, i_sr_, l_si_, l_sl_, l_sr_, r_si_, r_sl_, r_sr_, vr_s_, vr_n_, nz_0_, nz_1_, t0, eC, t1, q1, iq, e1, e2, a1, x1, c1, a2, x2, c2]
set_option maxRecDepth 20000 in
set_option maxHeartbeats 4000000 in
theorem lw_18 (z : LW0 h0 n) (W : LWI h0 h) (hi : i + 7 ≤ n) : ∃ h2, (∀ Q, WP 101 mL_law 770 (lwL i) [] h Q = WP 101 mL_law 1851 (lwL i) [] h2 Q) ∧ LWI h0 h2 := by
  have ol := lw_ol z W.2.2
  obtain ⟨t0, i0⟩ := lw_sc z W.2.2
  have n2 := z.2.2.2
  have eC := W.1.1.1.e.1
  have a1 : nI i + 1 = nI (i + 1) := nI_a (b := 1)
  have x1 : am_in1 (nI (i + 1)) n = True := by rw [in1_n (by omega)]; exact eq_true (by omega)
  have c1 := nI_c (a := i + 1) (by omega)
  have a2 : nI i + 2 = nI (i + 2) := nI_a (b := 2)
  have x2 : am_in1 (nI (i + 2)) n = True := by rw [in1_n (by omega)]; exact eq_true (by omega)
  have c2 := nI_c (a := i + 2) (by omega)
  have o : opS XP 100 mX11_said mX12_said [.ref 0, .int (a_i h 1000000 (i + 1)), .int (a_i h 1000000 (i + 2))] [.ref 126, .int (a_i h 1000000 (i + 1)), .int (a_i h 1000000 (i + 2))] h := op_said (d := 96) W.1 (v0 := a_i h 1000000 (i + 1)) (v1 := a_i h 1000000 (i + 2))
  obtain ⟨r, h1, h2, e1, e2, o1, q1, W2⟩ := lw_two W o sC2 sR2 ⟨rfl, na_said⟩
  obtain ⟨t1, i1⟩ := lw_sc z o1
  have iq : ∀ j, a_i h1 1000000 j = a_i h 1000000 j := fun j => (i1 j).trans (i0 j).symm
  refine ⟨h2, fun Q => ?_, W2⟩
  unfold lwL
  simp [w_aload_n1 (M := mL_law) dL_law_770, w_aload_n0 (M := mL_law) dL_law_771, w_iload_n3 (M := mL_law) dL_law_772, w_iconst (M := mL_law) (v := 1) dL_law_773 rfl, w_iadd (M := mL_law) dL_law_774, w_iaload (M := mL_law) dL_law_775, w_aload_n0 (M := mL_law) dL_law_776, w_iload_n3 (M := mL_law) dL_law_777, w_iconst (M := mL_law) (v := 2) dL_law_778 rfl, w_iadd (M := mL_law) dL_law_779, w_iaload (M := mL_law) dL_law_780, c_13_93 (M := mL_law) dL_law_781 rfl, w_aload_n2 (M := mL_law) dL_law_784, w_aload_n0 (M := mL_law) dL_law_785, w_iload_n3 (M := mL_law) dL_law_786, w_iconst (M := mL_law) (v := 1) dL_law_787 rfl, w_iadd (M := mL_law) dL_law_788, w_iaload (M := mL_law) dL_law_789, w_aload_n0 (M := mL_law) dL_law_790, w_iload_n3 (M := mL_law) dL_law_791, w_iconst (M := mL_law) (v := 2) dL_law_792 rfl, w_iadd (M := mL_law) dL_law_793, w_iaload (M := mL_law) dL_law_794, c_13_96 (M := mL_law) dL_law_795 rfl, w_ic_eq (M := mL_law) (tgt := 1851) dL_law_798 (by decide), w_iconst (M := mL_law) (v := 0) dL_law_801 rfl, w_ireturn (M := mL_law) dL_law_802 rfl, Kn_v_, Kn_n_, kl_i_, kl_a_, kl_l_, kl_n_, s1_0_, s2_0_, s1_1, s1_2, s1_3, s1_4, s1_5, s1_6, s1_7, s1_8, s1_9, s1_10, s1_11, s1_12, s1_13, s1_14, s2_1, s2_2, s2_3, s2_4, s2_5, s2_6, s2_7, s2_8, s2_9, s2_10, s2_11, s2_12, s2_13, s2_14, List.map_nil, List.map_cons, List.sum_nil, List.sum_cons, ct_i_, ct_r_, ct_l_, t_si_, t_sl_, t_sr_, n_si_, n_sl_, n_sr_, i_si_, i_sl_, i_sr_, l_si_, l_sl_, l_sr_, r_si_, r_sl_, r_sr_, vr_s_, vr_n_, nz_0_, nz_1_, t0, eC, t1, q1, iq, e1, e2, a1, x1, c1, a2, x2, c2]
set_option maxRecDepth 20000 in
set_option maxHeartbeats 4000000 in
theorem lw_19 (z : LW0 h0 n) (W : LWI h0 h) (hi : i + 7 ≤ n) : ∃ h2, (∀ Q, WP 101 mL_law 803 (lwL i) [] h Q = WP 101 mL_law 1851 (lwL i) [] h2 Q) ∧ LWI h0 h2 := by
  have ol := lw_ol z W.2.2
  obtain ⟨t0, i0⟩ := lw_sc z W.2.2
  have n2 := z.2.2.2
  have eC := W.1.1.1.e.1
  have o : opS XP 100 mX11_misjoined mX12_misjoined [.ref 0] [.ref 126] h := op_misjoined (d := 95) W.1 
  obtain ⟨r, h1, h2, e1, e2, o1, q1, W2⟩ := lw_two W o sC0 sR0 ⟨rfl, na_misjoined⟩
  obtain ⟨t1, i1⟩ := lw_sc z o1
  have iq : ∀ j, a_i h1 1000000 j = a_i h 1000000 j := fun j => (i1 j).trans (i0 j).symm
  refine ⟨h2, fun Q => ?_, W2⟩
  unfold lwL
  simp [w_aload_n1 (M := mL_law) dL_law_803, c_13_97 (M := mL_law) dL_law_804 rfl, w_aload_n2 (M := mL_law) dL_law_807, c_13_100 (M := mL_law) dL_law_808 rfl, w_ic_eq (M := mL_law) (tgt := 1851) dL_law_811 (by decide), w_iconst (M := mL_law) (v := 0) dL_law_814 rfl, w_ireturn (M := mL_law) dL_law_815 rfl, Kn_v_, Kn_n_, kl_i_, kl_a_, kl_l_, kl_n_, s1_0_, s2_0_, s1_1, s1_2, s1_3, s1_4, s1_5, s1_6, s1_7, s1_8, s1_9, s1_10, s1_11, s1_12, s1_13, s1_14, s2_1, s2_2, s2_3, s2_4, s2_5, s2_6, s2_7, s2_8, s2_9, s2_10, s2_11, s2_12, s2_13, s2_14, List.map_nil, List.map_cons, List.sum_nil, List.sum_cons, ct_i_, ct_r_, ct_l_, t_si_, t_sl_, t_sr_, n_si_, n_sl_, n_sr_, i_si_, i_sl_, i_sr_, l_si_, l_sl_, l_sr_, r_si_, r_sl_, r_sr_, vr_s_, vr_n_, nz_0_, nz_1_, t0, eC, t1, q1, iq, e1, e2]
set_option maxRecDepth 20000 in
set_option maxHeartbeats 4000000 in
theorem lw_20 (z : LW0 h0 n) (W : LWI h0 h) (hi : i + 7 ≤ n) : ∃ h2, (∀ Q, WP 101 mL_law 816 (lwL i) [] h Q = WP 101 mL_law 1851 (lwL i) [] h2 Q) ∧ LWI h0 h2 := by
  have ol := lw_ol z W.2.2
  obtain ⟨t0, i0⟩ := lw_sc z W.2.2
  have n2 := z.2.2.2
  have eC := W.1.1.1.e.1
  have a1 : nI i + 1 = nI (i + 1) := nI_a (b := 1)
  have x1 : am_in1 (nI (i + 1)) n = True := by rw [in1_n (by omega)]; exact eq_true (by omega)
  have c1 := nI_c (a := i + 1) (by omega)
  have a2 : nI i + 2 = nI (i + 2) := nI_a (b := 2)
  have x2 : am_in1 (nI (i + 2)) n = True := by rw [in1_n (by omega)]; exact eq_true (by omega)
  have c2 := nI_c (a := i + 2) (by omega)
  have a3 : nI i + 3 = nI (i + 3) := nI_a (b := 3)
  have x3 : am_in1 (nI (i + 3)) n = True := by rw [in1_n (by omega)]; exact eq_true (by omega)
  have c3 := nI_c (a := i + 3) (by omega)
  have a4 : nI i + 4 = nI (i + 4) := nI_a (b := 4)
  have x4 : am_in1 (nI (i + 4)) n = True := by rw [in1_n (by omega)]; exact eq_true (by omega)
  have c4 := nI_c (a := i + 4) (by omega)
  have a5 : nI i + 5 = nI (i + 5) := nI_a (b := 5)
  have x5 : am_in1 (nI (i + 5)) n = True := by rw [in1_n (by omega)]; exact eq_true (by omega)
  have c5 := nI_c (a := i + 5) (by omega)
  have a6 : nI i + 6 = nI (i + 6) := nI_a (b := 6)
  have x6 : am_in1 (nI (i + 6)) n = True := by rw [in1_n (by omega)]; exact eq_true (by omega)
  have c6 := nI_c (a := i + 6) (by omega)
  by_cases b6 : a_i h 1000000 (i + 6) = 0
  · have o : opS XP 100 mX11_whose mX12_whose [.ref 0, .int (a_i h 1000000 (i + 1)), .int (a_i h 1000000 (i + 2)), .int (a_i h 1000000 (i + 3)), .int (a_i h 1000000 (i + 4)), .int (a_i h 1000000 (i + 5)), .int (0)] [.ref 126, .int (a_i h 1000000 (i + 1)), .int (a_i h 1000000 (i + 2)), .int (a_i h 1000000 (i + 3)), .int (a_i h 1000000 (i + 4)), .int (a_i h 1000000 (i + 5)), .int (0)] h := op_whose (d := 97) W.1 (v0 := a_i h 1000000 (i + 1)) (v1 := a_i h 1000000 (i + 2)) (v2 := a_i h 1000000 (i + 3)) (v3 := a_i h 1000000 (i + 4)) (v4 := a_i h 1000000 (i + 5)) (v5 := 0)
    obtain ⟨r, h1, h2, e1, e2, o1, q1, W2⟩ := lw_two W o sC6 sR6 ⟨rfl, na_whose⟩
    obtain ⟨t1, i1⟩ := lw_sc z o1
    have iq : ∀ j, a_i h1 1000000 j = a_i h 1000000 j := fun j => (i1 j).trans (i0 j).symm
    refine ⟨h2, fun Q => ?_, W2⟩
    unfold lwL
    simp [w_aload_n1 (M := mL_law) dL_law_816, w_aload_n0 (M := mL_law) dL_law_817, w_iload_n3 (M := mL_law) dL_law_818, w_iconst (M := mL_law) (v := 1) dL_law_819 rfl, w_iadd (M := mL_law) dL_law_820, w_iaload (M := mL_law) dL_law_821, w_aload_n0 (M := mL_law) dL_law_822, w_iload_n3 (M := mL_law) dL_law_823, w_iconst (M := mL_law) (v := 2) dL_law_824 rfl, w_iadd (M := mL_law) dL_law_825, w_iaload (M := mL_law) dL_law_826, w_aload_n0 (M := mL_law) dL_law_827, w_iload_n3 (M := mL_law) dL_law_828, w_iconst (M := mL_law) (v := 3) dL_law_829 rfl, w_iadd (M := mL_law) dL_law_830, w_iaload (M := mL_law) dL_law_831, w_aload_n0 (M := mL_law) dL_law_832, w_iload_n3 (M := mL_law) dL_law_833, w_iconst (M := mL_law) (v := 4) dL_law_834 rfl, w_iadd (M := mL_law) dL_law_835, w_iaload (M := mL_law) dL_law_836, w_aload_n0 (M := mL_law) dL_law_837, w_iload_n3 (M := mL_law) dL_law_838, w_iconst (M := mL_law) (v := 5) dL_law_839 rfl, w_iadd (M := mL_law) dL_law_840, w_iaload (M := mL_law) dL_law_841, w_aload_n0 (M := mL_law) dL_law_842, w_iload_n3 (M := mL_law) dL_law_843, w_bipush (M := mL_law) (v := 6) dL_law_844 rfl, w_iadd (M := mL_law) dL_law_846, w_iaload (M := mL_law) dL_law_847, w_if_eq (M := mL_law) (tgt := 855) dL_law_848 (by decide), w_iconst (M := mL_law) (v := 1) dL_law_851 rfl, w_goto (M := mL_law) (tgt := 856) dL_law_852 (by decide), w_iconst (M := mL_law) (v := 0) dL_law_855 rfl, c_13_101 (M := mL_law) dL_law_856 rfl, w_aload_n2 (M := mL_law) dL_law_859, w_aload_n0 (M := mL_law) dL_law_860, w_iload_n3 (M := mL_law) dL_law_861, w_iconst (M := mL_law) (v := 1) dL_law_862 rfl, w_iadd (M := mL_law) dL_law_863, w_iaload (M := mL_law) dL_law_864, w_aload_n0 (M := mL_law) dL_law_865, w_iload_n3 (M := mL_law) dL_law_866, w_iconst (M := mL_law) (v := 2) dL_law_867 rfl, w_iadd (M := mL_law) dL_law_868, w_iaload (M := mL_law) dL_law_869, w_aload_n0 (M := mL_law) dL_law_870, w_iload_n3 (M := mL_law) dL_law_871, w_iconst (M := mL_law) (v := 3) dL_law_872 rfl, w_iadd (M := mL_law) dL_law_873, w_iaload (M := mL_law) dL_law_874, w_aload_n0 (M := mL_law) dL_law_875, w_iload_n3 (M := mL_law) dL_law_876, w_iconst (M := mL_law) (v := 4) dL_law_877 rfl, w_iadd (M := mL_law) dL_law_878, w_iaload (M := mL_law) dL_law_879, w_aload_n0 (M := mL_law) dL_law_880, w_iload_n3 (M := mL_law) dL_law_881, w_iconst (M := mL_law) (v := 5) dL_law_882 rfl, w_iadd (M := mL_law) dL_law_883, w_iaload (M := mL_law) dL_law_884, w_aload_n0 (M := mL_law) dL_law_885, w_iload_n3 (M := mL_law) dL_law_886, w_bipush (M := mL_law) (v := 6) dL_law_887 rfl, w_iadd (M := mL_law) dL_law_889, w_iaload (M := mL_law) dL_law_890, w_if_eq (M := mL_law) (tgt := 898) dL_law_891 (by decide), w_iconst (M := mL_law) (v := 1) dL_law_894 rfl, w_goto (M := mL_law) (tgt := 899) dL_law_895 (by decide), w_iconst (M := mL_law) (v := 0) dL_law_898 rfl, c_13_105 (M := mL_law) dL_law_899 rfl, w_ic_eq (M := mL_law) (tgt := 1851) dL_law_902 (by decide), w_iconst (M := mL_law) (v := 0) dL_law_905 rfl, w_ireturn (M := mL_law) dL_law_906 rfl, Kn_v_, Kn_n_, kl_i_, kl_a_, kl_l_, kl_n_, s1_0_, s2_0_, s1_1, s1_2, s1_3, s1_4, s1_5, s1_6, s1_7, s1_8, s1_9, s1_10, s1_11, s1_12, s1_13, s1_14, s2_1, s2_2, s2_3, s2_4, s2_5, s2_6, s2_7, s2_8, s2_9, s2_10, s2_11, s2_12, s2_13, s2_14, List.map_nil, List.map_cons, List.sum_nil, List.sum_cons, ct_i_, ct_r_, ct_l_, t_si_, t_sl_, t_sr_, n_si_, n_sl_, n_sr_, i_si_, i_sl_, i_sr_, l_si_, l_sl_, l_sr_, r_si_, r_sl_, r_sr_, vr_s_, vr_n_, nz_0_, nz_1_, t0, eC, t1, q1, iq, e1, e2, a1, x1, c1, a2, x2, c2, a3, x3, c3, a4, x4, c4, a5, x5, c5, a6, x6, c6, b6]
  · have o : opS XP 100 mX11_whose mX12_whose [.ref 0, .int (a_i h 1000000 (i + 1)), .int (a_i h 1000000 (i + 2)), .int (a_i h 1000000 (i + 3)), .int (a_i h 1000000 (i + 4)), .int (a_i h 1000000 (i + 5)), .int (1)] [.ref 126, .int (a_i h 1000000 (i + 1)), .int (a_i h 1000000 (i + 2)), .int (a_i h 1000000 (i + 3)), .int (a_i h 1000000 (i + 4)), .int (a_i h 1000000 (i + 5)), .int (1)] h := op_whose (d := 97) W.1 (v0 := a_i h 1000000 (i + 1)) (v1 := a_i h 1000000 (i + 2)) (v2 := a_i h 1000000 (i + 3)) (v3 := a_i h 1000000 (i + 4)) (v4 := a_i h 1000000 (i + 5)) (v5 := 1)
    obtain ⟨r, h1, h2, e1, e2, o1, q1, W2⟩ := lw_two W o sC6 sR6 ⟨rfl, na_whose⟩
    obtain ⟨t1, i1⟩ := lw_sc z o1
    have iq : ∀ j, a_i h1 1000000 j = a_i h 1000000 j := fun j => (i1 j).trans (i0 j).symm
    refine ⟨h2, fun Q => ?_, W2⟩
    unfold lwL
    simp [w_aload_n1 (M := mL_law) dL_law_816, w_aload_n0 (M := mL_law) dL_law_817, w_iload_n3 (M := mL_law) dL_law_818, w_iconst (M := mL_law) (v := 1) dL_law_819 rfl, w_iadd (M := mL_law) dL_law_820, w_iaload (M := mL_law) dL_law_821, w_aload_n0 (M := mL_law) dL_law_822, w_iload_n3 (M := mL_law) dL_law_823, w_iconst (M := mL_law) (v := 2) dL_law_824 rfl, w_iadd (M := mL_law) dL_law_825, w_iaload (M := mL_law) dL_law_826, w_aload_n0 (M := mL_law) dL_law_827, w_iload_n3 (M := mL_law) dL_law_828, w_iconst (M := mL_law) (v := 3) dL_law_829 rfl, w_iadd (M := mL_law) dL_law_830, w_iaload (M := mL_law) dL_law_831, w_aload_n0 (M := mL_law) dL_law_832, w_iload_n3 (M := mL_law) dL_law_833, w_iconst (M := mL_law) (v := 4) dL_law_834 rfl, w_iadd (M := mL_law) dL_law_835, w_iaload (M := mL_law) dL_law_836, w_aload_n0 (M := mL_law) dL_law_837, w_iload_n3 (M := mL_law) dL_law_838, w_iconst (M := mL_law) (v := 5) dL_law_839 rfl, w_iadd (M := mL_law) dL_law_840, w_iaload (M := mL_law) dL_law_841, w_aload_n0 (M := mL_law) dL_law_842, w_iload_n3 (M := mL_law) dL_law_843, w_bipush (M := mL_law) (v := 6) dL_law_844 rfl, w_iadd (M := mL_law) dL_law_846, w_iaload (M := mL_law) dL_law_847, w_if_eq (M := mL_law) (tgt := 855) dL_law_848 (by decide), w_iconst (M := mL_law) (v := 1) dL_law_851 rfl, w_goto (M := mL_law) (tgt := 856) dL_law_852 (by decide), w_iconst (M := mL_law) (v := 0) dL_law_855 rfl, c_13_101 (M := mL_law) dL_law_856 rfl, w_aload_n2 (M := mL_law) dL_law_859, w_aload_n0 (M := mL_law) dL_law_860, w_iload_n3 (M := mL_law) dL_law_861, w_iconst (M := mL_law) (v := 1) dL_law_862 rfl, w_iadd (M := mL_law) dL_law_863, w_iaload (M := mL_law) dL_law_864, w_aload_n0 (M := mL_law) dL_law_865, w_iload_n3 (M := mL_law) dL_law_866, w_iconst (M := mL_law) (v := 2) dL_law_867 rfl, w_iadd (M := mL_law) dL_law_868, w_iaload (M := mL_law) dL_law_869, w_aload_n0 (M := mL_law) dL_law_870, w_iload_n3 (M := mL_law) dL_law_871, w_iconst (M := mL_law) (v := 3) dL_law_872 rfl, w_iadd (M := mL_law) dL_law_873, w_iaload (M := mL_law) dL_law_874, w_aload_n0 (M := mL_law) dL_law_875, w_iload_n3 (M := mL_law) dL_law_876, w_iconst (M := mL_law) (v := 4) dL_law_877 rfl, w_iadd (M := mL_law) dL_law_878, w_iaload (M := mL_law) dL_law_879, w_aload_n0 (M := mL_law) dL_law_880, w_iload_n3 (M := mL_law) dL_law_881, w_iconst (M := mL_law) (v := 5) dL_law_882 rfl, w_iadd (M := mL_law) dL_law_883, w_iaload (M := mL_law) dL_law_884, w_aload_n0 (M := mL_law) dL_law_885, w_iload_n3 (M := mL_law) dL_law_886, w_bipush (M := mL_law) (v := 6) dL_law_887 rfl, w_iadd (M := mL_law) dL_law_889, w_iaload (M := mL_law) dL_law_890, w_if_eq (M := mL_law) (tgt := 898) dL_law_891 (by decide), w_iconst (M := mL_law) (v := 1) dL_law_894 rfl, w_goto (M := mL_law) (tgt := 899) dL_law_895 (by decide), w_iconst (M := mL_law) (v := 0) dL_law_898 rfl, c_13_105 (M := mL_law) dL_law_899 rfl, w_ic_eq (M := mL_law) (tgt := 1851) dL_law_902 (by decide), w_iconst (M := mL_law) (v := 0) dL_law_905 rfl, w_ireturn (M := mL_law) dL_law_906 rfl, Kn_v_, Kn_n_, kl_i_, kl_a_, kl_l_, kl_n_, s1_0_, s2_0_, s1_1, s1_2, s1_3, s1_4, s1_5, s1_6, s1_7, s1_8, s1_9, s1_10, s1_11, s1_12, s1_13, s1_14, s2_1, s2_2, s2_3, s2_4, s2_5, s2_6, s2_7, s2_8, s2_9, s2_10, s2_11, s2_12, s2_13, s2_14, List.map_nil, List.map_cons, List.sum_nil, List.sum_cons, ct_i_, ct_r_, ct_l_, t_si_, t_sl_, t_sr_, n_si_, n_sl_, n_sr_, i_si_, i_sl_, i_sr_, l_si_, l_sl_, l_sr_, r_si_, r_sl_, r_sr_, vr_s_, vr_n_, nz_0_, nz_1_, t0, eC, t1, q1, iq, e1, e2, a1, x1, c1, a2, x2, c2, a3, x3, c3, a4, x4, c4, a5, x5, c5, a6, x6, c6, b6]
set_option maxRecDepth 20000 in
set_option maxHeartbeats 4000000 in
theorem lw_21 (z : LW0 h0 n) (W : LWI h0 h) (hi : i + 7 ≤ n) : ∃ h2, (∀ Q, WP 101 mL_law 907 (lwL i) [] h Q = WP 101 mL_law 1851 (lwL i) [] h2 Q) ∧ LWI h0 h2 := by
  have ol := lw_ol z W.2.2
  obtain ⟨t0, i0⟩ := lw_sc z W.2.2
  have n2 := z.2.2.2
  have eC := W.1.1.1.e.1
  have a1 : nI i + 1 = nI (i + 1) := nI_a (b := 1)
  have x1 : am_in1 (nI (i + 1)) n = True := by rw [in1_n (by omega)]; exact eq_true (by omega)
  have c1 := nI_c (a := i + 1) (by omega)
  have a2 : nI i + 2 = nI (i + 2) := nI_a (b := 2)
  have x2 : am_in1 (nI (i + 2)) n = True := by rw [in1_n (by omega)]; exact eq_true (by omega)
  have c2 := nI_c (a := i + 2) (by omega)
  have a3 : nI i + 3 = nI (i + 3) := nI_a (b := 3)
  have x3 : am_in1 (nI (i + 3)) n = True := by rw [in1_n (by omega)]; exact eq_true (by omega)
  have c3 := nI_c (a := i + 3) (by omega)
  have o : opS XP 100 mX11_first mX12_first [.ref 0, .int (a_i h 1000000 (i + 1)), .int (a_i h 1000000 (i + 2)), .int (a_i h 1000000 (i + 3))] [.ref 126, .int (a_i h 1000000 (i + 1)), .int (a_i h 1000000 (i + 2)), .int (a_i h 1000000 (i + 3))] h := op_first (d := 97) W.1 (v0 := a_i h 1000000 (i + 1)) (v1 := a_i h 1000000 (i + 2)) (v2 := a_i h 1000000 (i + 3))
  obtain ⟨r, h1, h2, e1, e2, o1, q1, W2⟩ := lw_two W o sC3 sR3 ⟨rfl, na_first⟩
  obtain ⟨t1, i1⟩ := lw_sc z o1
  have iq : ∀ j, a_i h1 1000000 j = a_i h 1000000 j := fun j => (i1 j).trans (i0 j).symm
  refine ⟨h2, fun Q => ?_, W2⟩
  unfold lwL
  simp [w_aload_n1 (M := mL_law) dL_law_907, w_aload_n0 (M := mL_law) dL_law_908, w_iload_n3 (M := mL_law) dL_law_909, w_iconst (M := mL_law) (v := 1) dL_law_910 rfl, w_iadd (M := mL_law) dL_law_911, w_iaload (M := mL_law) dL_law_912, w_aload_n0 (M := mL_law) dL_law_913, w_iload_n3 (M := mL_law) dL_law_914, w_iconst (M := mL_law) (v := 2) dL_law_915 rfl, w_iadd (M := mL_law) dL_law_916, w_iaload (M := mL_law) dL_law_917, w_aload_n0 (M := mL_law) dL_law_918, w_iload_n3 (M := mL_law) dL_law_919, w_iconst (M := mL_law) (v := 3) dL_law_920 rfl, w_iadd (M := mL_law) dL_law_921, w_iaload (M := mL_law) dL_law_922, c_13_106 (M := mL_law) dL_law_923 rfl, w_aload_n2 (M := mL_law) dL_law_926, w_aload_n0 (M := mL_law) dL_law_927, w_iload_n3 (M := mL_law) dL_law_928, w_iconst (M := mL_law) (v := 1) dL_law_929 rfl, w_iadd (M := mL_law) dL_law_930, w_iaload (M := mL_law) dL_law_931, w_aload_n0 (M := mL_law) dL_law_932, w_iload_n3 (M := mL_law) dL_law_933, w_iconst (M := mL_law) (v := 2) dL_law_934 rfl, w_iadd (M := mL_law) dL_law_935, w_iaload (M := mL_law) dL_law_936, w_aload_n0 (M := mL_law) dL_law_937, w_iload_n3 (M := mL_law) dL_law_938, w_iconst (M := mL_law) (v := 3) dL_law_939 rfl, w_iadd (M := mL_law) dL_law_940, w_iaload (M := mL_law) dL_law_941, c_13_110 (M := mL_law) dL_law_942 rfl, w_ic_eq (M := mL_law) (tgt := 1851) dL_law_945 (by decide), w_iconst (M := mL_law) (v := 0) dL_law_948 rfl, w_ireturn (M := mL_law) dL_law_949 rfl, Kn_v_, Kn_n_, kl_i_, kl_a_, kl_l_, kl_n_, s1_0_, s2_0_, s1_1, s1_2, s1_3, s1_4, s1_5, s1_6, s1_7, s1_8, s1_9, s1_10, s1_11, s1_12, s1_13, s1_14, s2_1, s2_2, s2_3, s2_4, s2_5, s2_6, s2_7, s2_8, s2_9, s2_10, s2_11, s2_12, s2_13, s2_14, List.map_nil, List.map_cons, List.sum_nil, List.sum_cons, ct_i_, ct_r_, ct_l_, t_si_, t_sl_, t_sr_, n_si_, n_sl_, n_sr_, i_si_, i_sl_, i_sr_, l_si_, l_sl_, l_sr_, r_si_, r_sl_, r_sr_, vr_s_, vr_n_, nz_0_, nz_1_, t0, eC, t1, q1, iq, e1, e2, a1, x1, c1, a2, x2, c2, a3, x3, c3]
set_option maxRecDepth 20000 in
set_option maxHeartbeats 4000000 in
theorem lw_22 (z : LW0 h0 n) (W : LWI h0 h) (hi : i + 7 ≤ n) : ∃ h2, (∀ Q, WP 101 mL_law 950 (lwL i) [] h Q = WP 101 mL_law 1851 (lwL i) [] h2 Q) ∧ LWI h0 h2 := by
  have ol := lw_ol z W.2.2
  obtain ⟨t0, i0⟩ := lw_sc z W.2.2
  have n2 := z.2.2.2
  have eC := W.1.1.1.e.1
  have a1 : nI i + 1 = nI (i + 1) := nI_a (b := 1)
  have x1 : am_in1 (nI (i + 1)) n = True := by rw [in1_n (by omega)]; exact eq_true (by omega)
  have c1 := nI_c (a := i + 1) (by omega)
  have a2 : nI i + 2 = nI (i + 2) := nI_a (b := 2)
  have x2 : am_in1 (nI (i + 2)) n = True := by rw [in1_n (by omega)]; exact eq_true (by omega)
  have c2 := nI_c (a := i + 2) (by omega)
  have a3 : nI i + 3 = nI (i + 3) := nI_a (b := 3)
  have x3 : am_in1 (nI (i + 3)) n = True := by rw [in1_n (by omega)]; exact eq_true (by omega)
  have c3 := nI_c (a := i + 3) (by omega)
  by_cases b3 : a_i h 1000000 (i + 3) = 0
  · have o : opS XP 100 mX11_cold mX12_cold [.ref 0, .int (a_i h 1000000 (i + 1)), .int (a_i h 1000000 (i + 2)), .int (0)] [.ref 126, .int (a_i h 1000000 (i + 1)), .int (a_i h 1000000 (i + 2)), .int (0)] h := op_cold (d := 96) W.1 ol (v0 := a_i h 1000000 (i + 1)) (v1 := a_i h 1000000 (i + 2)) (v2 := 0)
    obtain ⟨r, h1, h2, e1, e2, o1, q1, W2⟩ := lw_two W o sC3 sR3 ⟨rfl, na_cold⟩
    obtain ⟨t1, i1⟩ := lw_sc z o1
    have iq : ∀ j, a_i h1 1000000 j = a_i h 1000000 j := fun j => (i1 j).trans (i0 j).symm
    refine ⟨h2, fun Q => ?_, W2⟩
    unfold lwL
    simp [w_aload_n1 (M := mL_law) dL_law_950, w_aload_n0 (M := mL_law) dL_law_951, w_iload_n3 (M := mL_law) dL_law_952, w_iconst (M := mL_law) (v := 1) dL_law_953 rfl, w_iadd (M := mL_law) dL_law_954, w_iaload (M := mL_law) dL_law_955, w_aload_n0 (M := mL_law) dL_law_956, w_iload_n3 (M := mL_law) dL_law_957, w_iconst (M := mL_law) (v := 2) dL_law_958 rfl, w_iadd (M := mL_law) dL_law_959, w_iaload (M := mL_law) dL_law_960, w_aload_n0 (M := mL_law) dL_law_961, w_iload_n3 (M := mL_law) dL_law_962, w_iconst (M := mL_law) (v := 3) dL_law_963 rfl, w_iadd (M := mL_law) dL_law_964, w_iaload (M := mL_law) dL_law_965, w_if_eq (M := mL_law) (tgt := 973) dL_law_966 (by decide), w_iconst (M := mL_law) (v := 1) dL_law_969 rfl, w_goto (M := mL_law) (tgt := 974) dL_law_970 (by decide), w_iconst (M := mL_law) (v := 0) dL_law_973 rfl, c_13_111 (M := mL_law) dL_law_974 rfl, w_aload_n2 (M := mL_law) dL_law_977, w_aload_n0 (M := mL_law) dL_law_978, w_iload_n3 (M := mL_law) dL_law_979, w_iconst (M := mL_law) (v := 1) dL_law_980 rfl, w_iadd (M := mL_law) dL_law_981, w_iaload (M := mL_law) dL_law_982, w_aload_n0 (M := mL_law) dL_law_983, w_iload_n3 (M := mL_law) dL_law_984, w_iconst (M := mL_law) (v := 2) dL_law_985 rfl, w_iadd (M := mL_law) dL_law_986, w_iaload (M := mL_law) dL_law_987, w_aload_n0 (M := mL_law) dL_law_988, w_iload_n3 (M := mL_law) dL_law_989, w_iconst (M := mL_law) (v := 3) dL_law_990 rfl, w_iadd (M := mL_law) dL_law_991, w_iaload (M := mL_law) dL_law_992, w_if_eq (M := mL_law) (tgt := 1000) dL_law_993 (by decide), w_iconst (M := mL_law) (v := 1) dL_law_996 rfl, w_goto (M := mL_law) (tgt := 1001) dL_law_997 (by decide), w_iconst (M := mL_law) (v := 0) dL_law_1000 rfl, c_13_114 (M := mL_law) dL_law_1001 rfl, w_ic_eq (M := mL_law) (tgt := 1851) dL_law_1004 (by decide), w_iconst (M := mL_law) (v := 0) dL_law_1007 rfl, w_ireturn (M := mL_law) dL_law_1008 rfl, Kn_v_, Kn_n_, kl_i_, kl_a_, kl_l_, kl_n_, s1_0_, s2_0_, s1_1, s1_2, s1_3, s1_4, s1_5, s1_6, s1_7, s1_8, s1_9, s1_10, s1_11, s1_12, s1_13, s1_14, s2_1, s2_2, s2_3, s2_4, s2_5, s2_6, s2_7, s2_8, s2_9, s2_10, s2_11, s2_12, s2_13, s2_14, List.map_nil, List.map_cons, List.sum_nil, List.sum_cons, ct_i_, ct_r_, ct_l_, t_si_, t_sl_, t_sr_, n_si_, n_sl_, n_sr_, i_si_, i_sl_, i_sr_, l_si_, l_sl_, l_sr_, r_si_, r_sl_, r_sr_, vr_s_, vr_n_, nz_0_, nz_1_, t0, eC, t1, q1, iq, e1, e2, a1, x1, c1, a2, x2, c2, a3, x3, c3, b3]
  · have o : opS XP 100 mX11_cold mX12_cold [.ref 0, .int (a_i h 1000000 (i + 1)), .int (a_i h 1000000 (i + 2)), .int (1)] [.ref 126, .int (a_i h 1000000 (i + 1)), .int (a_i h 1000000 (i + 2)), .int (1)] h := op_cold (d := 96) W.1 ol (v0 := a_i h 1000000 (i + 1)) (v1 := a_i h 1000000 (i + 2)) (v2 := 1)
    obtain ⟨r, h1, h2, e1, e2, o1, q1, W2⟩ := lw_two W o sC3 sR3 ⟨rfl, na_cold⟩
    obtain ⟨t1, i1⟩ := lw_sc z o1
    have iq : ∀ j, a_i h1 1000000 j = a_i h 1000000 j := fun j => (i1 j).trans (i0 j).symm
    refine ⟨h2, fun Q => ?_, W2⟩
    unfold lwL
    simp [w_aload_n1 (M := mL_law) dL_law_950, w_aload_n0 (M := mL_law) dL_law_951, w_iload_n3 (M := mL_law) dL_law_952, w_iconst (M := mL_law) (v := 1) dL_law_953 rfl, w_iadd (M := mL_law) dL_law_954, w_iaload (M := mL_law) dL_law_955, w_aload_n0 (M := mL_law) dL_law_956, w_iload_n3 (M := mL_law) dL_law_957, w_iconst (M := mL_law) (v := 2) dL_law_958 rfl, w_iadd (M := mL_law) dL_law_959, w_iaload (M := mL_law) dL_law_960, w_aload_n0 (M := mL_law) dL_law_961, w_iload_n3 (M := mL_law) dL_law_962, w_iconst (M := mL_law) (v := 3) dL_law_963 rfl, w_iadd (M := mL_law) dL_law_964, w_iaload (M := mL_law) dL_law_965, w_if_eq (M := mL_law) (tgt := 973) dL_law_966 (by decide), w_iconst (M := mL_law) (v := 1) dL_law_969 rfl, w_goto (M := mL_law) (tgt := 974) dL_law_970 (by decide), w_iconst (M := mL_law) (v := 0) dL_law_973 rfl, c_13_111 (M := mL_law) dL_law_974 rfl, w_aload_n2 (M := mL_law) dL_law_977, w_aload_n0 (M := mL_law) dL_law_978, w_iload_n3 (M := mL_law) dL_law_979, w_iconst (M := mL_law) (v := 1) dL_law_980 rfl, w_iadd (M := mL_law) dL_law_981, w_iaload (M := mL_law) dL_law_982, w_aload_n0 (M := mL_law) dL_law_983, w_iload_n3 (M := mL_law) dL_law_984, w_iconst (M := mL_law) (v := 2) dL_law_985 rfl, w_iadd (M := mL_law) dL_law_986, w_iaload (M := mL_law) dL_law_987, w_aload_n0 (M := mL_law) dL_law_988, w_iload_n3 (M := mL_law) dL_law_989, w_iconst (M := mL_law) (v := 3) dL_law_990 rfl, w_iadd (M := mL_law) dL_law_991, w_iaload (M := mL_law) dL_law_992, w_if_eq (M := mL_law) (tgt := 1000) dL_law_993 (by decide), w_iconst (M := mL_law) (v := 1) dL_law_996 rfl, w_goto (M := mL_law) (tgt := 1001) dL_law_997 (by decide), w_iconst (M := mL_law) (v := 0) dL_law_1000 rfl, c_13_114 (M := mL_law) dL_law_1001 rfl, w_ic_eq (M := mL_law) (tgt := 1851) dL_law_1004 (by decide), w_iconst (M := mL_law) (v := 0) dL_law_1007 rfl, w_ireturn (M := mL_law) dL_law_1008 rfl, Kn_v_, Kn_n_, kl_i_, kl_a_, kl_l_, kl_n_, s1_0_, s2_0_, s1_1, s1_2, s1_3, s1_4, s1_5, s1_6, s1_7, s1_8, s1_9, s1_10, s1_11, s1_12, s1_13, s1_14, s2_1, s2_2, s2_3, s2_4, s2_5, s2_6, s2_7, s2_8, s2_9, s2_10, s2_11, s2_12, s2_13, s2_14, List.map_nil, List.map_cons, List.sum_nil, List.sum_cons, ct_i_, ct_r_, ct_l_, t_si_, t_sl_, t_sr_, n_si_, n_sl_, n_sr_, i_si_, i_sl_, i_sr_, l_si_, l_sl_, l_sr_, r_si_, r_sl_, r_sr_, vr_s_, vr_n_, nz_0_, nz_1_, t0, eC, t1, q1, iq, e1, e2, a1, x1, c1, a2, x2, c2, a3, x3, c3, b3]
set_option maxRecDepth 20000 in
set_option maxHeartbeats 4000000 in
theorem lw_23 (z : LW0 h0 n) (W : LWI h0 h) (hi : i + 7 ≤ n) : ∃ h2, (∀ Q, WP 101 mL_law 1009 (lwL i) [] h Q = WP 101 mL_law 1851 (lwL i) [] h2 Q) ∧ LWI h0 h2 := by
  have ol := lw_ol z W.2.2
  obtain ⟨t0, i0⟩ := lw_sc z W.2.2
  have n2 := z.2.2.2
  have eC := W.1.1.1.e.1
  have a1 : nI i + 1 = nI (i + 1) := nI_a (b := 1)
  have x1 : am_in1 (nI (i + 1)) n = True := by rw [in1_n (by omega)]; exact eq_true (by omega)
  have c1 := nI_c (a := i + 1) (by omega)
  have a2 : nI i + 2 = nI (i + 2) := nI_a (b := 2)
  have x2 : am_in1 (nI (i + 2)) n = True := by rw [in1_n (by omega)]; exact eq_true (by omega)
  have c2 := nI_c (a := i + 2) (by omega)
  have a3 : nI i + 3 = nI (i + 3) := nI_a (b := 3)
  have x3 : am_in1 (nI (i + 3)) n = True := by rw [in1_n (by omega)]; exact eq_true (by omega)
  have c3 := nI_c (a := i + 3) (by omega)
  by_cases b3 : a_i h 1000000 (i + 3) = 0
  · have o : opS XP 100 mX11_haste mX12_haste [.ref 0, .int (a_i h 1000000 (i + 1)), .int (a_i h 1000000 (i + 2)), .int (0)] [.ref 126, .int (a_i h 1000000 (i + 1)), .int (a_i h 1000000 (i + 2)), .int (0)] h := op_haste (d := 96) W.1 ol (v0 := a_i h 1000000 (i + 1)) (v1 := a_i h 1000000 (i + 2)) (v2 := 0)
    obtain ⟨r, h1, h2, e1, e2, o1, q1, W2⟩ := lw_two W o sC3 sR3 ⟨rfl, na_haste⟩
    obtain ⟨t1, i1⟩ := lw_sc z o1
    have iq : ∀ j, a_i h1 1000000 j = a_i h 1000000 j := fun j => (i1 j).trans (i0 j).symm
    refine ⟨h2, fun Q => ?_, W2⟩
    unfold lwL
    simp [w_aload_n1 (M := mL_law) dL_law_1009, w_aload_n0 (M := mL_law) dL_law_1010, w_iload_n3 (M := mL_law) dL_law_1011, w_iconst (M := mL_law) (v := 1) dL_law_1012 rfl, w_iadd (M := mL_law) dL_law_1013, w_iaload (M := mL_law) dL_law_1014, w_aload_n0 (M := mL_law) dL_law_1015, w_iload_n3 (M := mL_law) dL_law_1016, w_iconst (M := mL_law) (v := 2) dL_law_1017 rfl, w_iadd (M := mL_law) dL_law_1018, w_iaload (M := mL_law) dL_law_1019, w_aload_n0 (M := mL_law) dL_law_1020, w_iload_n3 (M := mL_law) dL_law_1021, w_iconst (M := mL_law) (v := 3) dL_law_1022 rfl, w_iadd (M := mL_law) dL_law_1023, w_iaload (M := mL_law) dL_law_1024, w_if_eq (M := mL_law) (tgt := 1032) dL_law_1025 (by decide), w_iconst (M := mL_law) (v := 1) dL_law_1028 rfl, w_goto (M := mL_law) (tgt := 1033) dL_law_1029 (by decide), w_iconst (M := mL_law) (v := 0) dL_law_1032 rfl, c_13_115 (M := mL_law) dL_law_1033 rfl, w_aload_n2 (M := mL_law) dL_law_1036, w_aload_n0 (M := mL_law) dL_law_1037, w_iload_n3 (M := mL_law) dL_law_1038, w_iconst (M := mL_law) (v := 1) dL_law_1039 rfl, w_iadd (M := mL_law) dL_law_1040, w_iaload (M := mL_law) dL_law_1041, w_aload_n0 (M := mL_law) dL_law_1042, w_iload_n3 (M := mL_law) dL_law_1043, w_iconst (M := mL_law) (v := 2) dL_law_1044 rfl, w_iadd (M := mL_law) dL_law_1045, w_iaload (M := mL_law) dL_law_1046, w_aload_n0 (M := mL_law) dL_law_1047, w_iload_n3 (M := mL_law) dL_law_1048, w_iconst (M := mL_law) (v := 3) dL_law_1049 rfl, w_iadd (M := mL_law) dL_law_1050, w_iaload (M := mL_law) dL_law_1051, w_if_eq (M := mL_law) (tgt := 1059) dL_law_1052 (by decide), w_iconst (M := mL_law) (v := 1) dL_law_1055 rfl, w_goto (M := mL_law) (tgt := 1060) dL_law_1056 (by decide), w_iconst (M := mL_law) (v := 0) dL_law_1059 rfl, c_13_118 (M := mL_law) dL_law_1060 rfl, w_ic_eq (M := mL_law) (tgt := 1851) dL_law_1063 (by decide), w_iconst (M := mL_law) (v := 0) dL_law_1066 rfl, w_ireturn (M := mL_law) dL_law_1067 rfl, Kn_v_, Kn_n_, kl_i_, kl_a_, kl_l_, kl_n_, s1_0_, s2_0_, s1_1, s1_2, s1_3, s1_4, s1_5, s1_6, s1_7, s1_8, s1_9, s1_10, s1_11, s1_12, s1_13, s1_14, s2_1, s2_2, s2_3, s2_4, s2_5, s2_6, s2_7, s2_8, s2_9, s2_10, s2_11, s2_12, s2_13, s2_14, List.map_nil, List.map_cons, List.sum_nil, List.sum_cons, ct_i_, ct_r_, ct_l_, t_si_, t_sl_, t_sr_, n_si_, n_sl_, n_sr_, i_si_, i_sl_, i_sr_, l_si_, l_sl_, l_sr_, r_si_, r_sl_, r_sr_, vr_s_, vr_n_, nz_0_, nz_1_, t0, eC, t1, q1, iq, e1, e2, a1, x1, c1, a2, x2, c2, a3, x3, c3, b3]
  · have o : opS XP 100 mX11_haste mX12_haste [.ref 0, .int (a_i h 1000000 (i + 1)), .int (a_i h 1000000 (i + 2)), .int (1)] [.ref 126, .int (a_i h 1000000 (i + 1)), .int (a_i h 1000000 (i + 2)), .int (1)] h := op_haste (d := 96) W.1 ol (v0 := a_i h 1000000 (i + 1)) (v1 := a_i h 1000000 (i + 2)) (v2 := 1)
    obtain ⟨r, h1, h2, e1, e2, o1, q1, W2⟩ := lw_two W o sC3 sR3 ⟨rfl, na_haste⟩
    obtain ⟨t1, i1⟩ := lw_sc z o1
    have iq : ∀ j, a_i h1 1000000 j = a_i h 1000000 j := fun j => (i1 j).trans (i0 j).symm
    refine ⟨h2, fun Q => ?_, W2⟩
    unfold lwL
    simp [w_aload_n1 (M := mL_law) dL_law_1009, w_aload_n0 (M := mL_law) dL_law_1010, w_iload_n3 (M := mL_law) dL_law_1011, w_iconst (M := mL_law) (v := 1) dL_law_1012 rfl, w_iadd (M := mL_law) dL_law_1013, w_iaload (M := mL_law) dL_law_1014, w_aload_n0 (M := mL_law) dL_law_1015, w_iload_n3 (M := mL_law) dL_law_1016, w_iconst (M := mL_law) (v := 2) dL_law_1017 rfl, w_iadd (M := mL_law) dL_law_1018, w_iaload (M := mL_law) dL_law_1019, w_aload_n0 (M := mL_law) dL_law_1020, w_iload_n3 (M := mL_law) dL_law_1021, w_iconst (M := mL_law) (v := 3) dL_law_1022 rfl, w_iadd (M := mL_law) dL_law_1023, w_iaload (M := mL_law) dL_law_1024, w_if_eq (M := mL_law) (tgt := 1032) dL_law_1025 (by decide), w_iconst (M := mL_law) (v := 1) dL_law_1028 rfl, w_goto (M := mL_law) (tgt := 1033) dL_law_1029 (by decide), w_iconst (M := mL_law) (v := 0) dL_law_1032 rfl, c_13_115 (M := mL_law) dL_law_1033 rfl, w_aload_n2 (M := mL_law) dL_law_1036, w_aload_n0 (M := mL_law) dL_law_1037, w_iload_n3 (M := mL_law) dL_law_1038, w_iconst (M := mL_law) (v := 1) dL_law_1039 rfl, w_iadd (M := mL_law) dL_law_1040, w_iaload (M := mL_law) dL_law_1041, w_aload_n0 (M := mL_law) dL_law_1042, w_iload_n3 (M := mL_law) dL_law_1043, w_iconst (M := mL_law) (v := 2) dL_law_1044 rfl, w_iadd (M := mL_law) dL_law_1045, w_iaload (M := mL_law) dL_law_1046, w_aload_n0 (M := mL_law) dL_law_1047, w_iload_n3 (M := mL_law) dL_law_1048, w_iconst (M := mL_law) (v := 3) dL_law_1049 rfl, w_iadd (M := mL_law) dL_law_1050, w_iaload (M := mL_law) dL_law_1051, w_if_eq (M := mL_law) (tgt := 1059) dL_law_1052 (by decide), w_iconst (M := mL_law) (v := 1) dL_law_1055 rfl, w_goto (M := mL_law) (tgt := 1060) dL_law_1056 (by decide), w_iconst (M := mL_law) (v := 0) dL_law_1059 rfl, c_13_118 (M := mL_law) dL_law_1060 rfl, w_ic_eq (M := mL_law) (tgt := 1851) dL_law_1063 (by decide), w_iconst (M := mL_law) (v := 0) dL_law_1066 rfl, w_ireturn (M := mL_law) dL_law_1067 rfl, Kn_v_, Kn_n_, kl_i_, kl_a_, kl_l_, kl_n_, s1_0_, s2_0_, s1_1, s1_2, s1_3, s1_4, s1_5, s1_6, s1_7, s1_8, s1_9, s1_10, s1_11, s1_12, s1_13, s1_14, s2_1, s2_2, s2_3, s2_4, s2_5, s2_6, s2_7, s2_8, s2_9, s2_10, s2_11, s2_12, s2_13, s2_14, List.map_nil, List.map_cons, List.sum_nil, List.sum_cons, ct_i_, ct_r_, ct_l_, t_si_, t_sl_, t_sr_, n_si_, n_sl_, n_sr_, i_si_, i_sl_, i_sr_, l_si_, l_sl_, l_sr_, r_si_, r_sl_, r_sr_, vr_s_, vr_n_, nz_0_, nz_1_, t0, eC, t1, q1, iq, e1, e2, a1, x1, c1, a2, x2, c2, a3, x3, c3, b3]
set_option maxRecDepth 20000 in
set_option maxHeartbeats 4000000 in
theorem lw_24 (z : LW0 h0 n) (W : LWI h0 h) (hi : i + 7 ≤ n) : ∃ h2, (∀ Q, WP 101 mL_law 1068 (lwL i) [] h Q = WP 101 mL_law 1851 (lwL i) [] h2 Q) ∧ LWI h0 h2 := by
  have ol := lw_ol z W.2.2
  obtain ⟨t0, i0⟩ := lw_sc z W.2.2
  have n2 := z.2.2.2
  have eC := W.1.1.1.e.1
  have a1 : nI i + 1 = nI (i + 1) := nI_a (b := 1)
  have x1 : am_in1 (nI (i + 1)) n = True := by rw [in1_n (by omega)]; exact eq_true (by omega)
  have c1 := nI_c (a := i + 1) (by omega)
  have a2 : nI i + 2 = nI (i + 2) := nI_a (b := 2)
  have x2 : am_in1 (nI (i + 2)) n = True := by rw [in1_n (by omega)]; exact eq_true (by omega)
  have c2 := nI_c (a := i + 2) (by omega)
  have a3 : nI i + 3 = nI (i + 3) := nI_a (b := 3)
  have x3 : am_in1 (nI (i + 3)) n = True := by rw [in1_n (by omega)]; exact eq_true (by omega)
  have c3 := nI_c (a := i + 3) (by omega)
  by_cases b3 : a_i h 1000000 (i + 3) = 0
  · have o : opS XP 100 mX11_rules mX12_rules [.ref 0, .int (a_i h 1000000 (i + 1)), .int (a_i h 1000000 (i + 2)), .int (0)] [.ref 126, .int (a_i h 1000000 (i + 1)), .int (a_i h 1000000 (i + 2)), .int (0)] h := op_rules (d := 91) W.1 ol (v0 := a_i h 1000000 (i + 1)) (v1 := a_i h 1000000 (i + 2)) (v2 := 0)
    obtain ⟨r, h1, h2, e1, e2, o1, q1, W2⟩ := lw_two W o sC3 sR3 ⟨rfl, na_rules⟩
    obtain ⟨t1, i1⟩ := lw_sc z o1
    have iq : ∀ j, a_i h1 1000000 j = a_i h 1000000 j := fun j => (i1 j).trans (i0 j).symm
    refine ⟨h2, fun Q => ?_, W2⟩
    unfold lwL
    simp [w_aload_n1 (M := mL_law) dL_law_1068, w_aload_n0 (M := mL_law) dL_law_1069, w_iload_n3 (M := mL_law) dL_law_1070, w_iconst (M := mL_law) (v := 1) dL_law_1071 rfl, w_iadd (M := mL_law) dL_law_1072, w_iaload (M := mL_law) dL_law_1073, w_aload_n0 (M := mL_law) dL_law_1074, w_iload_n3 (M := mL_law) dL_law_1075, w_iconst (M := mL_law) (v := 2) dL_law_1076 rfl, w_iadd (M := mL_law) dL_law_1077, w_iaload (M := mL_law) dL_law_1078, w_aload_n0 (M := mL_law) dL_law_1079, w_iload_n3 (M := mL_law) dL_law_1080, w_iconst (M := mL_law) (v := 3) dL_law_1081 rfl, w_iadd (M := mL_law) dL_law_1082, w_iaload (M := mL_law) dL_law_1083, w_if_eq (M := mL_law) (tgt := 1091) dL_law_1084 (by decide), w_iconst (M := mL_law) (v := 1) dL_law_1087 rfl, w_goto (M := mL_law) (tgt := 1092) dL_law_1088 (by decide), w_iconst (M := mL_law) (v := 0) dL_law_1091 rfl, c_13_119 (M := mL_law) dL_law_1092 rfl, w_aload_n2 (M := mL_law) dL_law_1095, w_aload_n0 (M := mL_law) dL_law_1096, w_iload_n3 (M := mL_law) dL_law_1097, w_iconst (M := mL_law) (v := 1) dL_law_1098 rfl, w_iadd (M := mL_law) dL_law_1099, w_iaload (M := mL_law) dL_law_1100, w_aload_n0 (M := mL_law) dL_law_1101, w_iload_n3 (M := mL_law) dL_law_1102, w_iconst (M := mL_law) (v := 2) dL_law_1103 rfl, w_iadd (M := mL_law) dL_law_1104, w_iaload (M := mL_law) dL_law_1105, w_aload_n0 (M := mL_law) dL_law_1106, w_iload_n3 (M := mL_law) dL_law_1107, w_iconst (M := mL_law) (v := 3) dL_law_1108 rfl, w_iadd (M := mL_law) dL_law_1109, w_iaload (M := mL_law) dL_law_1110, w_if_eq (M := mL_law) (tgt := 1118) dL_law_1111 (by decide), w_iconst (M := mL_law) (v := 1) dL_law_1114 rfl, w_goto (M := mL_law) (tgt := 1119) dL_law_1115 (by decide), w_iconst (M := mL_law) (v := 0) dL_law_1118 rfl, c_13_122 (M := mL_law) dL_law_1119 rfl, w_ic_eq (M := mL_law) (tgt := 1851) dL_law_1122 (by decide), w_iconst (M := mL_law) (v := 0) dL_law_1125 rfl, w_ireturn (M := mL_law) dL_law_1126 rfl, Kn_v_, Kn_n_, kl_i_, kl_a_, kl_l_, kl_n_, s1_0_, s2_0_, s1_1, s1_2, s1_3, s1_4, s1_5, s1_6, s1_7, s1_8, s1_9, s1_10, s1_11, s1_12, s1_13, s1_14, s2_1, s2_2, s2_3, s2_4, s2_5, s2_6, s2_7, s2_8, s2_9, s2_10, s2_11, s2_12, s2_13, s2_14, List.map_nil, List.map_cons, List.sum_nil, List.sum_cons, ct_i_, ct_r_, ct_l_, t_si_, t_sl_, t_sr_, n_si_, n_sl_, n_sr_, i_si_, i_sl_, i_sr_, l_si_, l_sl_, l_sr_, r_si_, r_sl_, r_sr_, vr_s_, vr_n_, nz_0_, nz_1_, t0, eC, t1, q1, iq, e1, e2, a1, x1, c1, a2, x2, c2, a3, x3, c3, b3]
  · have o : opS XP 100 mX11_rules mX12_rules [.ref 0, .int (a_i h 1000000 (i + 1)), .int (a_i h 1000000 (i + 2)), .int (1)] [.ref 126, .int (a_i h 1000000 (i + 1)), .int (a_i h 1000000 (i + 2)), .int (1)] h := op_rules (d := 91) W.1 ol (v0 := a_i h 1000000 (i + 1)) (v1 := a_i h 1000000 (i + 2)) (v2 := 1)
    obtain ⟨r, h1, h2, e1, e2, o1, q1, W2⟩ := lw_two W o sC3 sR3 ⟨rfl, na_rules⟩
    obtain ⟨t1, i1⟩ := lw_sc z o1
    have iq : ∀ j, a_i h1 1000000 j = a_i h 1000000 j := fun j => (i1 j).trans (i0 j).symm
    refine ⟨h2, fun Q => ?_, W2⟩
    unfold lwL
    simp [w_aload_n1 (M := mL_law) dL_law_1068, w_aload_n0 (M := mL_law) dL_law_1069, w_iload_n3 (M := mL_law) dL_law_1070, w_iconst (M := mL_law) (v := 1) dL_law_1071 rfl, w_iadd (M := mL_law) dL_law_1072, w_iaload (M := mL_law) dL_law_1073, w_aload_n0 (M := mL_law) dL_law_1074, w_iload_n3 (M := mL_law) dL_law_1075, w_iconst (M := mL_law) (v := 2) dL_law_1076 rfl, w_iadd (M := mL_law) dL_law_1077, w_iaload (M := mL_law) dL_law_1078, w_aload_n0 (M := mL_law) dL_law_1079, w_iload_n3 (M := mL_law) dL_law_1080, w_iconst (M := mL_law) (v := 3) dL_law_1081 rfl, w_iadd (M := mL_law) dL_law_1082, w_iaload (M := mL_law) dL_law_1083, w_if_eq (M := mL_law) (tgt := 1091) dL_law_1084 (by decide), w_iconst (M := mL_law) (v := 1) dL_law_1087 rfl, w_goto (M := mL_law) (tgt := 1092) dL_law_1088 (by decide), w_iconst (M := mL_law) (v := 0) dL_law_1091 rfl, c_13_119 (M := mL_law) dL_law_1092 rfl, w_aload_n2 (M := mL_law) dL_law_1095, w_aload_n0 (M := mL_law) dL_law_1096, w_iload_n3 (M := mL_law) dL_law_1097, w_iconst (M := mL_law) (v := 1) dL_law_1098 rfl, w_iadd (M := mL_law) dL_law_1099, w_iaload (M := mL_law) dL_law_1100, w_aload_n0 (M := mL_law) dL_law_1101, w_iload_n3 (M := mL_law) dL_law_1102, w_iconst (M := mL_law) (v := 2) dL_law_1103 rfl, w_iadd (M := mL_law) dL_law_1104, w_iaload (M := mL_law) dL_law_1105, w_aload_n0 (M := mL_law) dL_law_1106, w_iload_n3 (M := mL_law) dL_law_1107, w_iconst (M := mL_law) (v := 3) dL_law_1108 rfl, w_iadd (M := mL_law) dL_law_1109, w_iaload (M := mL_law) dL_law_1110, w_if_eq (M := mL_law) (tgt := 1118) dL_law_1111 (by decide), w_iconst (M := mL_law) (v := 1) dL_law_1114 rfl, w_goto (M := mL_law) (tgt := 1119) dL_law_1115 (by decide), w_iconst (M := mL_law) (v := 0) dL_law_1118 rfl, c_13_122 (M := mL_law) dL_law_1119 rfl, w_ic_eq (M := mL_law) (tgt := 1851) dL_law_1122 (by decide), w_iconst (M := mL_law) (v := 0) dL_law_1125 rfl, w_ireturn (M := mL_law) dL_law_1126 rfl, Kn_v_, Kn_n_, kl_i_, kl_a_, kl_l_, kl_n_, s1_0_, s2_0_, s1_1, s1_2, s1_3, s1_4, s1_5, s1_6, s1_7, s1_8, s1_9, s1_10, s1_11, s1_12, s1_13, s1_14, s2_1, s2_2, s2_3, s2_4, s2_5, s2_6, s2_7, s2_8, s2_9, s2_10, s2_11, s2_12, s2_13, s2_14, List.map_nil, List.map_cons, List.sum_nil, List.sum_cons, ct_i_, ct_r_, ct_l_, t_si_, t_sl_, t_sr_, n_si_, n_sl_, n_sr_, i_si_, i_sl_, i_sr_, l_si_, l_sl_, l_sr_, r_si_, r_sl_, r_sr_, vr_s_, vr_n_, nz_0_, nz_1_, t0, eC, t1, q1, iq, e1, e2, a1, x1, c1, a2, x2, c2, a3, x3, c3, b3]
set_option maxRecDepth 20000 in
set_option maxHeartbeats 4000000 in
theorem lw_25 (z : LW0 h0 n) (W : LWI h0 h) (hi : i + 7 ≤ n) : ∃ h2, (∀ Q, WP 101 mL_law 1127 (lwL i) [] h Q = WP 101 mL_law 1851 (lwL i) [] h2 Q) ∧ LWI h0 h2 := by
  have ol := lw_ol z W.2.2
  obtain ⟨t0, i0⟩ := lw_sc z W.2.2
  have n2 := z.2.2.2
  have eC := W.1.1.1.e.1
  have a1 : nI i + 1 = nI (i + 1) := nI_a (b := 1)
  have x1 : am_in1 (nI (i + 1)) n = True := by rw [in1_n (by omega)]; exact eq_true (by omega)
  have c1 := nI_c (a := i + 1) (by omega)
  have o : opS XP 100 mX11_bestRule mX12_bestRule [.ref 0, .int (a_i h 1000000 (i + 1))] [.ref 126, .int (a_i h 1000000 (i + 1))] h := op_bestRule (d := 91) W.1 ol (v0 := a_i h 1000000 (i + 1))
  obtain ⟨r, h1, h2, e1, e2, o1, q1, W2⟩ := lw_two W o sC1 sR1 ⟨rfl, na_bestRule⟩
  obtain ⟨t1, i1⟩ := lw_sc z o1
  have iq : ∀ j, a_i h1 1000000 j = a_i h 1000000 j := fun j => (i1 j).trans (i0 j).symm
  refine ⟨h2, fun Q => ?_, W2⟩
  unfold lwL
  simp [w_aload_n1 (M := mL_law) dL_law_1127, w_aload_n0 (M := mL_law) dL_law_1128, w_iload_n3 (M := mL_law) dL_law_1129, w_iconst (M := mL_law) (v := 1) dL_law_1130 rfl, w_iadd (M := mL_law) dL_law_1131, w_iaload (M := mL_law) dL_law_1132, c_13_123 (M := mL_law) dL_law_1133 rfl, w_aload_n2 (M := mL_law) dL_law_1136, w_aload_n0 (M := mL_law) dL_law_1137, w_iload_n3 (M := mL_law) dL_law_1138, w_iconst (M := mL_law) (v := 1) dL_law_1139 rfl, w_iadd (M := mL_law) dL_law_1140, w_iaload (M := mL_law) dL_law_1141, c_13_126 (M := mL_law) dL_law_1142 rfl, w_ic_eq (M := mL_law) (tgt := 1851) dL_law_1145 (by decide), w_iconst (M := mL_law) (v := 0) dL_law_1148 rfl, w_ireturn (M := mL_law) dL_law_1149 rfl, Kn_v_, Kn_n_, kl_i_, kl_a_, kl_l_, kl_n_, s1_0_, s2_0_, s1_1, s1_2, s1_3, s1_4, s1_5, s1_6, s1_7, s1_8, s1_9, s1_10, s1_11, s1_12, s1_13, s1_14, s2_1, s2_2, s2_3, s2_4, s2_5, s2_6, s2_7, s2_8, s2_9, s2_10, s2_11, s2_12, s2_13, s2_14, List.map_nil, List.map_cons, List.sum_nil, List.sum_cons, ct_i_, ct_r_, ct_l_, t_si_, t_sl_, t_sr_, n_si_, n_sl_, n_sr_, i_si_, i_sl_, i_sr_, l_si_, l_sl_, l_sr_, r_si_, r_sl_, r_sr_, vr_s_, vr_n_, nz_0_, nz_1_, t0, eC, t1, q1, iq, e1, e2, a1, x1, c1]
set_option maxRecDepth 20000 in
set_option maxHeartbeats 4000000 in
theorem lw_26 (z : LW0 h0 n) (W : LWI h0 h) (hi : i + 7 ≤ n) : ∃ h2, (∀ Q, WP 101 mL_law 1150 (lwL i) [] h Q = WP 101 mL_law 1851 (lwL i) [] h2 Q) ∧ LWI h0 h2 := by
  have ol := lw_ol z W.2.2
  obtain ⟨t0, i0⟩ := lw_sc z W.2.2
  have n2 := z.2.2.2
  have eC := W.1.1.1.e.1
  have a1 : nI i + 1 = nI (i + 1) := nI_a (b := 1)
  have x1 : am_in1 (nI (i + 1)) n = True := by rw [in1_n (by omega)]; exact eq_true (by omega)
  have c1 := nI_c (a := i + 1) (by omega)
  have a2 : nI i + 2 = nI (i + 2) := nI_a (b := 2)
  have x2 : am_in1 (nI (i + 2)) n = True := by rw [in1_n (by omega)]; exact eq_true (by omega)
  have c2 := nI_c (a := i + 2) (by omega)
  have a3 : nI i + 3 = nI (i + 3) := nI_a (b := 3)
  have x3 : am_in1 (nI (i + 3)) n = True := by rw [in1_n (by omega)]; exact eq_true (by omega)
  have c3 := nI_c (a := i + 3) (by omega)
  have o : opS XP 100 mX11_price mX12_price [.ref 0, .int (a_i h 1000000 (i + 1)), .int (a_i h 1000000 (i + 2)), .int (a_i h 1000000 (i + 3))] [.ref 126, .int (a_i h 1000000 (i + 1)), .int (a_i h 1000000 (i + 2)), .int (a_i h 1000000 (i + 3))] h := op_price (d := 99) W.1 (v0 := a_i h 1000000 (i + 1)) (v1 := a_i h 1000000 (i + 2)) (v2 := a_i h 1000000 (i + 3))
  obtain ⟨r, h1, h2, e1, e2, o1, q1, W2⟩ := lw_two W o sC3 sR3 ⟨rfl, na_price⟩
  obtain ⟨t1, i1⟩ := lw_sc z o1
  have iq : ∀ j, a_i h1 1000000 j = a_i h 1000000 j := fun j => (i1 j).trans (i0 j).symm
  refine ⟨h2, fun Q => ?_, W2⟩
  unfold lwL
  simp [w_aload_n1 (M := mL_law) dL_law_1150, w_aload_n0 (M := mL_law) dL_law_1151, w_iload_n3 (M := mL_law) dL_law_1152, w_iconst (M := mL_law) (v := 1) dL_law_1153 rfl, w_iadd (M := mL_law) dL_law_1154, w_iaload (M := mL_law) dL_law_1155, w_aload_n0 (M := mL_law) dL_law_1156, w_iload_n3 (M := mL_law) dL_law_1157, w_iconst (M := mL_law) (v := 2) dL_law_1158 rfl, w_iadd (M := mL_law) dL_law_1159, w_iaload (M := mL_law) dL_law_1160, w_aload_n0 (M := mL_law) dL_law_1161, w_iload_n3 (M := mL_law) dL_law_1162, w_iconst (M := mL_law) (v := 3) dL_law_1163 rfl, w_iadd (M := mL_law) dL_law_1164, w_iaload (M := mL_law) dL_law_1165, c_13_127 (M := mL_law) dL_law_1166 rfl, w_aload_n2 (M := mL_law) dL_law_1169, w_aload_n0 (M := mL_law) dL_law_1170, w_iload_n3 (M := mL_law) dL_law_1171, w_iconst (M := mL_law) (v := 1) dL_law_1172 rfl, w_iadd (M := mL_law) dL_law_1173, w_iaload (M := mL_law) dL_law_1174, w_aload_n0 (M := mL_law) dL_law_1175, w_iload_n3 (M := mL_law) dL_law_1176, w_iconst (M := mL_law) (v := 2) dL_law_1177 rfl, w_iadd (M := mL_law) dL_law_1178, w_iaload (M := mL_law) dL_law_1179, w_aload_n0 (M := mL_law) dL_law_1180, w_iload_n3 (M := mL_law) dL_law_1181, w_iconst (M := mL_law) (v := 3) dL_law_1182 rfl, w_iadd (M := mL_law) dL_law_1183, w_iaload (M := mL_law) dL_law_1184, c_13_130 (M := mL_law) dL_law_1185 rfl, w_ic_eq (M := mL_law) (tgt := 1851) dL_law_1188 (by decide), w_iconst (M := mL_law) (v := 0) dL_law_1191 rfl, w_ireturn (M := mL_law) dL_law_1192 rfl, Kn_v_, Kn_n_, kl_i_, kl_a_, kl_l_, kl_n_, s1_0_, s2_0_, s1_1, s1_2, s1_3, s1_4, s1_5, s1_6, s1_7, s1_8, s1_9, s1_10, s1_11, s1_12, s1_13, s1_14, s2_1, s2_2, s2_3, s2_4, s2_5, s2_6, s2_7, s2_8, s2_9, s2_10, s2_11, s2_12, s2_13, s2_14, List.map_nil, List.map_cons, List.sum_nil, List.sum_cons, ct_i_, ct_r_, ct_l_, t_si_, t_sl_, t_sr_, n_si_, n_sl_, n_sr_, i_si_, i_sl_, i_sr_, l_si_, l_sl_, l_sr_, r_si_, r_sl_, r_sr_, vr_s_, vr_n_, nz_0_, nz_1_, t0, eC, t1, q1, iq, e1, e2, a1, x1, c1, a2, x2, c2, a3, x3, c3]
set_option maxRecDepth 20000 in
set_option maxHeartbeats 4000000 in
theorem lw_27 (z : LW0 h0 n) (W : LWI h0 h) (hi : i + 7 ≤ n) : ∃ h2, (∀ Q, WP 101 mL_law 1193 (lwL i) [] h Q = WP 101 mL_law 1851 (lwL i) [] h2 Q) ∧ LWI h0 h2 := by
  have ol := lw_ol z W.2.2
  obtain ⟨t0, i0⟩ := lw_sc z W.2.2
  have n2 := z.2.2.2
  have eC := W.1.1.1.e.1
  have a1 : nI i + 1 = nI (i + 1) := nI_a (b := 1)
  have x1 : am_in1 (nI (i + 1)) n = True := by rw [in1_n (by omega)]; exact eq_true (by omega)
  have c1 := nI_c (a := i + 1) (by omega)
  have o : opS XP 100 mX11_pence mX12_pence [.ref 0, .int (a_i h 1000000 (i + 1))] [.ref 126, .int (a_i h 1000000 (i + 1))] h := op_pence (d := 99) W.1 (v0 := a_i h 1000000 (i + 1))
  obtain ⟨r, h1, h2, e1, e2, o1, q1, W2⟩ := lw_two W o sC1 sR1 ⟨rfl, na_pence⟩
  obtain ⟨t1, i1⟩ := lw_sc z o1
  have iq : ∀ j, a_i h1 1000000 j = a_i h 1000000 j := fun j => (i1 j).trans (i0 j).symm
  refine ⟨h2, fun Q => ?_, W2⟩
  unfold lwL
  simp [w_aload_n1 (M := mL_law) dL_law_1193, w_aload_n0 (M := mL_law) dL_law_1194, w_iload_n3 (M := mL_law) dL_law_1195, w_iconst (M := mL_law) (v := 1) dL_law_1196 rfl, w_iadd (M := mL_law) dL_law_1197, w_iaload (M := mL_law) dL_law_1198, c_13_131 (M := mL_law) dL_law_1199 rfl, w_aload_n2 (M := mL_law) dL_law_1202, w_aload_n0 (M := mL_law) dL_law_1203, w_iload_n3 (M := mL_law) dL_law_1204, w_iconst (M := mL_law) (v := 1) dL_law_1205 rfl, w_iadd (M := mL_law) dL_law_1206, w_iaload (M := mL_law) dL_law_1207, c_13_134 (M := mL_law) dL_law_1208 rfl, w_ic_eq (M := mL_law) (tgt := 1851) dL_law_1211 (by decide), w_iconst (M := mL_law) (v := 0) dL_law_1214 rfl, w_ireturn (M := mL_law) dL_law_1215 rfl, Kn_v_, Kn_n_, kl_i_, kl_a_, kl_l_, kl_n_, s1_0_, s2_0_, s1_1, s1_2, s1_3, s1_4, s1_5, s1_6, s1_7, s1_8, s1_9, s1_10, s1_11, s1_12, s1_13, s1_14, s2_1, s2_2, s2_3, s2_4, s2_5, s2_6, s2_7, s2_8, s2_9, s2_10, s2_11, s2_12, s2_13, s2_14, List.map_nil, List.map_cons, List.sum_nil, List.sum_cons, ct_i_, ct_r_, ct_l_, t_si_, t_sl_, t_sr_, n_si_, n_sl_, n_sr_, i_si_, i_sl_, i_sr_, l_si_, l_sl_, l_sr_, r_si_, r_sl_, r_sr_, vr_s_, vr_n_, nz_0_, nz_1_, t0, eC, t1, q1, iq, e1, e2, a1, x1, c1]
set_option maxRecDepth 20000 in
set_option maxHeartbeats 4000000 in
theorem lw_28 (z : LW0 h0 n) (W : LWI h0 h) (hi : i + 7 ≤ n) : ∃ h2, (∀ Q, WP 101 mL_law 1216 (lwL i) [] h Q = WP 101 mL_law 1851 (lwL i) [] h2 Q) ∧ LWI h0 h2 := by
  have ol := lw_ol z W.2.2
  obtain ⟨t0, i0⟩ := lw_sc z W.2.2
  have n2 := z.2.2.2
  have eC := W.1.1.1.e.1
  have a1 : nI i + 1 = nI (i + 1) := nI_a (b := 1)
  have x1 : am_in1 (nI (i + 1)) n = True := by rw [in1_n (by omega)]; exact eq_true (by omega)
  have c1 := nI_c (a := i + 1) (by omega)
  have a2 : nI i + 2 = nI (i + 2) := nI_a (b := 2)
  have x2 : am_in1 (nI (i + 2)) n = True := by rw [in1_n (by omega)]; exact eq_true (by omega)
  have c2 := nI_c (a := i + 2) (by omega)
  have o : opS XP 100 mX11_forPence mX12_forPence [.ref 0, .int (a_i h 1000000 (i + 1)), .int (a_i h 1000000 (i + 2))] [.ref 126, .int (a_i h 1000000 (i + 1)), .int (a_i h 1000000 (i + 2))] h := op_forPence (d := 91) W.1 ol (v0 := a_i h 1000000 (i + 1)) (v1 := a_i h 1000000 (i + 2))
  obtain ⟨r, h1, h2, e1, e2, o1, q1, W2⟩ := lw_two W o sC2 sR2 ⟨rfl, na_forPence⟩
  obtain ⟨t1, i1⟩ := lw_sc z o1
  have iq : ∀ j, a_i h1 1000000 j = a_i h 1000000 j := fun j => (i1 j).trans (i0 j).symm
  refine ⟨h2, fun Q => ?_, W2⟩
  unfold lwL
  simp [w_aload_n1 (M := mL_law) dL_law_1216, w_aload_n0 (M := mL_law) dL_law_1217, w_iload_n3 (M := mL_law) dL_law_1218, w_iconst (M := mL_law) (v := 1) dL_law_1219 rfl, w_iadd (M := mL_law) dL_law_1220, w_iaload (M := mL_law) dL_law_1221, w_aload_n0 (M := mL_law) dL_law_1222, w_iload_n3 (M := mL_law) dL_law_1223, w_iconst (M := mL_law) (v := 2) dL_law_1224 rfl, w_iadd (M := mL_law) dL_law_1225, w_iaload (M := mL_law) dL_law_1226, c_13_135 (M := mL_law) dL_law_1227 rfl, w_aload_n2 (M := mL_law) dL_law_1230, w_aload_n0 (M := mL_law) dL_law_1231, w_iload_n3 (M := mL_law) dL_law_1232, w_iconst (M := mL_law) (v := 1) dL_law_1233 rfl, w_iadd (M := mL_law) dL_law_1234, w_iaload (M := mL_law) dL_law_1235, w_aload_n0 (M := mL_law) dL_law_1236, w_iload_n3 (M := mL_law) dL_law_1237, w_iconst (M := mL_law) (v := 2) dL_law_1238 rfl, w_iadd (M := mL_law) dL_law_1239, w_iaload (M := mL_law) dL_law_1240, c_13_138 (M := mL_law) dL_law_1241 rfl, w_ic_eq (M := mL_law) (tgt := 1851) dL_law_1244 (by decide), w_iconst (M := mL_law) (v := 0) dL_law_1247 rfl, w_ireturn (M := mL_law) dL_law_1248 rfl, Kn_v_, Kn_n_, kl_i_, kl_a_, kl_l_, kl_n_, s1_0_, s2_0_, s1_1, s1_2, s1_3, s1_4, s1_5, s1_6, s1_7, s1_8, s1_9, s1_10, s1_11, s1_12, s1_13, s1_14, s2_1, s2_2, s2_3, s2_4, s2_5, s2_6, s2_7, s2_8, s2_9, s2_10, s2_11, s2_12, s2_13, s2_14, List.map_nil, List.map_cons, List.sum_nil, List.sum_cons, ct_i_, ct_r_, ct_l_, t_si_, t_sl_, t_sr_, n_si_, n_sl_, n_sr_, i_si_, i_sl_, i_sr_, l_si_, l_sl_, l_sr_, r_si_, r_sl_, r_sr_, vr_s_, vr_n_, nz_0_, nz_1_, t0, eC, t1, q1, iq, e1, e2, a1, x1, c1, a2, x2, c2]
set_option maxRecDepth 20000 in
set_option maxHeartbeats 4000000 in
theorem lw_29 (z : LW0 h0 n) (W : LWI h0 h) (hi : i + 7 ≤ n) : ∃ h2, (∀ Q, WP 101 mL_law 1249 (lwL i) [] h Q = WP 101 mL_law 1851 (lwL i) [] h2 Q) ∧ LWI h0 h2 := by
  have ol := lw_ol z W.2.2
  obtain ⟨t0, i0⟩ := lw_sc z W.2.2
  have n2 := z.2.2.2
  have eC := W.1.1.1.e.1
  have a1 : nI i + 1 = nI (i + 1) := nI_a (b := 1)
  have x1 : am_in1 (nI (i + 1)) n = True := by rw [in1_n (by omega)]; exact eq_true (by omega)
  have c1 := nI_c (a := i + 1) (by omega)
  have a2 : nI i + 2 = nI (i + 2) := nI_a (b := 2)
  have x2 : am_in1 (nI (i + 2)) n = True := by rw [in1_n (by omega)]; exact eq_true (by omega)
  have c2 := nI_c (a := i + 2) (by omega)
  have a3 : nI i + 3 = nI (i + 3) := nI_a (b := 3)
  have x3 : am_in1 (nI (i + 3)) n = True := by rw [in1_n (by omega)]; exact eq_true (by omega)
  have c3 := nI_c (a := i + 3) (by omega)
  have a4 : nI i + 4 = nI (i + 4) := nI_a (b := 4)
  have x4 : am_in1 (nI (i + 4)) n = True := by rw [in1_n (by omega)]; exact eq_true (by omega)
  have c4 := nI_c (a := i + 4) (by omega)
  have a5 : nI i + 5 = nI (i + 5) := nI_a (b := 5)
  have x5 : am_in1 (nI (i + 5)) n = True := by rw [in1_n (by omega)]; exact eq_true (by omega)
  have c5 := nI_c (a := i + 5) (by omega)
  have a6 : nI i + 6 = nI (i + 6) := nI_a (b := 6)
  have x6 : am_in1 (nI (i + 6)) n = True := by rw [in1_n (by omega)]; exact eq_true (by omega)
  have c6 := nI_c (a := i + 6) (by omega)
  have o : opS XP 100 mX11_comes mX12_comes [.ref 0, .int (a_i h 1000000 (i + 1)), .int (a_i h 1000000 (i + 2)), .int (a_i h 1000000 (i + 3)), .int (a_i h 1000000 (i + 4)), .int (a_i h 1000000 (i + 5)), .int (a_i h 1000000 (i + 6))] [.ref 126, .int (a_i h 1000000 (i + 1)), .int (a_i h 1000000 (i + 2)), .int (a_i h 1000000 (i + 3)), .int (a_i h 1000000 (i + 4)), .int (a_i h 1000000 (i + 5)), .int (a_i h 1000000 (i + 6))] h := op_comes (d := 94) W.1 (v0 := a_i h 1000000 (i + 1)) (v1 := a_i h 1000000 (i + 2)) (v2 := a_i h 1000000 (i + 3)) (v3 := a_i h 1000000 (i + 4)) (v4 := a_i h 1000000 (i + 5)) (v5 := a_i h 1000000 (i + 6))
  obtain ⟨r, h1, h2, e1, e2, o1, q1, W2⟩ := lw_two W o sC6 sR6 ⟨rfl, na_comes⟩
  obtain ⟨t1, i1⟩ := lw_sc z o1
  have iq : ∀ j, a_i h1 1000000 j = a_i h 1000000 j := fun j => (i1 j).trans (i0 j).symm
  refine ⟨h2, fun Q => ?_, W2⟩
  unfold lwL
  simp [w_aload_n1 (M := mL_law) dL_law_1249, w_aload_n0 (M := mL_law) dL_law_1250, w_iload_n3 (M := mL_law) dL_law_1251, w_iconst (M := mL_law) (v := 1) dL_law_1252 rfl, w_iadd (M := mL_law) dL_law_1253, w_iaload (M := mL_law) dL_law_1254, w_aload_n0 (M := mL_law) dL_law_1255, w_iload_n3 (M := mL_law) dL_law_1256, w_iconst (M := mL_law) (v := 2) dL_law_1257 rfl, w_iadd (M := mL_law) dL_law_1258, w_iaload (M := mL_law) dL_law_1259, w_aload_n0 (M := mL_law) dL_law_1260, w_iload_n3 (M := mL_law) dL_law_1261, w_iconst (M := mL_law) (v := 3) dL_law_1262 rfl, w_iadd (M := mL_law) dL_law_1263, w_iaload (M := mL_law) dL_law_1264, w_aload_n0 (M := mL_law) dL_law_1265, w_iload_n3 (M := mL_law) dL_law_1266, w_iconst (M := mL_law) (v := 4) dL_law_1267 rfl, w_iadd (M := mL_law) dL_law_1268, w_iaload (M := mL_law) dL_law_1269, w_aload_n0 (M := mL_law) dL_law_1270, w_iload_n3 (M := mL_law) dL_law_1271, w_iconst (M := mL_law) (v := 5) dL_law_1272 rfl, w_iadd (M := mL_law) dL_law_1273, w_iaload (M := mL_law) dL_law_1274, w_aload_n0 (M := mL_law) dL_law_1275, w_iload_n3 (M := mL_law) dL_law_1276, w_bipush (M := mL_law) (v := 6) dL_law_1277 rfl, w_iadd (M := mL_law) dL_law_1279, w_iaload (M := mL_law) dL_law_1280, c_13_139 (M := mL_law) dL_law_1281 rfl, w_aload_n2 (M := mL_law) dL_law_1284, w_aload_n0 (M := mL_law) dL_law_1285, w_iload_n3 (M := mL_law) dL_law_1286, w_iconst (M := mL_law) (v := 1) dL_law_1287 rfl, w_iadd (M := mL_law) dL_law_1288, w_iaload (M := mL_law) dL_law_1289, w_aload_n0 (M := mL_law) dL_law_1290, w_iload_n3 (M := mL_law) dL_law_1291, w_iconst (M := mL_law) (v := 2) dL_law_1292 rfl, w_iadd (M := mL_law) dL_law_1293, w_iaload (M := mL_law) dL_law_1294, w_aload_n0 (M := mL_law) dL_law_1295, w_iload_n3 (M := mL_law) dL_law_1296, w_iconst (M := mL_law) (v := 3) dL_law_1297 rfl, w_iadd (M := mL_law) dL_law_1298, w_iaload (M := mL_law) dL_law_1299, w_aload_n0 (M := mL_law) dL_law_1300, w_iload_n3 (M := mL_law) dL_law_1301, w_iconst (M := mL_law) (v := 4) dL_law_1302 rfl, w_iadd (M := mL_law) dL_law_1303, w_iaload (M := mL_law) dL_law_1304, w_aload_n0 (M := mL_law) dL_law_1305, w_iload_n3 (M := mL_law) dL_law_1306, w_iconst (M := mL_law) (v := 5) dL_law_1307 rfl, w_iadd (M := mL_law) dL_law_1308, w_iaload (M := mL_law) dL_law_1309, w_aload_n0 (M := mL_law) dL_law_1310, w_iload_n3 (M := mL_law) dL_law_1311, w_bipush (M := mL_law) (v := 6) dL_law_1312 rfl, w_iadd (M := mL_law) dL_law_1314, w_iaload (M := mL_law) dL_law_1315, c_13_143 (M := mL_law) dL_law_1316 rfl, w_ic_eq (M := mL_law) (tgt := 1851) dL_law_1319 (by decide), w_iconst (M := mL_law) (v := 0) dL_law_1322 rfl, w_ireturn (M := mL_law) dL_law_1323 rfl, Kn_v_, Kn_n_, kl_i_, kl_a_, kl_l_, kl_n_, s1_0_, s2_0_, s1_1, s1_2, s1_3, s1_4, s1_5, s1_6, s1_7, s1_8, s1_9, s1_10, s1_11, s1_12, s1_13, s1_14, s2_1, s2_2, s2_3, s2_4, s2_5, s2_6, s2_7, s2_8, s2_9, s2_10, s2_11, s2_12, s2_13, s2_14, List.map_nil, List.map_cons, List.sum_nil, List.sum_cons, ct_i_, ct_r_, ct_l_, t_si_, t_sl_, t_sr_, n_si_, n_sl_, n_sr_, i_si_, i_sl_, i_sr_, l_si_, l_sl_, l_sr_, r_si_, r_sl_, r_sr_, vr_s_, vr_n_, nz_0_, nz_1_, t0, eC, t1, q1, iq, e1, e2, a1, x1, c1, a2, x2, c2, a3, x3, c3, a4, x4, c4, a5, x5, c5, a6, x6, c6]
set_option maxRecDepth 20000 in
set_option maxHeartbeats 4000000 in
theorem lw_30 (z : LW0 h0 n) (W : LWI h0 h) (hi : i + 7 ≤ n) : ∃ h2, (∀ Q, WP 101 mL_law 1324 (lwL i) [] h Q = WP 101 mL_law 1851 (lwL i) [] h2 Q) ∧ LWI h0 h2 := by
  have ol := lw_ol z W.2.2
  obtain ⟨t0, i0⟩ := lw_sc z W.2.2
  have n2 := z.2.2.2
  have eC := W.1.1.1.e.1
  have a1 : nI i + 1 = nI (i + 1) := nI_a (b := 1)
  have x1 : am_in1 (nI (i + 1)) n = True := by rw [in1_n (by omega)]; exact eq_true (by omega)
  have c1 := nI_c (a := i + 1) (by omega)
  have a2 : nI i + 2 = nI (i + 2) := nI_a (b := 2)
  have x2 : am_in1 (nI (i + 2)) n = True := by rw [in1_n (by omega)]; exact eq_true (by omega)
  have c2 := nI_c (a := i + 2) (by omega)
  have a3 : nI i + 3 = nI (i + 3) := nI_a (b := 3)
  have x3 : am_in1 (nI (i + 3)) n = True := by rw [in1_n (by omega)]; exact eq_true (by omega)
  have c3 := nI_c (a := i + 3) (by omega)
  have a4 : nI i + 4 = nI (i + 4) := nI_a (b := 4)
  have x4 : am_in1 (nI (i + 4)) n = True := by rw [in1_n (by omega)]; exact eq_true (by omega)
  have c4 := nI_c (a := i + 4) (by omega)
  have a5 : nI i + 5 = nI (i + 5) := nI_a (b := 5)
  have x5 : am_in1 (nI (i + 5)) n = True := by rw [in1_n (by omega)]; exact eq_true (by omega)
  have c5 := nI_c (a := i + 5) (by omega)
  have o : opS XP 100 mX11_apart mX12_apart [.ref 0, .int (a_i h 1000000 (i + 1)), .int (a_i h 1000000 (i + 2)), .int (a_i h 1000000 (i + 3)), .int (a_i h 1000000 (i + 4)), .int (a_i h 1000000 (i + 5))] [.ref 126, .int (a_i h 1000000 (i + 1)), .int (a_i h 1000000 (i + 2)), .int (a_i h 1000000 (i + 3)), .int (a_i h 1000000 (i + 4)), .int (a_i h 1000000 (i + 5))] h := op_apart (d := 94) W.1 (v0 := a_i h 1000000 (i + 1)) (v1 := a_i h 1000000 (i + 2)) (v2 := a_i h 1000000 (i + 3)) (v3 := a_i h 1000000 (i + 4)) (v4 := a_i h 1000000 (i + 5))
  obtain ⟨r, h1, h2, e1, e2, o1, q1, W2⟩ := lw_two W o sC5 sR5 ⟨rfl, na_apart⟩
  obtain ⟨t1, i1⟩ := lw_sc z o1
  have iq : ∀ j, a_i h1 1000000 j = a_i h 1000000 j := fun j => (i1 j).trans (i0 j).symm
  refine ⟨h2, fun Q => ?_, W2⟩
  unfold lwL
  simp [w_aload_n1 (M := mL_law) dL_law_1324, w_aload_n0 (M := mL_law) dL_law_1325, w_iload_n3 (M := mL_law) dL_law_1326, w_iconst (M := mL_law) (v := 1) dL_law_1327 rfl, w_iadd (M := mL_law) dL_law_1328, w_iaload (M := mL_law) dL_law_1329, w_aload_n0 (M := mL_law) dL_law_1330, w_iload_n3 (M := mL_law) dL_law_1331, w_iconst (M := mL_law) (v := 2) dL_law_1332 rfl, w_iadd (M := mL_law) dL_law_1333, w_iaload (M := mL_law) dL_law_1334, w_aload_n0 (M := mL_law) dL_law_1335, w_iload_n3 (M := mL_law) dL_law_1336, w_iconst (M := mL_law) (v := 3) dL_law_1337 rfl, w_iadd (M := mL_law) dL_law_1338, w_iaload (M := mL_law) dL_law_1339, w_aload_n0 (M := mL_law) dL_law_1340, w_iload_n3 (M := mL_law) dL_law_1341, w_iconst (M := mL_law) (v := 4) dL_law_1342 rfl, w_iadd (M := mL_law) dL_law_1343, w_iaload (M := mL_law) dL_law_1344, w_aload_n0 (M := mL_law) dL_law_1345, w_iload_n3 (M := mL_law) dL_law_1346, w_iconst (M := mL_law) (v := 5) dL_law_1347 rfl, w_iadd (M := mL_law) dL_law_1348, w_iaload (M := mL_law) dL_law_1349, c_13_144 (M := mL_law) dL_law_1350 rfl, w_aload_n2 (M := mL_law) dL_law_1353, w_aload_n0 (M := mL_law) dL_law_1354, w_iload_n3 (M := mL_law) dL_law_1355, w_iconst (M := mL_law) (v := 1) dL_law_1356 rfl, w_iadd (M := mL_law) dL_law_1357, w_iaload (M := mL_law) dL_law_1358, w_aload_n0 (M := mL_law) dL_law_1359, w_iload_n3 (M := mL_law) dL_law_1360, w_iconst (M := mL_law) (v := 2) dL_law_1361 rfl, w_iadd (M := mL_law) dL_law_1362, w_iaload (M := mL_law) dL_law_1363, w_aload_n0 (M := mL_law) dL_law_1364, w_iload_n3 (M := mL_law) dL_law_1365, w_iconst (M := mL_law) (v := 3) dL_law_1366 rfl, w_iadd (M := mL_law) dL_law_1367, w_iaload (M := mL_law) dL_law_1368, w_aload_n0 (M := mL_law) dL_law_1369, w_iload_n3 (M := mL_law) dL_law_1370, w_iconst (M := mL_law) (v := 4) dL_law_1371 rfl, w_iadd (M := mL_law) dL_law_1372, w_iaload (M := mL_law) dL_law_1373, w_aload_n0 (M := mL_law) dL_law_1374, w_iload_n3 (M := mL_law) dL_law_1375, w_iconst (M := mL_law) (v := 5) dL_law_1376 rfl, w_iadd (M := mL_law) dL_law_1377, w_iaload (M := mL_law) dL_law_1378, c_13_147 (M := mL_law) dL_law_1379 rfl, w_ic_eq (M := mL_law) (tgt := 1851) dL_law_1382 (by decide), w_iconst (M := mL_law) (v := 0) dL_law_1385 rfl, w_ireturn (M := mL_law) dL_law_1386 rfl, Kn_v_, Kn_n_, kl_i_, kl_a_, kl_l_, kl_n_, s1_0_, s2_0_, s1_1, s1_2, s1_3, s1_4, s1_5, s1_6, s1_7, s1_8, s1_9, s1_10, s1_11, s1_12, s1_13, s1_14, s2_1, s2_2, s2_3, s2_4, s2_5, s2_6, s2_7, s2_8, s2_9, s2_10, s2_11, s2_12, s2_13, s2_14, List.map_nil, List.map_cons, List.sum_nil, List.sum_cons, ct_i_, ct_r_, ct_l_, t_si_, t_sl_, t_sr_, n_si_, n_sl_, n_sr_, i_si_, i_sl_, i_sr_, l_si_, l_sl_, l_sr_, r_si_, r_sl_, r_sr_, vr_s_, vr_n_, nz_0_, nz_1_, t0, eC, t1, q1, iq, e1, e2, a1, x1, c1, a2, x2, c2, a3, x3, c3, a4, x4, c4, a5, x5, c5]
set_option maxRecDepth 20000 in
set_option maxHeartbeats 4000000 in
theorem lw_31 (z : LW0 h0 n) (W : LWI h0 h) (hi : i + 7 ≤ n) : ∃ h2, (∀ Q, WP 101 mL_law 1387 (lwL i) [] h Q = WP 101 mL_law 1851 (lwL i) [] h2 Q) ∧ LWI h0 h2 := by
  have ol := lw_ol z W.2.2
  obtain ⟨t0, i0⟩ := lw_sc z W.2.2
  have n2 := z.2.2.2
  have eC := W.1.1.1.e.1
  have a1 : nI i + 1 = nI (i + 1) := nI_a (b := 1)
  have x1 : am_in1 (nI (i + 1)) n = True := by rw [in1_n (by omega)]; exact eq_true (by omega)
  have c1 := nI_c (a := i + 1) (by omega)
  have a2 : nI i + 2 = nI (i + 2) := nI_a (b := 2)
  have x2 : am_in1 (nI (i + 2)) n = True := by rw [in1_n (by omega)]; exact eq_true (by omega)
  have c2 := nI_c (a := i + 2) (by omega)
  have a3 : nI i + 3 = nI (i + 3) := nI_a (b := 3)
  have x3 : am_in1 (nI (i + 3)) n = True := by rw [in1_n (by omega)]; exact eq_true (by omega)
  have c3 := nI_c (a := i + 3) (by omega)
  have a4 : nI i + 4 = nI (i + 4) := nI_a (b := 4)
  have x4 : am_in1 (nI (i + 4)) n = True := by rw [in1_n (by omega)]; exact eq_true (by omega)
  have c4 := nI_c (a := i + 4) (by omega)
  have a5 : nI i + 5 = nI (i + 5) := nI_a (b := 5)
  have x5 : am_in1 (nI (i + 5)) n = True := by rw [in1_n (by omega)]; exact eq_true (by omega)
  have c5 := nI_c (a := i + 5) (by omega)
  by_cases b5 : a_i h 1000000 (i + 5) = 0
  · have o : opS XP 100 mX11_drawn mX12_drawn [.ref 0, .int (a_i h 1000000 (i + 1)), .int (a_i h 1000000 (i + 2)), .int (a_i h 1000000 (i + 3)), .int (a_i h 1000000 (i + 4)), .int (0)] [.ref 126, .int (a_i h 1000000 (i + 1)), .int (a_i h 1000000 (i + 2)), .int (a_i h 1000000 (i + 3)), .int (a_i h 1000000 (i + 4)), .int (0)] h := both0.S (op_drawn (d := 98) W.1.1.2.1 (v0 := a_i h 1000000 (i + 1)) (v1 := a_i h 1000000 (i + 2)) (v2 := a_i h 1000000 (i + 3)) (v3 := a_i h 1000000 (i + 4)) (v4 := 0)) W.1
    obtain ⟨r, h1, h2, e1, e2, o1, q1, W2⟩ := lw_two W o sC5 sR5 ⟨rfl, na_drawn⟩
    obtain ⟨t1, i1⟩ := lw_sc z o1
    have iq : ∀ j, a_i h1 1000000 j = a_i h 1000000 j := fun j => (i1 j).trans (i0 j).symm
    refine ⟨h2, fun Q => ?_, W2⟩
    unfold lwL
    simp [w_aload_n1 (M := mL_law) dL_law_1387, w_aload_n0 (M := mL_law) dL_law_1388, w_iload_n3 (M := mL_law) dL_law_1389, w_iconst (M := mL_law) (v := 1) dL_law_1390 rfl, w_iadd (M := mL_law) dL_law_1391, w_iaload (M := mL_law) dL_law_1392, w_aload_n0 (M := mL_law) dL_law_1393, w_iload_n3 (M := mL_law) dL_law_1394, w_iconst (M := mL_law) (v := 2) dL_law_1395 rfl, w_iadd (M := mL_law) dL_law_1396, w_iaload (M := mL_law) dL_law_1397, w_aload_n0 (M := mL_law) dL_law_1398, w_iload_n3 (M := mL_law) dL_law_1399, w_iconst (M := mL_law) (v := 3) dL_law_1400 rfl, w_iadd (M := mL_law) dL_law_1401, w_iaload (M := mL_law) dL_law_1402, w_aload_n0 (M := mL_law) dL_law_1403, w_iload_n3 (M := mL_law) dL_law_1404, w_iconst (M := mL_law) (v := 4) dL_law_1405 rfl, w_iadd (M := mL_law) dL_law_1406, w_iaload (M := mL_law) dL_law_1407, w_aload_n0 (M := mL_law) dL_law_1408, w_iload_n3 (M := mL_law) dL_law_1409, w_iconst (M := mL_law) (v := 5) dL_law_1410 rfl, w_iadd (M := mL_law) dL_law_1411, w_iaload (M := mL_law) dL_law_1412, w_if_eq (M := mL_law) (tgt := 1420) dL_law_1413 (by decide), w_iconst (M := mL_law) (v := 1) dL_law_1416 rfl, w_goto (M := mL_law) (tgt := 1421) dL_law_1417 (by decide), w_iconst (M := mL_law) (v := 0) dL_law_1420 rfl, c_13_148 (M := mL_law) dL_law_1421 rfl, w_aload_n2 (M := mL_law) dL_law_1424, w_aload_n0 (M := mL_law) dL_law_1425, w_iload_n3 (M := mL_law) dL_law_1426, w_iconst (M := mL_law) (v := 1) dL_law_1427 rfl, w_iadd (M := mL_law) dL_law_1428, w_iaload (M := mL_law) dL_law_1429, w_aload_n0 (M := mL_law) dL_law_1430, w_iload_n3 (M := mL_law) dL_law_1431, w_iconst (M := mL_law) (v := 2) dL_law_1432 rfl, w_iadd (M := mL_law) dL_law_1433, w_iaload (M := mL_law) dL_law_1434, w_aload_n0 (M := mL_law) dL_law_1435, w_iload_n3 (M := mL_law) dL_law_1436, w_iconst (M := mL_law) (v := 3) dL_law_1437 rfl, w_iadd (M := mL_law) dL_law_1438, w_iaload (M := mL_law) dL_law_1439, w_aload_n0 (M := mL_law) dL_law_1440, w_iload_n3 (M := mL_law) dL_law_1441, w_iconst (M := mL_law) (v := 4) dL_law_1442 rfl, w_iadd (M := mL_law) dL_law_1443, w_iaload (M := mL_law) dL_law_1444, w_aload_n0 (M := mL_law) dL_law_1445, w_iload_n3 (M := mL_law) dL_law_1446, w_iconst (M := mL_law) (v := 5) dL_law_1447 rfl, w_iadd (M := mL_law) dL_law_1448, w_iaload (M := mL_law) dL_law_1449, w_if_eq (M := mL_law) (tgt := 1457) dL_law_1450 (by decide), w_iconst (M := mL_law) (v := 1) dL_law_1453 rfl, w_goto (M := mL_law) (tgt := 1458) dL_law_1454 (by decide), w_iconst (M := mL_law) (v := 0) dL_law_1457 rfl, c_13_152 (M := mL_law) dL_law_1458 rfl, w_ic_eq (M := mL_law) (tgt := 1851) dL_law_1461 (by decide), w_iconst (M := mL_law) (v := 0) dL_law_1464 rfl, w_ireturn (M := mL_law) dL_law_1465 rfl, Kn_v_, Kn_n_, kl_i_, kl_a_, kl_l_, kl_n_, s1_0_, s2_0_, s1_1, s1_2, s1_3, s1_4, s1_5, s1_6, s1_7, s1_8, s1_9, s1_10, s1_11, s1_12, s1_13, s1_14, s2_1, s2_2, s2_3, s2_4, s2_5, s2_6, s2_7, s2_8, s2_9, s2_10, s2_11, s2_12, s2_13, s2_14, List.map_nil, List.map_cons, List.sum_nil, List.sum_cons, ct_i_, ct_r_, ct_l_, t_si_, t_sl_, t_sr_, n_si_, n_sl_, n_sr_, i_si_, i_sl_, i_sr_, l_si_, l_sl_, l_sr_, r_si_, r_sl_, r_sr_, vr_s_, vr_n_, nz_0_, nz_1_, t0, eC, t1, q1, iq, e1, e2, a1, x1, c1, a2, x2, c2, a3, x3, c3, a4, x4, c4, a5, x5, c5, b5]
  · have o : opS XP 100 mX11_drawn mX12_drawn [.ref 0, .int (a_i h 1000000 (i + 1)), .int (a_i h 1000000 (i + 2)), .int (a_i h 1000000 (i + 3)), .int (a_i h 1000000 (i + 4)), .int (1)] [.ref 126, .int (a_i h 1000000 (i + 1)), .int (a_i h 1000000 (i + 2)), .int (a_i h 1000000 (i + 3)), .int (a_i h 1000000 (i + 4)), .int (1)] h := both0.S (op_drawn (d := 98) W.1.1.2.1 (v0 := a_i h 1000000 (i + 1)) (v1 := a_i h 1000000 (i + 2)) (v2 := a_i h 1000000 (i + 3)) (v3 := a_i h 1000000 (i + 4)) (v4 := 1)) W.1
    obtain ⟨r, h1, h2, e1, e2, o1, q1, W2⟩ := lw_two W o sC5 sR5 ⟨rfl, na_drawn⟩
    obtain ⟨t1, i1⟩ := lw_sc z o1
    have iq : ∀ j, a_i h1 1000000 j = a_i h 1000000 j := fun j => (i1 j).trans (i0 j).symm
    refine ⟨h2, fun Q => ?_, W2⟩
    unfold lwL
    simp [w_aload_n1 (M := mL_law) dL_law_1387, w_aload_n0 (M := mL_law) dL_law_1388, w_iload_n3 (M := mL_law) dL_law_1389, w_iconst (M := mL_law) (v := 1) dL_law_1390 rfl, w_iadd (M := mL_law) dL_law_1391, w_iaload (M := mL_law) dL_law_1392, w_aload_n0 (M := mL_law) dL_law_1393, w_iload_n3 (M := mL_law) dL_law_1394, w_iconst (M := mL_law) (v := 2) dL_law_1395 rfl, w_iadd (M := mL_law) dL_law_1396, w_iaload (M := mL_law) dL_law_1397, w_aload_n0 (M := mL_law) dL_law_1398, w_iload_n3 (M := mL_law) dL_law_1399, w_iconst (M := mL_law) (v := 3) dL_law_1400 rfl, w_iadd (M := mL_law) dL_law_1401, w_iaload (M := mL_law) dL_law_1402, w_aload_n0 (M := mL_law) dL_law_1403, w_iload_n3 (M := mL_law) dL_law_1404, w_iconst (M := mL_law) (v := 4) dL_law_1405 rfl, w_iadd (M := mL_law) dL_law_1406, w_iaload (M := mL_law) dL_law_1407, w_aload_n0 (M := mL_law) dL_law_1408, w_iload_n3 (M := mL_law) dL_law_1409, w_iconst (M := mL_law) (v := 5) dL_law_1410 rfl, w_iadd (M := mL_law) dL_law_1411, w_iaload (M := mL_law) dL_law_1412, w_if_eq (M := mL_law) (tgt := 1420) dL_law_1413 (by decide), w_iconst (M := mL_law) (v := 1) dL_law_1416 rfl, w_goto (M := mL_law) (tgt := 1421) dL_law_1417 (by decide), w_iconst (M := mL_law) (v := 0) dL_law_1420 rfl, c_13_148 (M := mL_law) dL_law_1421 rfl, w_aload_n2 (M := mL_law) dL_law_1424, w_aload_n0 (M := mL_law) dL_law_1425, w_iload_n3 (M := mL_law) dL_law_1426, w_iconst (M := mL_law) (v := 1) dL_law_1427 rfl, w_iadd (M := mL_law) dL_law_1428, w_iaload (M := mL_law) dL_law_1429, w_aload_n0 (M := mL_law) dL_law_1430, w_iload_n3 (M := mL_law) dL_law_1431, w_iconst (M := mL_law) (v := 2) dL_law_1432 rfl, w_iadd (M := mL_law) dL_law_1433, w_iaload (M := mL_law) dL_law_1434, w_aload_n0 (M := mL_law) dL_law_1435, w_iload_n3 (M := mL_law) dL_law_1436, w_iconst (M := mL_law) (v := 3) dL_law_1437 rfl, w_iadd (M := mL_law) dL_law_1438, w_iaload (M := mL_law) dL_law_1439, w_aload_n0 (M := mL_law) dL_law_1440, w_iload_n3 (M := mL_law) dL_law_1441, w_iconst (M := mL_law) (v := 4) dL_law_1442 rfl, w_iadd (M := mL_law) dL_law_1443, w_iaload (M := mL_law) dL_law_1444, w_aload_n0 (M := mL_law) dL_law_1445, w_iload_n3 (M := mL_law) dL_law_1446, w_iconst (M := mL_law) (v := 5) dL_law_1447 rfl, w_iadd (M := mL_law) dL_law_1448, w_iaload (M := mL_law) dL_law_1449, w_if_eq (M := mL_law) (tgt := 1457) dL_law_1450 (by decide), w_iconst (M := mL_law) (v := 1) dL_law_1453 rfl, w_goto (M := mL_law) (tgt := 1458) dL_law_1454 (by decide), w_iconst (M := mL_law) (v := 0) dL_law_1457 rfl, c_13_152 (M := mL_law) dL_law_1458 rfl, w_ic_eq (M := mL_law) (tgt := 1851) dL_law_1461 (by decide), w_iconst (M := mL_law) (v := 0) dL_law_1464 rfl, w_ireturn (M := mL_law) dL_law_1465 rfl, Kn_v_, Kn_n_, kl_i_, kl_a_, kl_l_, kl_n_, s1_0_, s2_0_, s1_1, s1_2, s1_3, s1_4, s1_5, s1_6, s1_7, s1_8, s1_9, s1_10, s1_11, s1_12, s1_13, s1_14, s2_1, s2_2, s2_3, s2_4, s2_5, s2_6, s2_7, s2_8, s2_9, s2_10, s2_11, s2_12, s2_13, s2_14, List.map_nil, List.map_cons, List.sum_nil, List.sum_cons, ct_i_, ct_r_, ct_l_, t_si_, t_sl_, t_sr_, n_si_, n_sl_, n_sr_, i_si_, i_sl_, i_sr_, l_si_, l_sl_, l_sr_, r_si_, r_sl_, r_sr_, vr_s_, vr_n_, nz_0_, nz_1_, t0, eC, t1, q1, iq, e1, e2, a1, x1, c1, a2, x2, c2, a3, x3, c3, a4, x4, c4, a5, x5, c5, b5]
set_option maxRecDepth 20000 in
set_option maxHeartbeats 4000000 in
theorem lw_32 (z : LW0 h0 n) (W : LWI h0 h) (hi : i + 7 ≤ n) : ∃ h2, (∀ Q, WP 101 mL_law 1466 (lwL i) [] h Q = WP 101 mL_law 1851 (lwL i) [] h2 Q) ∧ LWI h0 h2 := by
  have ol := lw_ol z W.2.2
  obtain ⟨t0, i0⟩ := lw_sc z W.2.2
  have n2 := z.2.2.2
  have eC := W.1.1.1.e.1
  have a1 : nI i + 1 = nI (i + 1) := nI_a (b := 1)
  have x1 : am_in1 (nI (i + 1)) n = True := by rw [in1_n (by omega)]; exact eq_true (by omega)
  have c1 := nI_c (a := i + 1) (by omega)
  have a2 : nI i + 2 = nI (i + 2) := nI_a (b := 2)
  have x2 : am_in1 (nI (i + 2)) n = True := by rw [in1_n (by omega)]; exact eq_true (by omega)
  have c2 := nI_c (a := i + 2) (by omega)
  have o : opS XP 100 mX11_wide mX12_wide [.ref 0, .int (a_i h 1000000 (i + 1)), .int (a_i h 1000000 (i + 2))] [.ref 126, .int (a_i h 1000000 (i + 1)), .int (a_i h 1000000 (i + 2))] h := both0.S (op_wide (d := 98) W.1.1.2.1 (v0 := a_i h 1000000 (i + 1)) (v1 := a_i h 1000000 (i + 2))) W.1
  obtain ⟨r, h1, h2, e1, e2, o1, q1, W2⟩ := lw_two W o sC2 sR2 ⟨rfl, na_wide⟩
  obtain ⟨t1, i1⟩ := lw_sc z o1
  have iq : ∀ j, a_i h1 1000000 j = a_i h 1000000 j := fun j => (i1 j).trans (i0 j).symm
  refine ⟨h2, fun Q => ?_, W2⟩
  unfold lwL
  simp [w_aload_n1 (M := mL_law) dL_law_1466, w_aload_n0 (M := mL_law) dL_law_1467, w_iload_n3 (M := mL_law) dL_law_1468, w_iconst (M := mL_law) (v := 1) dL_law_1469 rfl, w_iadd (M := mL_law) dL_law_1470, w_iaload (M := mL_law) dL_law_1471, w_aload_n0 (M := mL_law) dL_law_1472, w_iload_n3 (M := mL_law) dL_law_1473, w_iconst (M := mL_law) (v := 2) dL_law_1474 rfl, w_iadd (M := mL_law) dL_law_1475, w_iaload (M := mL_law) dL_law_1476, c_13_153 (M := mL_law) dL_law_1477 rfl, w_aload_n2 (M := mL_law) dL_law_1480, w_aload_n0 (M := mL_law) dL_law_1481, w_iload_n3 (M := mL_law) dL_law_1482, w_iconst (M := mL_law) (v := 1) dL_law_1483 rfl, w_iadd (M := mL_law) dL_law_1484, w_iaload (M := mL_law) dL_law_1485, w_aload_n0 (M := mL_law) dL_law_1486, w_iload_n3 (M := mL_law) dL_law_1487, w_iconst (M := mL_law) (v := 2) dL_law_1488 rfl, w_iadd (M := mL_law) dL_law_1489, w_iaload (M := mL_law) dL_law_1490, c_13_156 (M := mL_law) dL_law_1491 rfl, w_ic_eq (M := mL_law) (tgt := 1851) dL_law_1494 (by decide), w_iconst (M := mL_law) (v := 0) dL_law_1497 rfl, w_ireturn (M := mL_law) dL_law_1498 rfl, Kn_v_, Kn_n_, kl_i_, kl_a_, kl_l_, kl_n_, s1_0_, s2_0_, s1_1, s1_2, s1_3, s1_4, s1_5, s1_6, s1_7, s1_8, s1_9, s1_10, s1_11, s1_12, s1_13, s1_14, s2_1, s2_2, s2_3, s2_4, s2_5, s2_6, s2_7, s2_8, s2_9, s2_10, s2_11, s2_12, s2_13, s2_14, List.map_nil, List.map_cons, List.sum_nil, List.sum_cons, ct_i_, ct_r_, ct_l_, t_si_, t_sl_, t_sr_, n_si_, n_sl_, n_sr_, i_si_, i_sl_, i_sr_, l_si_, l_sl_, l_sr_, r_si_, r_sl_, r_sr_, vr_s_, vr_n_, nz_0_, nz_1_, t0, eC, t1, q1, iq, e1, e2, a1, x1, c1, a2, x2, c2]
set_option maxRecDepth 20000 in
set_option maxHeartbeats 4000000 in
theorem lw_33 (z : LW0 h0 n) (W : LWI h0 h) (hi : i + 7 ≤ n) : ∃ h2, (∀ Q, WP 101 mL_law 1499 (lwL i) [] h Q = WP 101 mL_law 1851 (lwL i) [] h2 Q) ∧ LWI h0 h2 := by
  have ol := lw_ol z W.2.2
  obtain ⟨t0, i0⟩ := lw_sc z W.2.2
  have n2 := z.2.2.2
  have eC := W.1.1.1.e.1
  have a1 : nI i + 1 = nI (i + 1) := nI_a (b := 1)
  have x1 : am_in1 (nI (i + 1)) n = True := by rw [in1_n (by omega)]; exact eq_true (by omega)
  have c1 := nI_c (a := i + 1) (by omega)
  have a2 : nI i + 2 = nI (i + 2) := nI_a (b := 2)
  have x2 : am_in1 (nI (i + 2)) n = True := by rw [in1_n (by omega)]; exact eq_true (by omega)
  have c2 := nI_c (a := i + 2) (by omega)
  have a3 : nI i + 3 = nI (i + 3) := nI_a (b := 3)
  have x3 : am_in1 (nI (i + 3)) n = True := by rw [in1_n (by omega)]; exact eq_true (by omega)
  have c3 := nI_c (a := i + 3) (by omega)
  have a4 : nI i + 4 = nI (i + 4) := nI_a (b := 4)
  have x4 : am_in1 (nI (i + 4)) n = True := by rw [in1_n (by omega)]; exact eq_true (by omega)
  have c4 := nI_c (a := i + 4) (by omega)
  have a5 : nI i + 5 = nI (i + 5) := nI_a (b := 5)
  have x5 : am_in1 (nI (i + 5)) n = True := by rw [in1_n (by omega)]; exact eq_true (by omega)
  have c5 := nI_c (a := i + 5) (by omega)
  by_cases b5 : a_i h 1000000 (i + 5) = 0
  · have o : opS XP 100 mX11_worth mX12_worth [.ref 0, .int (a_i h 1000000 (i + 1)), .int (a_i h 1000000 (i + 2)), .int (a_i h 1000000 (i + 3)), .int (a_i h 1000000 (i + 4)), .int (0)] [.ref 126, .int (a_i h 1000000 (i + 1)), .int (a_i h 1000000 (i + 2)), .int (a_i h 1000000 (i + 3)), .int (a_i h 1000000 (i + 4)), .int (0)] h := both0.S (op_worth (d := 98) (h := h) (v0 := a_i h 1000000 (i + 1)) (v1 := a_i h 1000000 (i + 2)) (v2 := a_i h 1000000 (i + 3)) (v3 := a_i h 1000000 (i + 4)) (v4 := 0)) W.1
    obtain ⟨r, h1, h2, e1, e2, o1, q1, W2⟩ := lw_two W o sC5 sR5 ⟨rfl, na_worth⟩
    obtain ⟨t1, i1⟩ := lw_sc z o1
    have iq : ∀ j, a_i h1 1000000 j = a_i h 1000000 j := fun j => (i1 j).trans (i0 j).symm
    refine ⟨h2, fun Q => ?_, W2⟩
    unfold lwL
    simp [w_aload_n1 (M := mL_law) dL_law_1499, w_aload_n0 (M := mL_law) dL_law_1500, w_iload_n3 (M := mL_law) dL_law_1501, w_iconst (M := mL_law) (v := 1) dL_law_1502 rfl, w_iadd (M := mL_law) dL_law_1503, w_iaload (M := mL_law) dL_law_1504, w_aload_n0 (M := mL_law) dL_law_1505, w_iload_n3 (M := mL_law) dL_law_1506, w_iconst (M := mL_law) (v := 2) dL_law_1507 rfl, w_iadd (M := mL_law) dL_law_1508, w_iaload (M := mL_law) dL_law_1509, w_aload_n0 (M := mL_law) dL_law_1510, w_iload_n3 (M := mL_law) dL_law_1511, w_iconst (M := mL_law) (v := 3) dL_law_1512 rfl, w_iadd (M := mL_law) dL_law_1513, w_iaload (M := mL_law) dL_law_1514, w_aload_n0 (M := mL_law) dL_law_1515, w_iload_n3 (M := mL_law) dL_law_1516, w_iconst (M := mL_law) (v := 4) dL_law_1517 rfl, w_iadd (M := mL_law) dL_law_1518, w_iaload (M := mL_law) dL_law_1519, w_aload_n0 (M := mL_law) dL_law_1520, w_iload_n3 (M := mL_law) dL_law_1521, w_iconst (M := mL_law) (v := 5) dL_law_1522 rfl, w_iadd (M := mL_law) dL_law_1523, w_iaload (M := mL_law) dL_law_1524, w_if_eq (M := mL_law) (tgt := 1532) dL_law_1525 (by decide), w_iconst (M := mL_law) (v := 1) dL_law_1528 rfl, w_goto (M := mL_law) (tgt := 1533) dL_law_1529 (by decide), w_iconst (M := mL_law) (v := 0) dL_law_1532 rfl, c_13_157 (M := mL_law) dL_law_1533 rfl, w_aload_n2 (M := mL_law) dL_law_1536, w_aload_n0 (M := mL_law) dL_law_1537, w_iload_n3 (M := mL_law) dL_law_1538, w_iconst (M := mL_law) (v := 1) dL_law_1539 rfl, w_iadd (M := mL_law) dL_law_1540, w_iaload (M := mL_law) dL_law_1541, w_aload_n0 (M := mL_law) dL_law_1542, w_iload_n3 (M := mL_law) dL_law_1543, w_iconst (M := mL_law) (v := 2) dL_law_1544 rfl, w_iadd (M := mL_law) dL_law_1545, w_iaload (M := mL_law) dL_law_1546, w_aload_n0 (M := mL_law) dL_law_1547, w_iload_n3 (M := mL_law) dL_law_1548, w_iconst (M := mL_law) (v := 3) dL_law_1549 rfl, w_iadd (M := mL_law) dL_law_1550, w_iaload (M := mL_law) dL_law_1551, w_aload_n0 (M := mL_law) dL_law_1552, w_iload_n3 (M := mL_law) dL_law_1553, w_iconst (M := mL_law) (v := 4) dL_law_1554 rfl, w_iadd (M := mL_law) dL_law_1555, w_iaload (M := mL_law) dL_law_1556, w_aload_n0 (M := mL_law) dL_law_1557, w_iload_n3 (M := mL_law) dL_law_1558, w_iconst (M := mL_law) (v := 5) dL_law_1559 rfl, w_iadd (M := mL_law) dL_law_1560, w_iaload (M := mL_law) dL_law_1561, w_if_eq (M := mL_law) (tgt := 1569) dL_law_1562 (by decide), w_iconst (M := mL_law) (v := 1) dL_law_1565 rfl, w_goto (M := mL_law) (tgt := 1570) dL_law_1566 (by decide), w_iconst (M := mL_law) (v := 0) dL_law_1569 rfl, c_13_160 (M := mL_law) dL_law_1570 rfl, w_ic_eq (M := mL_law) (tgt := 1851) dL_law_1573 (by decide), w_iconst (M := mL_law) (v := 0) dL_law_1576 rfl, w_ireturn (M := mL_law) dL_law_1577 rfl, Kn_v_, Kn_n_, kl_i_, kl_a_, kl_l_, kl_n_, s1_0_, s2_0_, s1_1, s1_2, s1_3, s1_4, s1_5, s1_6, s1_7, s1_8, s1_9, s1_10, s1_11, s1_12, s1_13, s1_14, s2_1, s2_2, s2_3, s2_4, s2_5, s2_6, s2_7, s2_8, s2_9, s2_10, s2_11, s2_12, s2_13, s2_14, List.map_nil, List.map_cons, List.sum_nil, List.sum_cons, ct_i_, ct_r_, ct_l_, t_si_, t_sl_, t_sr_, n_si_, n_sl_, n_sr_, i_si_, i_sl_, i_sr_, l_si_, l_sl_, l_sr_, r_si_, r_sl_, r_sr_, vr_s_, vr_n_, nz_0_, nz_1_, t0, eC, t1, q1, iq, e1, e2, a1, x1, c1, a2, x2, c2, a3, x3, c3, a4, x4, c4, a5, x5, c5, b5]
  · have o : opS XP 100 mX11_worth mX12_worth [.ref 0, .int (a_i h 1000000 (i + 1)), .int (a_i h 1000000 (i + 2)), .int (a_i h 1000000 (i + 3)), .int (a_i h 1000000 (i + 4)), .int (1)] [.ref 126, .int (a_i h 1000000 (i + 1)), .int (a_i h 1000000 (i + 2)), .int (a_i h 1000000 (i + 3)), .int (a_i h 1000000 (i + 4)), .int (1)] h := both0.S (op_worth (d := 98) (h := h) (v0 := a_i h 1000000 (i + 1)) (v1 := a_i h 1000000 (i + 2)) (v2 := a_i h 1000000 (i + 3)) (v3 := a_i h 1000000 (i + 4)) (v4 := 1)) W.1
    obtain ⟨r, h1, h2, e1, e2, o1, q1, W2⟩ := lw_two W o sC5 sR5 ⟨rfl, na_worth⟩
    obtain ⟨t1, i1⟩ := lw_sc z o1
    have iq : ∀ j, a_i h1 1000000 j = a_i h 1000000 j := fun j => (i1 j).trans (i0 j).symm
    refine ⟨h2, fun Q => ?_, W2⟩
    unfold lwL
    simp [w_aload_n1 (M := mL_law) dL_law_1499, w_aload_n0 (M := mL_law) dL_law_1500, w_iload_n3 (M := mL_law) dL_law_1501, w_iconst (M := mL_law) (v := 1) dL_law_1502 rfl, w_iadd (M := mL_law) dL_law_1503, w_iaload (M := mL_law) dL_law_1504, w_aload_n0 (M := mL_law) dL_law_1505, w_iload_n3 (M := mL_law) dL_law_1506, w_iconst (M := mL_law) (v := 2) dL_law_1507 rfl, w_iadd (M := mL_law) dL_law_1508, w_iaload (M := mL_law) dL_law_1509, w_aload_n0 (M := mL_law) dL_law_1510, w_iload_n3 (M := mL_law) dL_law_1511, w_iconst (M := mL_law) (v := 3) dL_law_1512 rfl, w_iadd (M := mL_law) dL_law_1513, w_iaload (M := mL_law) dL_law_1514, w_aload_n0 (M := mL_law) dL_law_1515, w_iload_n3 (M := mL_law) dL_law_1516, w_iconst (M := mL_law) (v := 4) dL_law_1517 rfl, w_iadd (M := mL_law) dL_law_1518, w_iaload (M := mL_law) dL_law_1519, w_aload_n0 (M := mL_law) dL_law_1520, w_iload_n3 (M := mL_law) dL_law_1521, w_iconst (M := mL_law) (v := 5) dL_law_1522 rfl, w_iadd (M := mL_law) dL_law_1523, w_iaload (M := mL_law) dL_law_1524, w_if_eq (M := mL_law) (tgt := 1532) dL_law_1525 (by decide), w_iconst (M := mL_law) (v := 1) dL_law_1528 rfl, w_goto (M := mL_law) (tgt := 1533) dL_law_1529 (by decide), w_iconst (M := mL_law) (v := 0) dL_law_1532 rfl, c_13_157 (M := mL_law) dL_law_1533 rfl, w_aload_n2 (M := mL_law) dL_law_1536, w_aload_n0 (M := mL_law) dL_law_1537, w_iload_n3 (M := mL_law) dL_law_1538, w_iconst (M := mL_law) (v := 1) dL_law_1539 rfl, w_iadd (M := mL_law) dL_law_1540, w_iaload (M := mL_law) dL_law_1541, w_aload_n0 (M := mL_law) dL_law_1542, w_iload_n3 (M := mL_law) dL_law_1543, w_iconst (M := mL_law) (v := 2) dL_law_1544 rfl, w_iadd (M := mL_law) dL_law_1545, w_iaload (M := mL_law) dL_law_1546, w_aload_n0 (M := mL_law) dL_law_1547, w_iload_n3 (M := mL_law) dL_law_1548, w_iconst (M := mL_law) (v := 3) dL_law_1549 rfl, w_iadd (M := mL_law) dL_law_1550, w_iaload (M := mL_law) dL_law_1551, w_aload_n0 (M := mL_law) dL_law_1552, w_iload_n3 (M := mL_law) dL_law_1553, w_iconst (M := mL_law) (v := 4) dL_law_1554 rfl, w_iadd (M := mL_law) dL_law_1555, w_iaload (M := mL_law) dL_law_1556, w_aload_n0 (M := mL_law) dL_law_1557, w_iload_n3 (M := mL_law) dL_law_1558, w_iconst (M := mL_law) (v := 5) dL_law_1559 rfl, w_iadd (M := mL_law) dL_law_1560, w_iaload (M := mL_law) dL_law_1561, w_if_eq (M := mL_law) (tgt := 1569) dL_law_1562 (by decide), w_iconst (M := mL_law) (v := 1) dL_law_1565 rfl, w_goto (M := mL_law) (tgt := 1570) dL_law_1566 (by decide), w_iconst (M := mL_law) (v := 0) dL_law_1569 rfl, c_13_160 (M := mL_law) dL_law_1570 rfl, w_ic_eq (M := mL_law) (tgt := 1851) dL_law_1573 (by decide), w_iconst (M := mL_law) (v := 0) dL_law_1576 rfl, w_ireturn (M := mL_law) dL_law_1577 rfl, Kn_v_, Kn_n_, kl_i_, kl_a_, kl_l_, kl_n_, s1_0_, s2_0_, s1_1, s1_2, s1_3, s1_4, s1_5, s1_6, s1_7, s1_8, s1_9, s1_10, s1_11, s1_12, s1_13, s1_14, s2_1, s2_2, s2_3, s2_4, s2_5, s2_6, s2_7, s2_8, s2_9, s2_10, s2_11, s2_12, s2_13, s2_14, List.map_nil, List.map_cons, List.sum_nil, List.sum_cons, ct_i_, ct_r_, ct_l_, t_si_, t_sl_, t_sr_, n_si_, n_sl_, n_sr_, i_si_, i_sl_, i_sr_, l_si_, l_sl_, l_sr_, r_si_, r_sl_, r_sr_, vr_s_, vr_n_, nz_0_, nz_1_, t0, eC, t1, q1, iq, e1, e2, a1, x1, c1, a2, x2, c2, a3, x3, c3, a4, x4, c4, a5, x5, c5, b5]
set_option maxRecDepth 20000 in
set_option maxHeartbeats 4000000 in
theorem lw_34 (z : LW0 h0 n) (W : LWI h0 h) (hi : i + 7 ≤ n) : ∃ h2, (∀ Q, WP 101 mL_law 1578 (lwL i) [] h Q = WP 101 mL_law 1851 (lwL i) [] h2 Q) ∧ LWI h0 h2 := by
  have ol := lw_ol z W.2.2
  obtain ⟨t0, i0⟩ := lw_sc z W.2.2
  have n2 := z.2.2.2
  have eC := W.1.1.1.e.1
  have a1 : nI i + 1 = nI (i + 1) := nI_a (b := 1)
  have x1 : am_in1 (nI (i + 1)) n = True := by rw [in1_n (by omega)]; exact eq_true (by omega)
  have c1 := nI_c (a := i + 1) (by omega)
  have a2 : nI i + 2 = nI (i + 2) := nI_a (b := 2)
  have x2 : am_in1 (nI (i + 2)) n = True := by rw [in1_n (by omega)]; exact eq_true (by omega)
  have c2 := nI_c (a := i + 2) (by omega)
  have a3 : nI i + 3 = nI (i + 3) := nI_a (b := 3)
  have x3 : am_in1 (nI (i + 3)) n = True := by rw [in1_n (by omega)]; exact eq_true (by omega)
  have c3 := nI_c (a := i + 3) (by omega)
  have o : opS XP 100 mX11_agree mX12_agree [.ref 0, .int (a_i h 1000000 (i + 1)), .int (a_i h 1000000 (i + 2)), .int (a_i h 1000000 (i + 3))] [.ref 126, .int (a_i h 1000000 (i + 1)), .int (a_i h 1000000 (i + 2)), .int (a_i h 1000000 (i + 3))] h := op_agree (d := 99) W.1 (v0 := a_i h 1000000 (i + 1)) (v1 := a_i h 1000000 (i + 2)) (v2 := a_i h 1000000 (i + 3))
  obtain ⟨r, h1, h2, e1, e2, o1, q1, W2⟩ := lw_two W o sC3 sR3 ⟨rfl, na_agree⟩
  obtain ⟨t1, i1⟩ := lw_sc z o1
  have iq : ∀ j, a_i h1 1000000 j = a_i h 1000000 j := fun j => (i1 j).trans (i0 j).symm
  refine ⟨h2, fun Q => ?_, W2⟩
  unfold lwL
  simp [w_aload_n1 (M := mL_law) dL_law_1578, w_aload_n0 (M := mL_law) dL_law_1579, w_iload_n3 (M := mL_law) dL_law_1580, w_iconst (M := mL_law) (v := 1) dL_law_1581 rfl, w_iadd (M := mL_law) dL_law_1582, w_iaload (M := mL_law) dL_law_1583, w_aload_n0 (M := mL_law) dL_law_1584, w_iload_n3 (M := mL_law) dL_law_1585, w_iconst (M := mL_law) (v := 2) dL_law_1586 rfl, w_iadd (M := mL_law) dL_law_1587, w_iaload (M := mL_law) dL_law_1588, w_aload_n0 (M := mL_law) dL_law_1589, w_iload_n3 (M := mL_law) dL_law_1590, w_iconst (M := mL_law) (v := 3) dL_law_1591 rfl, w_iadd (M := mL_law) dL_law_1592, w_iaload (M := mL_law) dL_law_1593, c_13_161 (M := mL_law) dL_law_1594 rfl, w_aload_n2 (M := mL_law) dL_law_1597, w_aload_n0 (M := mL_law) dL_law_1598, w_iload_n3 (M := mL_law) dL_law_1599, w_iconst (M := mL_law) (v := 1) dL_law_1600 rfl, w_iadd (M := mL_law) dL_law_1601, w_iaload (M := mL_law) dL_law_1602, w_aload_n0 (M := mL_law) dL_law_1603, w_iload_n3 (M := mL_law) dL_law_1604, w_iconst (M := mL_law) (v := 2) dL_law_1605 rfl, w_iadd (M := mL_law) dL_law_1606, w_iaload (M := mL_law) dL_law_1607, w_aload_n0 (M := mL_law) dL_law_1608, w_iload_n3 (M := mL_law) dL_law_1609, w_iconst (M := mL_law) (v := 3) dL_law_1610 rfl, w_iadd (M := mL_law) dL_law_1611, w_iaload (M := mL_law) dL_law_1612, c_13_164 (M := mL_law) dL_law_1613 rfl, w_ic_eq (M := mL_law) (tgt := 1851) dL_law_1616 (by decide), w_iconst (M := mL_law) (v := 0) dL_law_1619 rfl, w_ireturn (M := mL_law) dL_law_1620 rfl, Kn_v_, Kn_n_, kl_i_, kl_a_, kl_l_, kl_n_, s1_0_, s2_0_, s1_1, s1_2, s1_3, s1_4, s1_5, s1_6, s1_7, s1_8, s1_9, s1_10, s1_11, s1_12, s1_13, s1_14, s2_1, s2_2, s2_3, s2_4, s2_5, s2_6, s2_7, s2_8, s2_9, s2_10, s2_11, s2_12, s2_13, s2_14, List.map_nil, List.map_cons, List.sum_nil, List.sum_cons, ct_i_, ct_r_, ct_l_, t_si_, t_sl_, t_sr_, n_si_, n_sl_, n_sr_, i_si_, i_sl_, i_sr_, l_si_, l_sl_, l_sr_, r_si_, r_sl_, r_sr_, vr_s_, vr_n_, nz_0_, nz_1_, t0, eC, t1, q1, iq, e1, e2, a1, x1, c1, a2, x2, c2, a3, x3, c3]
set_option maxRecDepth 20000 in
set_option maxHeartbeats 4000000 in
theorem lw_35 (z : LW0 h0 n) (W : LWI h0 h) (hi : i + 7 ≤ n) : ∃ h2, (∀ Q, WP 101 mL_law 1621 (lwL i) [] h Q = WP 101 mL_law 1851 (lwL i) [] h2 Q) ∧ LWI h0 h2 := by
  have ol := lw_ol z W.2.2
  obtain ⟨t0, i0⟩ := lw_sc z W.2.2
  have n2 := z.2.2.2
  have eC := W.1.1.1.e.1
  have a1 : nI i + 1 = nI (i + 1) := nI_a (b := 1)
  have x1 : am_in1 (nI (i + 1)) n = True := by rw [in1_n (by omega)]; exact eq_true (by omega)
  have c1 := nI_c (a := i + 1) (by omega)
  have o : opS XP 100 mX11_least mX12_least [.ref 0, .int (a_i h 1000000 (i + 1))] [.ref 126, .int (a_i h 1000000 (i + 1))] h := op_least (d := 98) W.1 (v0 := a_i h 1000000 (i + 1))
  obtain ⟨r, h1, h2, e1, e2, o1, q1, W2⟩ := lw_two W o sC1 sR1 ⟨rfl, na_least⟩
  obtain ⟨t1, i1⟩ := lw_sc z o1
  have iq : ∀ j, a_i h1 1000000 j = a_i h 1000000 j := fun j => (i1 j).trans (i0 j).symm
  refine ⟨h2, fun Q => ?_, W2⟩
  unfold lwL
  simp [w_aload_n1 (M := mL_law) dL_law_1621, w_aload_n0 (M := mL_law) dL_law_1622, w_iload_n3 (M := mL_law) dL_law_1623, w_iconst (M := mL_law) (v := 1) dL_law_1624 rfl, w_iadd (M := mL_law) dL_law_1625, w_iaload (M := mL_law) dL_law_1626, c_13_165 (M := mL_law) dL_law_1627 rfl, w_aload_n2 (M := mL_law) dL_law_1630, w_aload_n0 (M := mL_law) dL_law_1631, w_iload_n3 (M := mL_law) dL_law_1632, w_iconst (M := mL_law) (v := 1) dL_law_1633 rfl, w_iadd (M := mL_law) dL_law_1634, w_iaload (M := mL_law) dL_law_1635, c_13_168 (M := mL_law) dL_law_1636 rfl, w_ic_eq (M := mL_law) (tgt := 1851) dL_law_1639 (by decide), w_iconst (M := mL_law) (v := 0) dL_law_1642 rfl, w_ireturn (M := mL_law) dL_law_1643 rfl, Kn_v_, Kn_n_, kl_i_, kl_a_, kl_l_, kl_n_, s1_0_, s2_0_, s1_1, s1_2, s1_3, s1_4, s1_5, s1_6, s1_7, s1_8, s1_9, s1_10, s1_11, s1_12, s1_13, s1_14, s2_1, s2_2, s2_3, s2_4, s2_5, s2_6, s2_7, s2_8, s2_9, s2_10, s2_11, s2_12, s2_13, s2_14, List.map_nil, List.map_cons, List.sum_nil, List.sum_cons, ct_i_, ct_r_, ct_l_, t_si_, t_sl_, t_sr_, n_si_, n_sl_, n_sr_, i_si_, i_sl_, i_sr_, l_si_, l_sl_, l_sr_, r_si_, r_sl_, r_sr_, vr_s_, vr_n_, nz_0_, nz_1_, t0, eC, t1, q1, iq, e1, e2, a1, x1, c1]
set_option maxRecDepth 20000 in
set_option maxHeartbeats 4000000 in
theorem lw_36 (z : LW0 h0 n) (W : LWI h0 h) (hi : i + 7 ≤ n) : ∃ h2, (∀ Q, WP 101 mL_law 1644 (lwL i) [] h Q = WP 101 mL_law 1851 (lwL i) [] h2 Q) ∧ LWI h0 h2 := by
  have ol := lw_ol z W.2.2
  obtain ⟨t0, i0⟩ := lw_sc z W.2.2
  have n2 := z.2.2.2
  have eC := W.1.1.1.e.1
  have a1 : nI i + 1 = nI (i + 1) := nI_a (b := 1)
  have x1 : am_in1 (nI (i + 1)) n = True := by rw [in1_n (by omega)]; exact eq_true (by omega)
  have c1 := nI_c (a := i + 1) (by omega)
  have a2 : nI i + 2 = nI (i + 2) := nI_a (b := 2)
  have x2 : am_in1 (nI (i + 2)) n = True := by rw [in1_n (by omega)]; exact eq_true (by omega)
  have c2 := nI_c (a := i + 2) (by omega)
  have a3 : nI i + 3 = nI (i + 3) := nI_a (b := 3)
  have x3 : am_in1 (nI (i + 3)) n = True := by rw [in1_n (by omega)]; exact eq_true (by omega)
  have c3 := nI_c (a := i + 3) (by omega)
  have a4 : nI i + 4 = nI (i + 4) := nI_a (b := 4)
  have x4 : am_in1 (nI (i + 4)) n = True := by rw [in1_n (by omega)]; exact eq_true (by omega)
  have c4 := nI_c (a := i + 4) (by omega)
  have o : opS XP 100 mX11_heard mX12_heard [.ref 0, .int (a_i h 1000000 (i + 1)), .int (a_i h 1000000 (i + 2)), .int (a_i h 1000000 (i + 3)), .int (a_i h 1000000 (i + 4))] [.ref 126, .int (a_i h 1000000 (i + 1)), .int (a_i h 1000000 (i + 2)), .int (a_i h 1000000 (i + 3)), .int (a_i h 1000000 (i + 4))] h := op_heard (d := 99) W.1 (v0 := a_i h 1000000 (i + 1)) (v1 := a_i h 1000000 (i + 2)) (v2 := a_i h 1000000 (i + 3)) (v3 := a_i h 1000000 (i + 4))
  obtain ⟨r, h1, h2, e1, e2, o1, q1, W2⟩ := lw_two W o sC4 sR4 ⟨rfl, na_heard⟩
  obtain ⟨t1, i1⟩ := lw_sc z o1
  have iq : ∀ j, a_i h1 1000000 j = a_i h 1000000 j := fun j => (i1 j).trans (i0 j).symm
  refine ⟨h2, fun Q => ?_, W2⟩
  unfold lwL
  simp [w_aload_n1 (M := mL_law) dL_law_1644, w_aload_n0 (M := mL_law) dL_law_1645, w_iload_n3 (M := mL_law) dL_law_1646, w_iconst (M := mL_law) (v := 1) dL_law_1647 rfl, w_iadd (M := mL_law) dL_law_1648, w_iaload (M := mL_law) dL_law_1649, w_aload_n0 (M := mL_law) dL_law_1650, w_iload_n3 (M := mL_law) dL_law_1651, w_iconst (M := mL_law) (v := 2) dL_law_1652 rfl, w_iadd (M := mL_law) dL_law_1653, w_iaload (M := mL_law) dL_law_1654, w_aload_n0 (M := mL_law) dL_law_1655, w_iload_n3 (M := mL_law) dL_law_1656, w_iconst (M := mL_law) (v := 3) dL_law_1657 rfl, w_iadd (M := mL_law) dL_law_1658, w_iaload (M := mL_law) dL_law_1659, w_aload_n0 (M := mL_law) dL_law_1660, w_iload_n3 (M := mL_law) dL_law_1661, w_iconst (M := mL_law) (v := 4) dL_law_1662 rfl, w_iadd (M := mL_law) dL_law_1663, w_iaload (M := mL_law) dL_law_1664, c_13_169 (M := mL_law) dL_law_1665 rfl, w_aload_n2 (M := mL_law) dL_law_1668, w_aload_n0 (M := mL_law) dL_law_1669, w_iload_n3 (M := mL_law) dL_law_1670, w_iconst (M := mL_law) (v := 1) dL_law_1671 rfl, w_iadd (M := mL_law) dL_law_1672, w_iaload (M := mL_law) dL_law_1673, w_aload_n0 (M := mL_law) dL_law_1674, w_iload_n3 (M := mL_law) dL_law_1675, w_iconst (M := mL_law) (v := 2) dL_law_1676 rfl, w_iadd (M := mL_law) dL_law_1677, w_iaload (M := mL_law) dL_law_1678, w_aload_n0 (M := mL_law) dL_law_1679, w_iload_n3 (M := mL_law) dL_law_1680, w_iconst (M := mL_law) (v := 3) dL_law_1681 rfl, w_iadd (M := mL_law) dL_law_1682, w_iaload (M := mL_law) dL_law_1683, w_aload_n0 (M := mL_law) dL_law_1684, w_iload_n3 (M := mL_law) dL_law_1685, w_iconst (M := mL_law) (v := 4) dL_law_1686 rfl, w_iadd (M := mL_law) dL_law_1687, w_iaload (M := mL_law) dL_law_1688, c_13_172 (M := mL_law) dL_law_1689 rfl, w_ic_eq (M := mL_law) (tgt := 1851) dL_law_1692 (by decide), w_iconst (M := mL_law) (v := 0) dL_law_1695 rfl, w_ireturn (M := mL_law) dL_law_1696 rfl, Kn_v_, Kn_n_, kl_i_, kl_a_, kl_l_, kl_n_, s1_0_, s2_0_, s1_1, s1_2, s1_3, s1_4, s1_5, s1_6, s1_7, s1_8, s1_9, s1_10, s1_11, s1_12, s1_13, s1_14, s2_1, s2_2, s2_3, s2_4, s2_5, s2_6, s2_7, s2_8, s2_9, s2_10, s2_11, s2_12, s2_13, s2_14, List.map_nil, List.map_cons, List.sum_nil, List.sum_cons, ct_i_, ct_r_, ct_l_, t_si_, t_sl_, t_sr_, n_si_, n_sl_, n_sr_, i_si_, i_sl_, i_sr_, l_si_, l_sl_, l_sr_, r_si_, r_sl_, r_sr_, vr_s_, vr_n_, nz_0_, nz_1_, t0, eC, t1, q1, iq, e1, e2, a1, x1, c1, a2, x2, c2, a3, x3, c3, a4, x4, c4]
set_option maxRecDepth 20000 in
set_option maxHeartbeats 4000000 in
theorem lw_37 (z : LW0 h0 n) (W : LWI h0 h) (hi : i + 7 ≤ n) : ∃ h2, (∀ Q, WP 101 mL_law 1697 (lwL i) [] h Q = WP 101 mL_law 1851 (lwL i) [] h2 Q) ∧ LWI h0 h2 := by
  have ol := lw_ol z W.2.2
  obtain ⟨t0, i0⟩ := lw_sc z W.2.2
  have n2 := z.2.2.2
  have eC := W.1.1.1.e.1
  have a1 : nI i + 1 = nI (i + 1) := nI_a (b := 1)
  have x1 : am_in1 (nI (i + 1)) n = True := by rw [in1_n (by omega)]; exact eq_true (by omega)
  have c1 := nI_c (a := i + 1) (by omega)
  by_cases b1 : a_i h 1000000 (i + 1) = 0
  · have o : opS XP 100 mX11_span mX12_span [.ref 0, .int (0)] [.ref 126, .int (0)] h := op_span (d := 99) W.1 (v0 := 0)
    obtain ⟨r, h1, h2, e1, e2, o1, q1, W2⟩ := lw_two W o sC1 sR1 ⟨rfl, na_span⟩
    obtain ⟨t1, i1⟩ := lw_sc z o1
    have iq : ∀ j, a_i h1 1000000 j = a_i h 1000000 j := fun j => (i1 j).trans (i0 j).symm
    refine ⟨h2, fun Q => ?_, W2⟩
    unfold lwL
    simp [w_aload_n1 (M := mL_law) dL_law_1697, w_aload_n0 (M := mL_law) dL_law_1698, w_iload_n3 (M := mL_law) dL_law_1699, w_iconst (M := mL_law) (v := 1) dL_law_1700 rfl, w_iadd (M := mL_law) dL_law_1701, w_iaload (M := mL_law) dL_law_1702, w_if_eq (M := mL_law) (tgt := 1710) dL_law_1703 (by decide), w_iconst (M := mL_law) (v := 1) dL_law_1706 rfl, w_goto (M := mL_law) (tgt := 1711) dL_law_1707 (by decide), w_iconst (M := mL_law) (v := 0) dL_law_1710 rfl, c_13_173 (M := mL_law) dL_law_1711 rfl, w_aload_n2 (M := mL_law) dL_law_1714, w_aload_n0 (M := mL_law) dL_law_1715, w_iload_n3 (M := mL_law) dL_law_1716, w_iconst (M := mL_law) (v := 1) dL_law_1717 rfl, w_iadd (M := mL_law) dL_law_1718, w_iaload (M := mL_law) dL_law_1719, w_if_eq (M := mL_law) (tgt := 1727) dL_law_1720 (by decide), w_iconst (M := mL_law) (v := 1) dL_law_1723 rfl, w_goto (M := mL_law) (tgt := 1728) dL_law_1724 (by decide), w_iconst (M := mL_law) (v := 0) dL_law_1727 rfl, c_13_177 (M := mL_law) dL_law_1728 rfl, w_ic_eq (M := mL_law) (tgt := 1851) dL_law_1731 (by decide), w_iconst (M := mL_law) (v := 0) dL_law_1734 rfl, w_ireturn (M := mL_law) dL_law_1735 rfl, Kn_v_, Kn_n_, kl_i_, kl_a_, kl_l_, kl_n_, s1_0_, s2_0_, s1_1, s1_2, s1_3, s1_4, s1_5, s1_6, s1_7, s1_8, s1_9, s1_10, s1_11, s1_12, s1_13, s1_14, s2_1, s2_2, s2_3, s2_4, s2_5, s2_6, s2_7, s2_8, s2_9, s2_10, s2_11, s2_12, s2_13, s2_14, List.map_nil, List.map_cons, List.sum_nil, List.sum_cons, ct_i_, ct_r_, ct_l_, t_si_, t_sl_, t_sr_, n_si_, n_sl_, n_sr_, i_si_, i_sl_, i_sr_, l_si_, l_sl_, l_sr_, r_si_, r_sl_, r_sr_, vr_s_, vr_n_, nz_0_, nz_1_, t0, eC, t1, q1, iq, e1, e2, a1, x1, c1, b1]
  · have o : opS XP 100 mX11_span mX12_span [.ref 0, .int (1)] [.ref 126, .int (1)] h := op_span (d := 99) W.1 (v0 := 1)
    obtain ⟨r, h1, h2, e1, e2, o1, q1, W2⟩ := lw_two W o sC1 sR1 ⟨rfl, na_span⟩
    obtain ⟨t1, i1⟩ := lw_sc z o1
    have iq : ∀ j, a_i h1 1000000 j = a_i h 1000000 j := fun j => (i1 j).trans (i0 j).symm
    refine ⟨h2, fun Q => ?_, W2⟩
    unfold lwL
    simp [w_aload_n1 (M := mL_law) dL_law_1697, w_aload_n0 (M := mL_law) dL_law_1698, w_iload_n3 (M := mL_law) dL_law_1699, w_iconst (M := mL_law) (v := 1) dL_law_1700 rfl, w_iadd (M := mL_law) dL_law_1701, w_iaload (M := mL_law) dL_law_1702, w_if_eq (M := mL_law) (tgt := 1710) dL_law_1703 (by decide), w_iconst (M := mL_law) (v := 1) dL_law_1706 rfl, w_goto (M := mL_law) (tgt := 1711) dL_law_1707 (by decide), w_iconst (M := mL_law) (v := 0) dL_law_1710 rfl, c_13_173 (M := mL_law) dL_law_1711 rfl, w_aload_n2 (M := mL_law) dL_law_1714, w_aload_n0 (M := mL_law) dL_law_1715, w_iload_n3 (M := mL_law) dL_law_1716, w_iconst (M := mL_law) (v := 1) dL_law_1717 rfl, w_iadd (M := mL_law) dL_law_1718, w_iaload (M := mL_law) dL_law_1719, w_if_eq (M := mL_law) (tgt := 1727) dL_law_1720 (by decide), w_iconst (M := mL_law) (v := 1) dL_law_1723 rfl, w_goto (M := mL_law) (tgt := 1728) dL_law_1724 (by decide), w_iconst (M := mL_law) (v := 0) dL_law_1727 rfl, c_13_177 (M := mL_law) dL_law_1728 rfl, w_ic_eq (M := mL_law) (tgt := 1851) dL_law_1731 (by decide), w_iconst (M := mL_law) (v := 0) dL_law_1734 rfl, w_ireturn (M := mL_law) dL_law_1735 rfl, Kn_v_, Kn_n_, kl_i_, kl_a_, kl_l_, kl_n_, s1_0_, s2_0_, s1_1, s1_2, s1_3, s1_4, s1_5, s1_6, s1_7, s1_8, s1_9, s1_10, s1_11, s1_12, s1_13, s1_14, s2_1, s2_2, s2_3, s2_4, s2_5, s2_6, s2_7, s2_8, s2_9, s2_10, s2_11, s2_12, s2_13, s2_14, List.map_nil, List.map_cons, List.sum_nil, List.sum_cons, ct_i_, ct_r_, ct_l_, t_si_, t_sl_, t_sr_, n_si_, n_sl_, n_sr_, i_si_, i_sl_, i_sr_, l_si_, l_sl_, l_sr_, r_si_, r_sl_, r_sr_, vr_s_, vr_n_, nz_0_, nz_1_, t0, eC, t1, q1, iq, e1, e2, a1, x1, c1, b1]
set_option maxRecDepth 20000 in
set_option maxHeartbeats 4000000 in
theorem lw_38 (z : LW0 h0 n) (W : LWI h0 h) (hi : i + 7 ≤ n) : ∃ h2, (∀ Q, WP 101 mL_law 1736 (lwL i) [] h Q = WP 101 mL_law 1851 (lwL i) [] h2 Q) ∧ LWI h0 h2 := by
  have ol := lw_ol z W.2.2
  obtain ⟨t0, i0⟩ := lw_sc z W.2.2
  have n2 := z.2.2.2
  have eC := W.1.1.1.e.1
  have a1 : nI i + 1 = nI (i + 1) := nI_a (b := 1)
  have x1 : am_in1 (nI (i + 1)) n = True := by rw [in1_n (by omega)]; exact eq_true (by omega)
  have c1 := nI_c (a := i + 1) (by omega)
  have a2 : nI i + 2 = nI (i + 2) := nI_a (b := 2)
  have x2 : am_in1 (nI (i + 2)) n = True := by rw [in1_n (by omega)]; exact eq_true (by omega)
  have c2 := nI_c (a := i + 2) (by omega)
  have a3 : nI i + 3 = nI (i + 3) := nI_a (b := 3)
  have x3 : am_in1 (nI (i + 3)) n = True := by rw [in1_n (by omega)]; exact eq_true (by omega)
  have c3 := nI_c (a := i + 3) (by omega)
  have o : opS XP 100 mX11_way mX12_way [.ref 0, .int (a_i h 1000000 (i + 1)), .int (a_i h 1000000 (i + 2)), .int (a_i h 1000000 (i + 3))] [.ref 126, .int (a_i h 1000000 (i + 1)), .int (a_i h 1000000 (i + 2)), .int (a_i h 1000000 (i + 3))] h := op_way (d := 97) W.1 (v0 := a_i h 1000000 (i + 1)) (v1 := a_i h 1000000 (i + 2)) (v2 := a_i h 1000000 (i + 3))
  obtain ⟨r, h1, h2, e1, e2, o1, q1, W2⟩ := lw_two W o sC3 sR3 ⟨rfl, na_way⟩
  obtain ⟨t1, i1⟩ := lw_sc z o1
  have iq : ∀ j, a_i h1 1000000 j = a_i h 1000000 j := fun j => (i1 j).trans (i0 j).symm
  refine ⟨h2, fun Q => ?_, W2⟩
  unfold lwL
  simp [w_aload_n1 (M := mL_law) dL_law_1736, w_aload_n0 (M := mL_law) dL_law_1737, w_iload_n3 (M := mL_law) dL_law_1738, w_iconst (M := mL_law) (v := 1) dL_law_1739 rfl, w_iadd (M := mL_law) dL_law_1740, w_iaload (M := mL_law) dL_law_1741, w_aload_n0 (M := mL_law) dL_law_1742, w_iload_n3 (M := mL_law) dL_law_1743, w_iconst (M := mL_law) (v := 2) dL_law_1744 rfl, w_iadd (M := mL_law) dL_law_1745, w_iaload (M := mL_law) dL_law_1746, w_aload_n0 (M := mL_law) dL_law_1747, w_iload_n3 (M := mL_law) dL_law_1748, w_iconst (M := mL_law) (v := 3) dL_law_1749 rfl, w_iadd (M := mL_law) dL_law_1750, w_iaload (M := mL_law) dL_law_1751, c_13_178 (M := mL_law) dL_law_1752 rfl, w_aload_n2 (M := mL_law) dL_law_1755, w_aload_n0 (M := mL_law) dL_law_1756, w_iload_n3 (M := mL_law) dL_law_1757, w_iconst (M := mL_law) (v := 1) dL_law_1758 rfl, w_iadd (M := mL_law) dL_law_1759, w_iaload (M := mL_law) dL_law_1760, w_aload_n0 (M := mL_law) dL_law_1761, w_iload_n3 (M := mL_law) dL_law_1762, w_iconst (M := mL_law) (v := 2) dL_law_1763 rfl, w_iadd (M := mL_law) dL_law_1764, w_iaload (M := mL_law) dL_law_1765, w_aload_n0 (M := mL_law) dL_law_1766, w_iload_n3 (M := mL_law) dL_law_1767, w_iconst (M := mL_law) (v := 3) dL_law_1768 rfl, w_iadd (M := mL_law) dL_law_1769, w_iaload (M := mL_law) dL_law_1770, c_13_181 (M := mL_law) dL_law_1771 rfl, w_ic_eq (M := mL_law) (tgt := 1851) dL_law_1774 (by decide), w_iconst (M := mL_law) (v := 0) dL_law_1777 rfl, w_ireturn (M := mL_law) dL_law_1778 rfl, Kn_v_, Kn_n_, kl_i_, kl_a_, kl_l_, kl_n_, s1_0_, s2_0_, s1_1, s1_2, s1_3, s1_4, s1_5, s1_6, s1_7, s1_8, s1_9, s1_10, s1_11, s1_12, s1_13, s1_14, s2_1, s2_2, s2_3, s2_4, s2_5, s2_6, s2_7, s2_8, s2_9, s2_10, s2_11, s2_12, s2_13, s2_14, List.map_nil, List.map_cons, List.sum_nil, List.sum_cons, ct_i_, ct_r_, ct_l_, t_si_, t_sl_, t_sr_, n_si_, n_sl_, n_sr_, i_si_, i_sl_, i_sr_, l_si_, l_sl_, l_sr_, r_si_, r_sl_, r_sr_, vr_s_, vr_n_, nz_0_, nz_1_, t0, eC, t1, q1, iq, e1, e2, a1, x1, c1, a2, x2, c2, a3, x3, c3]
set_option maxRecDepth 20000 in
set_option maxHeartbeats 4000000 in
theorem lw_39 (z : LW0 h0 n) (W : LWI h0 h) (hi : i + 7 ≤ n) : ∃ h2, (∀ Q, WP 101 mL_law 1779 (lwL i) [] h Q = WP 101 mL_law 1851 (lwL i) [] h2 Q) ∧ LWI h0 h2 := by
  have ol := lw_ol z W.2.2
  obtain ⟨t0, i0⟩ := lw_sc z W.2.2
  have n2 := z.2.2.2
  have eC := W.1.1.1.e.1
  have a1 : nI i + 1 = nI (i + 1) := nI_a (b := 1)
  have x1 : am_in1 (nI (i + 1)) n = True := by rw [in1_n (by omega)]; exact eq_true (by omega)
  have c1 := nI_c (a := i + 1) (by omega)
  have o : opS XP 100 mX11_refused mX12_refused [.ref 0, .int (a_i h 1000000 (i + 1))] [.ref 126, .int (a_i h 1000000 (i + 1))] h := op_refused (d := 99) W.1 (v0 := a_i h 1000000 (i + 1))
  obtain ⟨r, h1, h2, e1, e2, o1, q1, W2⟩ := lw_two W o sC1 sR1 ⟨rfl, na_refused⟩
  obtain ⟨t1, i1⟩ := lw_sc z o1
  have iq : ∀ j, a_i h1 1000000 j = a_i h 1000000 j := fun j => (i1 j).trans (i0 j).symm
  refine ⟨h2, fun Q => ?_, W2⟩
  unfold lwL
  simp [w_aload_n1 (M := mL_law) dL_law_1779, w_aload_n0 (M := mL_law) dL_law_1780, w_iload_n3 (M := mL_law) dL_law_1781, w_iconst (M := mL_law) (v := 1) dL_law_1782 rfl, w_iadd (M := mL_law) dL_law_1783, w_iaload (M := mL_law) dL_law_1784, c_13_182 (M := mL_law) dL_law_1785 rfl, w_aload_n2 (M := mL_law) dL_law_1788, w_aload_n0 (M := mL_law) dL_law_1789, w_iload_n3 (M := mL_law) dL_law_1790, w_iconst (M := mL_law) (v := 1) dL_law_1791 rfl, w_iadd (M := mL_law) dL_law_1792, w_iaload (M := mL_law) dL_law_1793, c_13_185 (M := mL_law) dL_law_1794 rfl, w_ic_eq (M := mL_law) (tgt := 1851) dL_law_1797 (by decide), w_iconst (M := mL_law) (v := 0) dL_law_1800 rfl, w_ireturn (M := mL_law) dL_law_1801 rfl, Kn_v_, Kn_n_, kl_i_, kl_a_, kl_l_, kl_n_, s1_0_, s2_0_, s1_1, s1_2, s1_3, s1_4, s1_5, s1_6, s1_7, s1_8, s1_9, s1_10, s1_11, s1_12, s1_13, s1_14, s2_1, s2_2, s2_3, s2_4, s2_5, s2_6, s2_7, s2_8, s2_9, s2_10, s2_11, s2_12, s2_13, s2_14, List.map_nil, List.map_cons, List.sum_nil, List.sum_cons, ct_i_, ct_r_, ct_l_, t_si_, t_sl_, t_sr_, n_si_, n_sl_, n_sr_, i_si_, i_sl_, i_sr_, l_si_, l_sl_, l_sr_, r_si_, r_sl_, r_sr_, vr_s_, vr_n_, nz_0_, nz_1_, t0, eC, t1, q1, iq, e1, e2, a1, x1, c1]
set_option maxRecDepth 20000 in
set_option maxHeartbeats 4000000 in
theorem lw_40 (z : LW0 h0 n) (W : LWI h0 h) (hi : i + 7 ≤ n) : ∃ h2, (∀ Q, WP 101 mL_law 1802 (lwL i) [] h Q = WP 101 mL_law 1851 (lwL i) [] h2 Q) ∧ LWI h0 h2 := by
  have ol := lw_ol z W.2.2
  obtain ⟨t0, i0⟩ := lw_sc z W.2.2
  have n2 := z.2.2.2
  have eC := W.1.1.1.e.1
  have o : opS XP 100 mX11_image mX12_image [.ref 0] [.ref 126] h := op_image (d := 96) W.1 
  obtain ⟨r, h1, h2, e1, e2, o1, q1, W2⟩ := lw_two W o sC0 sR0 ⟨rfl, na_image⟩
  obtain ⟨t1, i1⟩ := lw_sc z o1
  have iq : ∀ j, a_i h1 1000000 j = a_i h 1000000 j := fun j => (i1 j).trans (i0 j).symm
  refine ⟨h2, fun Q => ?_, W2⟩
  unfold lwL
  simp [w_aload_n1 (M := mL_law) dL_law_1802, c_13_186 (M := mL_law) dL_law_1803 rfl, w_aload_n2 (M := mL_law) dL_law_1806, c_13_189 (M := mL_law) dL_law_1807 rfl, w_ic_eq (M := mL_law) (tgt := 1851) dL_law_1810 (by decide), w_iconst (M := mL_law) (v := 0) dL_law_1813 rfl, w_ireturn (M := mL_law) dL_law_1814 rfl, Kn_v_, Kn_n_, kl_i_, kl_a_, kl_l_, kl_n_, s1_0_, s2_0_, s1_1, s1_2, s1_3, s1_4, s1_5, s1_6, s1_7, s1_8, s1_9, s1_10, s1_11, s1_12, s1_13, s1_14, s2_1, s2_2, s2_3, s2_4, s2_5, s2_6, s2_7, s2_8, s2_9, s2_10, s2_11, s2_12, s2_13, s2_14, List.map_nil, List.map_cons, List.sum_nil, List.sum_cons, ct_i_, ct_r_, ct_l_, t_si_, t_sl_, t_sr_, n_si_, n_sl_, n_sr_, i_si_, i_sl_, i_sr_, l_si_, l_sl_, l_sr_, r_si_, r_sl_, r_sr_, vr_s_, vr_n_, nz_0_, nz_1_, t0, eC, t1, q1, iq, e1, e2]
set_option maxRecDepth 20000 in
set_option maxHeartbeats 4000000 in
theorem lw_41 (z : LW0 h0 n) (W : LWI h0 h) (hi : i + 7 ≤ n) : ∃ h2, (∀ Q, WP 101 mL_law 1815 (lwL i) [] h Q = WP 101 mL_law 1851 (lwL i) [] h2 Q) ∧ LWI h0 h2 := by
  have ol := lw_ol z W.2.2
  obtain ⟨t0, i0⟩ := lw_sc z W.2.2
  have n2 := z.2.2.2
  have eC := W.1.1.1.e.1
  have o : opS XP 100 mX11_back mX12_back [.ref 0] [.ref 126] h := op_back (d := 96) W.1 
  obtain ⟨r, h1, h2, e1, e2, o1, q1, W2⟩ := lw_two W o sC0 sR0 ⟨rfl, na_back⟩
  obtain ⟨t1, i1⟩ := lw_sc z o1
  have iq : ∀ j, a_i h1 1000000 j = a_i h 1000000 j := fun j => (i1 j).trans (i0 j).symm
  refine ⟨h2, fun Q => ?_, W2⟩
  unfold lwL
  simp [w_aload_n1 (M := mL_law) dL_law_1815, c_13_190 (M := mL_law) dL_law_1816 rfl, w_aload_n2 (M := mL_law) dL_law_1819, c_13_193 (M := mL_law) dL_law_1820 rfl, w_ic_eq (M := mL_law) (tgt := 1851) dL_law_1823 (by decide), w_iconst (M := mL_law) (v := 0) dL_law_1826 rfl, w_ireturn (M := mL_law) dL_law_1827 rfl, Kn_v_, Kn_n_, kl_i_, kl_a_, kl_l_, kl_n_, s1_0_, s2_0_, s1_1, s1_2, s1_3, s1_4, s1_5, s1_6, s1_7, s1_8, s1_9, s1_10, s1_11, s1_12, s1_13, s1_14, s2_1, s2_2, s2_3, s2_4, s2_5, s2_6, s2_7, s2_8, s2_9, s2_10, s2_11, s2_12, s2_13, s2_14, List.map_nil, List.map_cons, List.sum_nil, List.sum_cons, ct_i_, ct_r_, ct_l_, t_si_, t_sl_, t_sr_, n_si_, n_sl_, n_sr_, i_si_, i_sl_, i_sr_, l_si_, l_sl_, l_sr_, r_si_, r_sl_, r_sr_, vr_s_, vr_n_, nz_0_, nz_1_, t0, eC, t1, q1, iq, e1, e2]
set_option maxRecDepth 20000 in
set_option maxHeartbeats 4000000 in
theorem lw_42 (z : LW0 h0 n) (W : LWI h0 h) (hi : i + 7 ≤ n) : ∃ h2, (∀ Q, WP 101 mL_law 1828 (lwL i) [] h Q = WP 101 mL_law 1851 (lwL i) [] h2 Q) ∧ LWI h0 h2 := by
  have ol := lw_ol z W.2.2
  obtain ⟨t0, i0⟩ := lw_sc z W.2.2
  have n2 := z.2.2.2
  have eC := W.1.1.1.e.1
  have a1 : nI i + 1 = nI (i + 1) := nI_a (b := 1)
  have x1 : am_in1 (nI (i + 1)) n = True := by rw [in1_n (by omega)]; exact eq_true (by omega)
  have c1 := nI_c (a := i + 1) (by omega)
  have o : opS XP 100 mX11_about mX12_about [.ref 0, .int (a_i h 1000000 (i + 1))] [.ref 126, .int (a_i h 1000000 (i + 1))] h := op_about (d := 100) W.1 (v0 := a_i h 1000000 (i + 1))
  obtain ⟨r, h1, h2, e1, e2, o1, q1, W2⟩ := lw_two W o sC1 sR1 ⟨rfl, na_about⟩
  obtain ⟨t1, i1⟩ := lw_sc z o1
  have iq : ∀ j, a_i h1 1000000 j = a_i h 1000000 j := fun j => (i1 j).trans (i0 j).symm
  refine ⟨h2, fun Q => ?_, W2⟩
  unfold lwL
  simp [w_aload_n1 (M := mL_law) dL_law_1828, w_aload_n0 (M := mL_law) dL_law_1829, w_iload_n3 (M := mL_law) dL_law_1830, w_iconst (M := mL_law) (v := 1) dL_law_1831 rfl, w_iadd (M := mL_law) dL_law_1832, w_iaload (M := mL_law) dL_law_1833, c_13_194 (M := mL_law) dL_law_1834 rfl, w_aload_n2 (M := mL_law) dL_law_1837, w_aload_n0 (M := mL_law) dL_law_1838, w_iload_n3 (M := mL_law) dL_law_1839, w_iconst (M := mL_law) (v := 1) dL_law_1840 rfl, w_iadd (M := mL_law) dL_law_1841, w_iaload (M := mL_law) dL_law_1842, c_13_197 (M := mL_law) dL_law_1843 rfl, w_ic_eq (M := mL_law) (tgt := 1851) dL_law_1846 (by decide), w_iconst (M := mL_law) (v := 0) dL_law_1849 rfl, w_ireturn (M := mL_law) dL_law_1850 rfl, Kn_v_, Kn_n_, kl_i_, kl_a_, kl_l_, kl_n_, s1_0_, s2_0_, s1_1, s1_2, s1_3, s1_4, s1_5, s1_6, s1_7, s1_8, s1_9, s1_10, s1_11, s1_12, s1_13, s1_14, s2_1, s2_2, s2_3, s2_4, s2_5, s2_6, s2_7, s2_8, s2_9, s2_10, s2_11, s2_12, s2_13, s2_14, List.map_nil, List.map_cons, List.sum_nil, List.sum_cons, ct_i_, ct_r_, ct_l_, t_si_, t_sl_, t_sr_, n_si_, n_sl_, n_sr_, i_si_, i_sl_, i_sr_, l_si_, l_sl_, l_sr_, r_si_, r_sl_, r_sr_, vr_s_, vr_n_, nz_0_, nz_1_, t0, eC, t1, q1, iq, e1, e2, a1, x1, c1]
end LAW
