/-! calls that touch the first numbers alone, or only look -/
section OPS3
variable {X : PX} {d : Nat} {h : am_h}
theorem Inv.e (k : Inv X h) : a_i h 2 4 = a_i h 127 0 ∧ a_i h 7 0 = a_i h 127 91 ∧ a_i h 7 1 = a_i h 127 90 ∧ a_i h 7 2 = a_i h 127 92 ∧ a_i h 7 3 = a_i h 127 165 ∧ a_i h 7 4 = a_i h 127 616 ∧ a_i h 1 6 = a_i h 127 1 ∧ a_i h 1 7 = a_i h 127 2 ∧ a_i h 1 4 = a_i h 127 3 ∧ a_i h 27 3 = a_i h 127 4 ∧ a_i h 31 2 = a_i h 127 5 ∧ a_i h 86 1 = a_i h 126 3 ∧ a_i h 86 2 = a_i h 126 4 ∧ a_i h 86 3 = a_i h 126 5 ∧ a_i h 1 9 = a_i h 127 6 ∧ a_i h 1 10 = a_i h 127 7 ∧ a_i h 1 11 = a_i h 127 8 ∧ a_i h 26 0 = a_i h 127 9 ∧ a_i h 26 1 = a_i h 127 10 ∧ a_i h 26 2 = a_i h 127 11 := by
  obtain ⟨_, ⟨⟨r1, r2, r3, r4, r5⟩, r6, r7, r8, r9⟩, kk, tp, tn, tx⟩ := k
  exact ⟨r1.1, r6.1, r6.2.1, r6.2.2.1, r6.2.2.2.1, r6.2.2.2.2.1, r2.1, r2.2.1, r8.1, r3.1, r4.1, tp.1, tp.2.2.1, tp.2.2.2.1, r2.2.2.1, r2.2.2.2.1, r2.2.2.2.2.1, r2.2.2.2.2.2.1, r2.2.2.2.2.2.2.1, r2.2.2.2.2.2.2.2⟩
theorem opS_ref {M1 M2 : am_m} {as1 as2 : List Value} {ans : Int32} (k : Inv X h) {r : Nat} (hr : r < 3) (e1 : ∀ Q, Cal d M1 as1 h Q = Q (some (.int ans)) (s_i h 26 r (a_i h 26 r + 1))) (e2 : ∀ Q, Cal d M2 as2 (s_i h 26 r (a_i h 26 r + 1)) Q = Q (some (.int ans)) (s_i (s_i h 26 r (a_i h 26 r + 1)) 127 (9 + r) (a_i h 127 (9 + r) + 1))) : opS X d M1 M2 as1 as2 h := ⟨ans, _, _, e1, e2, Inv_ref k hr⟩
theorem ix_a {a n : Nat} (k : a + n < 2000000000) : (nI a + nI n).toNatClampNeg = a + n := by rw [nI_a, nI_c k]
theorem ip_a {a n : Nat} (k : a + n < 2000000000) : (0 ≤ nI a + nI n) = True := by rw [nI_a, nI_p k]
set_option maxRecDepth 20000 in
theorem op_refused (k : Inv X h) {v0 : Int32} : opS X (d + 1) mX11_refused mX12_refused [.ref 0, .int v0] [.ref 126, .int v0] h := by
  have hC := k.1.1
  have hR := k.1.2.1
  refine both0.S ?_ k
  by_cases c0 : inn v0 0 2 = true
  · obtain ⟨a, a1, a2, rfl⟩ := inn_n c0 (a := 0) (b := 2) rfl rfl (by omega) (by omega)
    refine ⟨a_i h 26 a, fun Q => ?_, fun Q => ?_⟩
    · simp [q_X11_refused, hC, c0, nI_c (a := a) (by omega), nI_p (a := a) (by omega), show a < 3 by omega]
    · have i1 : (9 + nI a).toNatClampNeg = 9 + a := ix_a (a := 9) (by omega)
      have i2 : (0 ≤ 9 + nI a) = True := ip_a (a := 9) (by omega)
      have e : a_i h 127 (9 + a) = a_i h 26 a := by
        have : a = 0 ∨ a = 1 ∨ a = 2 := by omega
        rcases this with rfl | rfl | rfl <;> simp [k.e]
      simp [q_X12_refused, hR, c0, i1, i2, e]
      intro; omega
  · refine ⟨-1, fun Q => ?_, fun Q => ?_⟩
    · simp [q_X11_refused, hC, c0]
    · simp [q_X12_refused, hR, c0]
theorem op_fault (k : Inv X h) {v0 : Int32} : opS X d mX11_fault mX12_fault [.ref 0, .int v0] [.ref 126, .int v0] h := by
  have hC := k.1.1
  have hR := k.1.2.1
  refine both0.S ⟨if v0 = 0 then a_i h 126 4 else if v0 = 1 then a_i h 126 5 else -1, fun Q => ?_, fun Q => ?_⟩ k
  · simp only [q_X11_fault (eq_true hC), k.e]
    repeat' split
    all_goals rfl
  · simp only [q_X12_fault (eq_true hR)]
    repeat' split
    all_goals rfl
theorem op_about (k : Inv X h) {v0 : Int32} : opS X d mX11_about mX12_about [.ref 0, .int v0] [.ref 126, .int v0] h := by
  have hC := k.1.1
  have hR := k.1.2.1
  refine both0.S ⟨if v0 = 0 then a_i h 127 0 else if v0 = 1 then a_i h 127 91 else if v0 = 2 then a_i h 127 90 else if v0 = 3 then a_i h 127 92 else if v0 = 4 then a_i h 127 1 else if v0 = 5 then a_i h 127 2 else if v0 = 6 then a_i h 127 3 else if v0 = 7 then a_i h 127 4 else if v0 = 8 then a_i h 127 5 else if v0 = 9 then a_i h 126 3 else -2, fun Q => ?_, fun Q => ?_⟩ k
  · simp only [q_X11_about (eq_true hC), k.e]
    repeat' split
    all_goals rfl
  · simp only [q_X12_about (eq_true hR)]
    repeat' split
    all_goals rfl
theorem inn_bt {v lo hi : Int32} (k : inn v lo hi = true) : bt lo.toInt v hi.toInt := by
  unfold inn at k
  simp only [Bool.and_eq_true, decide_eq_true_eq, Int32.le_iff_toInt_le] at k
  exact k
set_option maxRecDepth 20000 in
theorem op_price (k : Inv X h) {v0 v1 v2 : Int32} : opS X (d + 1) mX11_price mX12_price [.ref 0, .int v0, .int v1, .int v2] [.ref 126, .int v0, .int v1, .int v2] h := by
  have hC := k.1.1
  have hR := k.1.2.1
  by_cases c : inn v0 0 99 = true ∧ inn v1 0 99 = true ∧ inn v2 0 99 = true
  · obtain ⟨c0, c1, c2⟩ := c
    refine ⟨1, s_i (s_i (s_i h 1 9 v0) 1 10 v1) 1 11 v2, s_i (s_i (s_i (s_i (s_i (s_i h 1 9 v0) 1 10 v1) 1 11 v2) 127 6 v0) 127 7 v1) 127 8 v2, fun Q => ?_, fun Q => ?_, ?_⟩
    · simp [q_X11_price, hC, c0, c1, c2]
    · simp [q_X12_price, hR, c0, c1, c2, i_si_, i_sl_, i_sr_, t_si_, t_sl_, t_sr_, r_si_, r_sl_, l_si_, n_si_, n_sl_]
    · obtain ⟨r1, r2, r3, r4, r5⟩ := k.2.1.1
      have b0 := bt_n (m := 4) r5.1 (by omega) (by omega)
      have b4 := bt_n (m := 8) r5.2.2.2.2.1 (by omega) (by omega)
      have b5 := bt_n (m := 8) r5.2.2.2.2.2.1 (by omega) (by omega)
      refine Inv_lo k rfl rfl rfl rfl ?_ ?_ ?_ ?_ ⟨?_, ?_, ?_, ?_, ?_⟩
      · intro q j z1 z2 z3 z4
        simp (disch := omega) only [ine]
      · simp (disch := omega) only [ine, Nat.le_refl]
      · simp (disch := omega) only [ine]
      · simp (disch := omega) only [ine]
      · exact rTo_fr (fun k j hk => by simp (disch := omega) only [ine]) (by simp (disch := omega) only [ine]) (fun k h1 h2 => by simp (disch := omega) only [ine]) r1
      · unfold rMs at r2 ⊢
        obtain ⟨k1, k2, k3, k4, k5, k6, k7, k8⟩ := r2
        simp (disch := omega) only [ine, ieq]
        exact ⟨k1, k2, trivial, trivial, trivial, k6, k7, k8⟩
      · exact rAg_fr (fun k j hk => by simp (disch := omega) only [ine]) (by simp (disch := omega) only [ine]) (fun k h1 h2 => by simp (disch := omega) only [ine]) r3
      · exact rHd_fr (fun k j hk => by simp (disch := omega) only [ine]) (by simp (disch := omega) only [ine]) (fun k h1 h2 => by simp (disch := omega) only [ine]) r4
      · unfold wG at r5 ⊢
        obtain ⟨k1, k2, k3, k4, k5, k6, k7, k8, k9, k10, k11, k12⟩ := r5
        simp (disch := omega) only [ine, ieq]
        exact ⟨k1, k2, k3, k4, k5, k6, inn_bt c0, inn_bt c1, inn_bt c2, k10, k11, k12⟩
  · refine opS_ref (r := 0) k (by omega) (ans := 0) (fun Q => ?_) (fun Q => ?_)
    · rw [q_X11_price (eq_true hC)]
      by_cases c0 : inn v0 0 99 = true <;> by_cases c1 : inn v1 0 99 = true <;> by_cases c2 : inn v2 0 99 = true <;> simp [c0, c1, c2] at c ⊢
    · rw [q_X12_price (h := s_i h 26 0 (a_i h 26 0 + 1)) (eq_true hR)]
      by_cases c0 : inn v0 0 99 = true <;> by_cases c1 : inn v1 0 99 = true <;> by_cases c2 : inn v2 0 99 = true <;> simp [c0, c1, c2, i_si_, i_sl_, i_sr_, t_si_, t_sl_, t_sr_, r_si_, r_sl_, l_si_, n_si_, n_sl_] at c ⊢
end OPS3
