section OPS7
variable {X : PX} {d : Nat} {h : am_h}
theorem Nn_n {n : Nat} (h : n < 2000000000) : Nn (nI n) = n := nI_c h
theorem b4_1 {n : Nat} (hn : n ≤ 4) (hb : ¬ n = 4) : n < 4 := by omega
set_option maxRecDepth 20000 in
set_option maxHeartbeats 4000000 in
theorem op_tellEnd (k : Inv X h) {v0 v1 v2 v3 : Int32} : opS X (d + 1) mX11_tellEnd mX12_tellEnd [.ref 0, .int v0, .int v1, .int v2, .int v3] [.ref 126, .int v0, .int v1, .int v2, .int v3] h := by
  have hC := k.1.1
  have hR := k.1.2.1
  obtain ⟨n, e1, e2, e3⟩ := k.N
  by_cases c : inn v0 0 99 = true ∧ inn v1 0 24 = true ∧ inn v2 0 99 = true ∧ inn v3 1 99 = true
  · obtain ⟨c0, c1, c2, c3⟩ := c
    by_cases c4 : n = 4
    · have f1 : (nI n < 4) = False := nI_ltF (b := 4) (by omega) (by omega)
      have f2 : nI n = 4 := by rw [c4]; rfl
      refine opS_ref (r := 1) k (by omega) (ans := -1) (fun Q => ?_) (fun Q => ?_)
      · rw [q_X11_tellEnd (eq_true hC)]
        simp [k.e, e1, c0, c1, c2, c3, f1]
      · rw [q_X12_tellEnd (h := s_i h 26 1 (a_i h 26 1 + 1)) (eq_true hR)]
        simp [i_si_, i_sl_, i_sr_, t_si_, t_sl_, t_sr_, r_si_, r_sl_, l_si_, n_si_, n_sl_, c0, c1, c2, c3, e1, f2]
    · have hn := b4_1 e2 c4
      have f1 : (nI n < 4) = True := nI_ltT (b := 4) (by omega) (by omega)
      have f2 : (nI n = 4) = False := by rw [show (4 : Int32) = nI 4 from rfl, nI_inj (by omega) (by omega)]; exact eq_false c4
      have i0 : (12 + 4 * nI n).toNatClampNeg = 12 + 4 * n := ixE0 (by omega)
      have j0 : (0 ≤ 12 + 4 * nI n) = True := ipE0 (by omega)
      have i1 : (12 + 4 * nI n + 1).toNatClampNeg = 12 + 4 * n + 1 := ixE1 (by omega)
      have j1 : (0 ≤ 12 + 4 * nI n + 1) = True := ipE1 (by omega)
      have i2 : (12 + 4 * nI n + 2).toNatClampNeg = 12 + 4 * n + 2 := ixE2 (by omega)
      have j2 : (0 ≤ 12 + 4 * nI n + 2) = True := ipE2 (by omega)
      have i3 : (12 + 4 * nI n + 3).toNatClampNeg = 12 + 4 * n + 3 := ixE3 (by omega)
      have j3 : (0 ≤ 12 + 4 * nI n + 3) = True := ipE3 (by omega)
      refine ⟨nI n, s_i (s_i (s_i (s_i (s_i h 3 n v0) 4 n v1) 5 n v2) 6 n v3) 2 4 (nI (n + 1)), s_i (s_i (s_i (s_i (s_i (s_i (s_i (s_i (s_i (s_i h 3 n v0) 4 n v1) 5 n v2) 6 n v3) 2 4 (nI (n + 1))) 127 (12 + 4 * n) v0) 127 (12 + 4 * n + 1) v1) 127 (12 + 4 * n + 2) v2) 127 (12 + 4 * n + 3) v3) 127 0 (nI (n + 1)), fun Q => ?_, fun Q => ?_, ?_⟩
      · rw [q_X11_tellEnd (eq_true hC)]
        simp [k.e, e1, c0, c1, c2, c3, f1, nI_c (a := n) (by omega), nI_p (a := n) (by omega), hn, nI_s]
      · rw [q_X12_tellEnd (h := s_i (s_i (s_i (s_i (s_i h 3 n v0) 4 n v1) 5 n v2) 6 n v3) 2 4 (nI (n + 1))) (eq_true hR)]
        simp [i_si_, i_sl_, i_sr_, t_si_, t_sl_, t_sr_, r_si_, r_sl_, l_si_, n_si_, n_sl_, c0, c1, c2, c3, e1, f2, i0, i1, i2, i3, j0, j1, j2, j3, show 12 + 4 * n < 20150 by omega, show 12 + 4 * n + 1 < 20150 by omega, show 12 + 4 * n + 2 < 20150 by omega, show 12 + 4 * n + 3 < 20150 by omega, show ¬ 0 = 12 + 4 * n by omega, show ¬ 0 = 12 + 4 * n + 1 by omega, show ¬ 0 = 12 + 4 * n + 2 by omega, show ¬ 0 = 12 + 4 * n + 3 by omega, nI_s]
      · obtain ⟨r1, r2, r3, r4, r5⟩ := k.2.1.1
        have b4 := bt_n (m := 8) r5.2.2.2.2.1 (by omega) (by omega)
        have b5 := bt_n (m := 8) r5.2.2.2.2.2.1 (by omega) (by omega)
        have en : Nn (nI (n + 1)) = n + 1 := Nn_n (by omega)
        refine Inv_lo k rfl rfl rfl rfl ?_ ?_ ?_ ?_ ⟨?_, ?_, ?_, ?_, ?_⟩
        · intro q j z1 z2 z3 z4
          simp (disch := omega) only [ine]
        · simp (disch := omega) only [ine, ieq]
          omega
        · simp (disch := omega) only [ine]
        · simp (disch := omega) only [ine]
        · unfold rTo
          simp (disch := omega) only [ine, ieq]
          refine ⟨trivial, fun e he => ?_⟩
          rw [en] at he
          by_cases q : e = n
          · simp (disch := omega) only [ine, ieq, q, true_and]
          · simp (disch := omega) only [ine]
            exact r1.2 e (by omega)
        · unfold rMs at r2 ⊢
          simp (disch := omega) only [ine]
          exact r2
        · exact rAg_fr (fun k j hk => by simp (disch := omega) only [ine]) (by simp (disch := omega) only [ine]) (fun k h1 h2 => by simp (disch := omega) only [ine]) r3
        · exact rHd_fr (fun k j hk => by simp (disch := omega) only [ine]) (by simp (disch := omega) only [ine]) (fun k h1 h2 => by simp (disch := omega) only [ine]) r4
        · unfold wG at r5 ⊢
          obtain ⟨k1, k2, k3, k4, k5, k6, k7, k8, k9, k10, k11, k12⟩ := r5
          simp (disch := omega) only [ine, ieq]
          refine ⟨?_, k2, k3, k4, k5, k6, k7, k8, k9, fun e he => ?_, fun e he => ?_, fun e he => ?_⟩
          · unfold bt
            rw [nI_i (by omega)]
            omega
          · rw [en] at he
            by_cases q : e = n
            · simp (disch := omega) only [ine, ieq, q]
              exact ⟨inn_bt c0, inn_bt c1, inn_bt c2, inn_bt c3⟩
            · simp (disch := omega) only [ine]
              exact k10 e (by omega)
          · exact k11 e he
          · exact k12 e he
  · refine opS_ref (r := 0) k (by omega) (ans := -1) (fun Q => ?_) (fun Q => ?_)
    · rw [q_X11_tellEnd (eq_true hC)]
      by_cases c0 : inn v0 0 99 = true <;> by_cases c1 : inn v1 0 24 = true <;> by_cases c2 : inn v2 0 99 = true <;> by_cases c3 : inn v3 1 99 = true <;> simp [c0, c1, c2, c3] at c ⊢
    · rw [q_X12_tellEnd (h := s_i h 26 0 (a_i h 26 0 + 1)) (eq_true hR)]
      by_cases c0 : inn v0 0 99 = true <;> by_cases c1 : inn v1 0 24 = true <;> by_cases c2 : inn v2 0 99 = true <;> by_cases c3 : inn v3 1 99 = true <;> simp [c0, c1, c2, c3, i_si_, i_sl_, i_sr_, t_si_, t_sl_, t_sr_, r_si_, r_sl_, l_si_, n_si_, n_sl_] at c ⊢
end OPS7
