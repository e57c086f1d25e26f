/-! heard, feed -/
section OPS9
variable {X : PX} {d : Nat} {h h' : am_h}
set_option maxRecDepth 20000 in
set_option maxHeartbeats 1000000 in
theorem op_heard (k : Inv X h) {v0 v1 v2 v3 : Int32} : opS X (d + 1) mX11_heard mX12_heard [.ref 0, .int v0, .int v1, .int v2, .int v3] [.ref 126, .int v0, .int v1, .int v2, .int v3] h := by
  have hC := k.1.1
  have hR := k.1.2.1
  obtain ⟨n, e1, e2, e3⟩ := k.H
  have e31 : a_i h 31 2 = nI n := by rw [k.2.1.1.2.2.2.1.1]; exact e1
  obtain ⟨r1, r2, r3, r4, r5⟩ := k.2.1.1
  have b0 := bt_n (m := 4) r5.1 (by omega) (by omega)
  have b4 := bt_n (m := 8) r5.2.2.2.2.1 (by omega) (by omega)
  by_cases c : v0 = -1
  · refine ⟨0, s_i h 31 2 0, s_i (s_i h 31 2 0) 127 5 0, fun Q => ?_, fun Q => ?_, ?_⟩
    · rw [q_X11_heard (eq_true hC), if_pos c]
    · rw [q_X12_heard (h := s_i h 31 2 0) (eq_true hR), if_pos c]
    · refine Inv_lo k rfl rfl rfl rfl ?_ ?_ ?_ ?_ ⟨?_, ?_, ?_, ?_, ?_⟩
      · intro q j z1 z2 z3 z4
        simp (disch := omega) only [ine]
      · simp (disch := omega) only [ine, Nat.le_refl]
      · simp (disch := omega) only [ine]
      · simp (disch := omega) only [ine]
      · exact rTo_fr (fun k j hk => by simp (disch := omega) only [ine]) (by simp (disch := omega) only [ine]) (fun k h1 h2 => by simp (disch := omega) only [ine]) r1
      · unfold rMs at r2 ⊢
        simp (disch := omega) only [ine]
        exact r2
      · exact rAg_fr (fun k j hk => by simp (disch := omega) only [ine]) (by simp (disch := omega) only [ine]) (fun k h1 h2 => by simp (disch := omega) only [ine]) r3
      · unfold rHd
        simp (disch := omega) only [ine, ieq]
        exact ⟨trivial, fun j hj => absurd hj (by have : Nn 0 = 0 := rfl; omega)⟩
      · unfold wG at r5 ⊢
        obtain ⟨k1, k2, k3, k4, k5, k6, k7, k8, k9, k10, k11, k12⟩ := r5
        simp (disch := omega) only [ine, ieq]
        exact ⟨k1, k2, k3, k4, k5, ⟨by decide, by decide⟩, k7, k8, k9, fun e he => k10 e he, fun e he => k11 e he, fun j hj => absurd hj (by have : Nn 0 = 0 := rfl; omega)⟩
  · by_cases c1 : inn v0 0 9000 = true ∧ inn v1 v0 9000 = true ∧ inn v2 0 99 = true ∧ inn v3 v2 99 = true
    · obtain ⟨c1, c2, c3, c4⟩ := c1
      by_cases c5 : n = 8
      · have f1 : (nI n < 8) = False := nI_ltF (b := 8) (by omega) (by omega)
        have f2 : nI n = 8 := by rw [c5]; rfl
        refine opS_ref (r := 1) k (by omega) (ans := -2) (fun Q => ?_) (fun Q => ?_)
        · rw [q_X11_heard (eq_true hC)]
          simp only [e31, if_neg c, c1, c2, c3, c4, if_true, f1, if_false]
        · have ea : ∀ j, a_i (s_i h 26 1 (a_i h 26 1 + 1)) 127 j = a_i h 127 j := fun j => ine (by omega)
          rw [q_X12_heard (h := s_i h 26 1 (a_i h 26 1 + 1)) (eq_true hR)]
          simp only [ea, e1, if_neg c, c1, c2, c3, c4, if_true, if_pos f2]
      · have f1 : (nI n < 8) = True := nI_ltT (b := 8) (by omega) (by omega)
        have f2 : ¬ nI n = 8 := by rw [show (8 : Int32) = nI 8 from rfl, nI_inj (by omega) (by omega)]; exact c5
        have en : Nn (nI (n + 1)) = n + 1 := Nn_n (by omega)
        refine ⟨nI (n + 1), s_i (s_i (s_i h 32 n (v1 - v0 - v3)) 33 n (v1 - v0 - v2)) 31 2 (nI (n + 1)), s_i (s_i (s_i (s_i (s_i (s_i (s_i (s_i h 32 n (v1 - v0 - v3)) 33 n (v1 - v0 - v2)) 31 2 (nI (n + 1))) 127 (54 + 4 * n) v0) 127 (54 + 4 * n + 1) v1) 127 (54 + 4 * n + 2) v2) 127 (54 + 4 * n + 3) v3) 127 5 (nI (n + 1)), fun Q => ?_, fun Q => ?_, ?_⟩
        · rw [q_X11_heard (eq_true hC)]
          simp only [e31, if_neg c, c1, c2, c3, c4, if_true, f1, nI_c (show n < 2000000000 by omega), nI_p (show n < 2000000000 by omega), true_and, nI_s]
          simp [show n < 8 by omega]
        · have i0 : (54 + 4 * nI n).toNatClampNeg = 54 + 4 * n := ixH0 (by omega)
          have j0 : (0 ≤ 54 + 4 * nI n) = True := ipH0 (by omega)
          have i1 : (54 + 4 * nI n + 1).toNatClampNeg = 54 + 4 * n + 1 := ixH1 (by omega)
          have j1 : (0 ≤ 54 + 4 * nI n + 1) = True := ipH1 (by omega)
          have i2 : (54 + 4 * nI n + 2).toNatClampNeg = 54 + 4 * n + 2 := ixH2 (by omega)
          have j2 : (0 ≤ 54 + 4 * nI n + 2) = True := ipH2 (by omega)
          have i3 : (54 + 4 * nI n + 3).toNatClampNeg = 54 + 4 * n + 3 := ixH3 (by omega)
          have j3 : (0 ≤ 54 + 4 * nI n + 3) = True := ipH3 (by omega)
          rw [q_X12_heard (h := s_i (s_i (s_i h 32 n (v1 - v0 - v3)) 33 n (v1 - v0 - v2)) 31 2 (nI (n + 1))) (eq_true hR)]
          have ea : a_i (s_i (s_i (s_i h 32 n (v1 - v0 - v3)) 33 n (v1 - v0 - v2)) 31 2 (nI (n + 1))) 127 5 = nI n := by
            simp (disch := omega) only [ine]
            exact e1
          simp only [ea, if_neg c, c1, c2, c3, c4, if_true, if_neg f2, i0, i1, i2, i3, j0, j1, j2, j3, show (54 + 4 * n < 20150) = True from eq_true (by omega), show (54 + 4 * n + 1 < 20150) = True from eq_true (by omega), show (54 + 4 * n + 2 < 20150) = True from eq_true (by omega), show (54 + 4 * n + 3 < 20150) = True from eq_true (by omega), true_and, and_self, show ¬ 5 = 54 + 4 * n by omega, show ¬ 5 = 54 + 4 * n + 1 by omega, show ¬ 5 = 54 + 4 * n + 2 by omega, show ¬ 5 = 54 + 4 * n + 3 by omega, if_false, nI_s]
        · refine Inv_lo k rfl rfl rfl rfl ?_ ?_ ?_ ?_ ⟨?_, ?_, ?_, ?_, ?_⟩
          · intro q j z1 z2 z3 z4
            simp (disch := omega) only [ine]
          · simp (disch := omega) only [ine, Nat.le_refl]
          · simp (disch := omega) only [ine]
          · simp (disch := omega) only [ine]
          · exact rTo_fr (fun k j hk => by simp (disch := omega) only [ine]) (by simp (disch := omega) only [ine]) (fun k h1 h2 => by simp (disch := omega) only [ine]) r1
          · unfold rMs at r2 ⊢
            simp (disch := omega) only [ine]
            exact r2
          · exact rAg_fr (fun k j hk => by simp (disch := omega) only [ine]) (by simp (disch := omega) only [ine]) (fun k h1 h2 => by simp (disch := omega) only [ine]) r3
          · unfold rHd
            simp (disch := omega) only [ine, ieq]
            refine ⟨trivial, fun j hj => ?_⟩
            rw [en] at hj
            by_cases q : j = n
            · simp (disch := omega) only [ine, ieq, q, and_self]
            · simp (disch := omega) only [ine]
              exact r4.2 j (by omega)
          · unfold wG at r5 ⊢
            obtain ⟨k1, k2, k3, k4, k5, k6, k7, k8, k9, k10, k11, k12⟩ := r5
            refine ⟨?_, ?_, ?_, ?_, ?_, ?_, ?_, ?_, ?_, fun e he => ?_, fun e he => ?_, fun j hj => ?_⟩
            · simp (disch := omega) only [ine]; exact k1
            · simp (disch := omega) only [ine]; exact k2
            · simp (disch := omega) only [ine]; exact k3
            · simp (disch := omega) only [ine]; exact k4
            · simp (disch := omega) only [ine]; exact k5
            · rw [ieq rfl rfl]
              unfold bt
              rw [nI_i (by omega)]
              omega
            · simp (disch := omega) only [ine]; exact k7
            · simp (disch := omega) only [ine]; exact k8
            · simp (disch := omega) only [ine]; exact k9
            · simp (disch := omega) only [ine] at he
              simp (disch := omega) only [ine]
              exact k10 e he
            · simp (disch := omega) only [ine] at he
              simp (disch := omega) only [ine]
              exact k11 e he
            · rw [ieq rfl rfl, en] at hj
              by_cases q : j = n
              · simp (disch := omega) only [ine, ieq, q]
                exact ⟨inn_bt c1, inn_bt c2, inn_bt c3, inn_bt c4⟩
              · simp (disch := omega) only [ine]
                exact k12 j (by omega)
    · refine opS_ref (r := 0) k (by omega) (ans := -2) (fun Q => ?_) (fun Q => ?_)
      · rw [q_X11_heard (eq_true hC)]
        rw [e31, if_neg c]
        by_cases d1 : inn v0 0 9000 = true <;> by_cases d2 : inn v1 v0 9000 = true <;> by_cases d3 : inn v2 0 99 = true <;> by_cases d4 : inn v3 v2 99 = true <;> simp [d1, d2, d3, d4] at c1 ⊢
      · have ea : ∀ j, a_i (s_i h 26 0 (a_i h 26 0 + 1)) 127 j = a_i h 127 j := fun j => ine (by omega)
        rw [q_X12_heard (h := s_i h 26 0 (a_i h 26 0 + 1)) (eq_true hR)]
        simp only [ea, e1, if_neg c]
        by_cases d1 : inn v0 0 9000 = true <;> by_cases d2 : inn v1 v0 9000 = true <;> by_cases d3 : inn v2 0 99 = true <;> by_cases d4 : inn v3 v2 99 = true <;> simp [d1, d2, d3, d4] at c1 ⊢
end OPS9
