section OPS4
variable {X : PX} {d : Nat} {h : am_h}
theorem btn {lo hi : Int} {v : Int32} (k : bt lo v hi) (h0 : 0 ≤ lo) (hh : hi < 2000000000) : ∃ n : Nat, v = nI n ∧ (n : Int) = v.toInt ∧ Nn v = n := ⟨Nn v, bt_e k h0 hh, bt_i k h0, rfl⟩
theorem n1_i {n : Nat} (hn : n < 2000000000) : (nI n - 1).toInt = (n : Int) - 1 := by
  by_cases e : n = 0
  · subst e; decide
  · have : nI n - 1 = nI (n - 1) := nI_sb (b := 1) (by omega)
    rw [this, nI_i (by omega)]
    omega
/-- an index within 0 .. n - 1 -/
theorem inn_ix {v : Int32} {n : Nat} (hn : n < 2000000000) (k : inn v 0 (nI n - 1) = true) : ∃ m, m < n ∧ v = nI m := by
  have k2 := inn_bt k
  rw [n1_i hn] at k2
  unfold bt at k2
  have e0 : (0 : Int32).toInt = 0 := rfl
  rw [e0] at k2
  refine ⟨v.toInt.toNat, by omega, ?_⟩
  apply Int32.toInt_inj.mp
  rw [nI_i (by omega)]
  omega
theorem ix_am {a b m : Nat} (k : a + b * m < 2000000000) : (nI a + nI b * nI m).toNatClampNeg = a + b * m := by rw [nI_m, nI_a, nI_c k]
theorem ip_am {a b m : Nat} (k : a + b * m < 2000000000) : (0 ≤ nI a + nI b * nI m) = True := by rw [nI_m, nI_a, nI_p k]
theorem ix_amc {a b m c : Nat} (k : a + b * m + c < 2000000000) : (nI a + nI b * nI m + nI c).toNatClampNeg = a + b * m + c := by rw [nI_m, nI_a, nI_a, nI_c k]
theorem ip_amc {a b m c : Nat} (k : a + b * m + c < 2000000000) : (0 ≤ nI a + nI b * nI m + nI c) = True := by rw [nI_m, nI_a, nI_a, nI_p k]
theorem ix_ma {b m c : Nat} (k : m * b + c < 2000000000) : (nI m * nI b + nI c).toNatClampNeg = m * b + c := by rw [nI_m, nI_a, nI_c k]
theorem ip_ma {b m c : Nat} (k : m * b + c < 2000000000) : (0 ≤ nI m * nI b + nI c) = True := by rw [nI_m, nI_a, nI_p k]
set_option maxRecDepth 20000 in
theorem op_by (k : Inv X h) {v0 : Int32} : opS X (d + 1) mX11_by mX12_by [.ref 0, .int v0] [.ref 126, .int v0] h := by
  have hC := k.1.1
  have hR := k.1.2.1
  by_cases c : v0 = -1 ∨ inn v0 0 (a_i h 127 1 - 1) = true
  · refine ⟨1, s_i h 1 7 v0, s_i (s_i h 1 7 v0) 127 2 v0, fun Q => ?_, fun Q => ?_, ?_⟩
    · rw [q_X11_by (eq_true hC), k.e.2.2.2.2.2.2.1]
      by_cases c0 : v0 = -1 <;> by_cases c1 : inn v0 0 (a_i h 127 1 - 1) = true <;> simp [c0, c1] at c ⊢
    · rw [q_X12_by (h := s_i h 1 7 v0) (eq_true hR)]
      by_cases c0 : v0 = -1 <;> by_cases c1 : inn v0 0 (a_i h 127 1 - 1) = true <;> simp [c0, c1, i_si_, i_sl_, i_sr_, t_si_, t_sl_, t_sr_, r_si_, r_sl_, l_si_, n_si_, n_sl_] at c ⊢
    · obtain ⟨r1, r2, r3, r4, r5⟩ := k.2.1.1
      have b0 := bt_n (m := 4) r5.1 (by omega) (by omega)
      have b4 := bt_n (m := 8) r5.2.2.2.2.1 (by omega) (by omega)
      have b5 := bt_n (m := 8) r5.2.2.2.2.2.1 (by omega) (by omega)
      refine Inv_lo k rfl rfl rfl rfl ?_ ?_ ?_ ?_ ⟨?_, ?_, ?_, ?_, ?_⟩
      · intro q j z1 z2 z3 z4
        simp (disch := omega) only [ine]
      · simp (disch := omega) only [ine, Nat.le_refl]
      · simp (disch := omega) only [ine]
      · simp (disch := omega) only [ine]
      · exact rTo_fr (fun k j hk => by simp (disch := omega) only [ine]) (by simp (disch := omega) only [ine]) (fun k h1 h2 => by simp (disch := omega) only [ine]) r1
      · unfold rMs at r2 ⊢
        obtain ⟨k1, k2, k3, k4, k5, k6, k7, k8⟩ := r2
        simp (disch := omega) only [ine, ieq]
        exact ⟨k1, trivial, k3, k4, k5, k6, k7, k8⟩
      · exact rAg_fr (fun k j hk => by simp (disch := omega) only [ine]) (by simp (disch := omega) only [ine]) (fun k h1 h2 => by simp (disch := omega) only [ine]) r3
      · exact rHd_fr (fun k j hk => by simp (disch := omega) only [ine]) (by simp (disch := omega) only [ine]) (fun k h1 h2 => by simp (disch := omega) only [ine]) r4
      · unfold wG at r5 ⊢
        obtain ⟨k1, k2, k3, k4, k5, k6, k7, k8, k9, k10, k11, k12⟩ := r5
        simp (disch := omega) only [ine, ieq]
        refine ⟨k1, k2, ?_, k4, k5, k6, k7, k8, k9, k10, k11, k12⟩
        rcases c with rfl | c
        · have : (-1 : Int32).toInt = -1 := rfl
          unfold bt at k2 ⊢
          omega
        · have z := inn_bt c
          obtain ⟨n, e1, e2, e3⟩ := btn k2 (by omega) (by omega)
          have k22 := k2
          unfold bt at k22
          rw [e1, n1_i (by omega)] at z
          have e0 : (0 : Int32).toInt = 0 := rfl
          unfold bt at z ⊢
          omega
  · refine opS_ref (r := 0) k (by omega) (ans := 0) (fun Q => ?_) (fun Q => ?_)
    · rw [q_X11_by (eq_true hC), k.e.2.2.2.2.2.2.1]
      by_cases c0 : v0 = -1 <;> by_cases c1 : inn v0 0 (a_i h 127 1 - 1) = true <;> simp [c0, c1] at c ⊢
    · rw [q_X12_by (h := s_i h 26 0 (a_i h 26 0 + 1)) (eq_true hR)]
      by_cases c0 : v0 = -1 <;> by_cases c1 : inn v0 0 (a_i h 127 1 - 1) = true <;> simp [c0, c1, i_si_, i_sl_, i_sr_, t_si_, t_sl_, t_sr_, r_si_, r_sl_, l_si_, n_si_, n_sl_] at c ⊢
set_option maxRecDepth 20000 in
theorem op_pence (k : Inv X h) {v0 : Int32} : opS X (d + 1) mX11_pence mX12_pence [.ref 0, .int v0] [.ref 126, .int v0] h := by
  have hC := k.1.1
  have hR := k.1.2.1
  refine both0.S ?_ k
  by_cases c0 : inn v0 0 9000 = true
  · obtain ⟨a, a1, a2, rfl⟩ := inn_n c0 (a := 0) (b := 9000) rfl rfl (by omega) (by omega)
    have e1 : nI a + 600 - 1 = nI a + 599 := by
      show nI a + nI 600 - nI 1 = nI a + nI 599
      rw [nI_a, nI_a, nI_sb (by omega)]
      congr 1
    refine ⟨if a_i h 127 8 < (nI a + 599) / 600 then a_i h 127 6 * a_i h 127 8 + a_i h 127 7 * ((nI a + 599) / 600 - a_i h 127 8) else a_i h 127 6 * ((nI a + 599) / 600), fun Q => ?_, fun Q => ?_⟩
    rotate_left
    · rw [q_X12_pence (eq_true hR)]
      simp only [c0, if_true]
      exact (apply_ite (fun x => Q (some (.int x)) h) _ _ _).symm
    · rw [q_X11_pence (eq_true hC)]
      simp only [c0, if_true, e1, k.e]
      congr 3
      split
      · rw [Int32.mul_comm (a_i h 127 8), Int32.mul_comm _ (a_i h 127 7)]
      · rw [Int32.sub_self, Int32.zero_mul, Int32.add_zero, Int32.mul_comm]
  · refine ⟨-1, fun Q => ?_, fun Q => ?_⟩
    · simp [q_X11_pence, hC, c0]
    · simp [q_X12_pence, hR, c0]
end OPS4
