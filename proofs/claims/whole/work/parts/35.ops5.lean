section OPS5
variable {X : PX} {d : Nat} {h : am_h}
/-- the turns that stand now -/
theorem Inv.T (k : Inv X h) : ∃ n : Nat, a_i h 127 165 = nI n ∧ n ≤ 90 ∧ Nn (a_i h 127 165) = n := by
  have b := k.2.1.2.2.2.2.1.2.2.1
  obtain ⟨n, e1, e2, e3⟩ := btn b (by omega) (by omega)
  refine ⟨n, e1, ?_, e3⟩
  have b2 := b
  unfold bt at b2
  have : (dec (a_i h 127) 90 0 3).toInt = (a_i h 127 165).toInt := rfl
  omega
theorem Inv.N (k : Inv X h) : ∃ n : Nat, a_i h 127 0 = nI n ∧ n ≤ 4 ∧ Nn (a_i h 127 0) = n := by
  have b := k.2.1.1.2.2.2.2.1
  obtain ⟨n, e1, e2, e3⟩ := btn b (by omega) (by omega)
  refine ⟨n, e1, ?_, e3⟩
  unfold bt at b
  omega
theorem Inv.Y (k : Inv X h) : ∃ n : Nat, a_i h 127 616 = nI n ∧ n ≤ 40 ∧ Nn (a_i h 127 616) = n := by
  have b := k.2.1.2.2.2.2.1.2.2.2.1
  obtain ⟨n, e1, e2, e3⟩ := btn b (by omega) (by omega)
  refine ⟨n, e1, ?_, e3⟩
  have b2 := b
  unfold bt at b2
  have : (dec (a_i h 127) 90 0 4).toInt = (a_i h 127 616).toInt := rfl
  omega
/-- the rows of turns, side by side -/
theorem Inv.t (k : Inv X h) {i : Nat} (hi : i < Nn (a_i h 127 165)) : a_i h 17 i = a_i h 127 (166 + 5 * i) ∧ a_i h 18 i = a_i h 127 (166 + 5 * i + 1) ∧ a_i h 19 i = a_i h 127 (166 + 5 * i + 2) ∧ a_i h 20 i = a_i h 127 (166 + 5 * i + 3) ∧ a_i h 21 i = a_i h 127 (166 + 5 * i + 4) := by
  obtain ⟨n, e1, e2, e3⟩ := k.T
  have z := k.2.1.2.2.1.1 i hi
  rw [dec_c10 (by omega), dec_c11 (by omega), dec_c12 (by omega), dec_c13 (by omega), dec_c14 (by omega)] at z
  exact z
theorem Inv.y (k : Inv X h) {i : Nat} (hi : i < Nn (a_i h 127 616)) : a_i h 22 i = a_i h 127 (617 + 3 * i) ∧ a_i h 23 i = a_i h 127 (617 + 3 * i + 1) ∧ a_i h 24 i = a_i h 127 (617 + 3 * i + 2) := by
  obtain ⟨n, e1, e2, e3⟩ := k.Y
  have z := k.2.1.2.2.1.2 i hi
  rw [dec_c15 (by omega), dec_c16 (by omega), dec_c17 (by omega)] at z
  exact z
/-- delays, clear, lost, side by side -/
theorem Inv.dl (k : Inv X h) {i : Nat} (hi : i < 16) : a_i h 8 i = a_i h 127 (117 + i) ∧ a_i h 9 i = a_i h 127 (133 + i) ∧ a_i h 10 i = a_i h 127 (149 + i) := by
  have z := k.2.1.2.1.2.2.2.2.2.1 i hi
  rw [dec_c7 (by omega), dec_c8 (by omega), dec_c9 (by omega)] at z
  exact z
theorem Inv.o (k : Inv X h) {e : Nat} (he : e < Nn (a_i h 127 0)) : a_i h 3 e = a_i h 127 (12 + 4 * e) ∧ a_i h 4 e = a_i h 127 (12 + 4 * e + 1) ∧ a_i h 5 e = a_i h 127 (12 + 4 * e + 2) ∧ a_i h 6 e = a_i h 127 (12 + 4 * e + 3) := k.2.1.1.1.2 e he
set_option maxRecDepth 20000 in
theorem op_turn (k : Inv X h) {v0 v1 : Int32} : opS X (d + 2) mX11_turn mX12_turn [.ref 0, .int v0, .int v1] [.ref 126, .int v0, .int v1] h := by
  have hC := k.1.1
  have hR := k.1.2.1
  refine both0.S ?_ k
  by_cases c : v0 = -1
  · refine ⟨a_i h 127 165, fun Q => ?_, fun Q => ?_⟩
    · simp [q_X11_turn, hC, c, k.e]
    · simp [q_X12_turn, hR, c]
  · by_cases c0 : inn v0 0 (a_i h 127 165 - 1) = true
    · obtain ⟨n, e1, e2, e3⟩ := k.T
      obtain ⟨m, m1, rfl⟩ := inn_ix (n := n) (by omega) (by rw [e1] at c0; exact c0)
      have z := k.t (i := m) (by omega)
      by_cases c1 : inn v1 0 4 = true
      · obtain ⟨a, a1, a2, rfl⟩ := inn_n c1 (a := 0) (b := 4) rfl rfl (by omega) (by omega)
        refine ⟨a_i h 127 (166 + 5 * m + a), fun Q => ?_, fun Q => ?_⟩
        · have : a = 0 ∨ a = 1 ∨ a = 2 ∨ a = 3 ∨ a = 4 := by omega
          rcases this with rfl | rfl | rfl | rfl | rfl
          · simp [q_X11_turn, hC, c, k.e, c0, nI_c (a := m) (by omega), nI_p (a := m) (by omega), show m < 90 by omega, z, show nI 0 = 0 from rfl]
          · simp [q_X11_turn, hC, c, k.e, c0, nI_c (a := m) (by omega), nI_p (a := m) (by omega), show m < 90 by omega, z, show nI 1 = 1 from rfl]
          · simp [q_X11_turn, hC, c, k.e, c0, nI_c (a := m) (by omega), nI_p (a := m) (by omega), show m < 90 by omega, z, show nI 2 = 2 from rfl]
          · simp [q_X11_turn, hC, c, k.e, c0, nI_c (a := m) (by omega), nI_p (a := m) (by omega), show m < 90 by omega, z, show nI 3 = 3 from rfl]
          · simp [q_X11_turn, hC, c, k.e, c0, nI_c (a := m) (by omega), nI_p (a := m) (by omega), show m < 90 by omega, z, show nI 4 = 4 from rfl]
        · have i1 : (166 + 5 * nI m + nI a).toNatClampNeg = 166 + 5 * m + a := ix_amc (a := 166) (b := 5) (by omega)
          have i2 : (0 ≤ 166 + 5 * nI m + nI a) = True := ip_amc (a := 166) (b := 5) (by omega)
          simp [q_X12_turn, hR, c, c0, c1, i1, i2, show 166 + 5 * m + a < 20150 by omega]
      · refine ⟨-2, fun Q => ?_, fun Q => ?_⟩
        · have f : ∀ w : Int32, inn w 0 4 = true → v1 = w → False := fun w hw e => c1 (e ▸ hw)
          have f0 : ¬ v1 = 0 := f 0 rfl
          have f1 : ¬ v1 = 1 := f 1 rfl
          have f2 : ¬ v1 = 2 := f 2 rfl
          have f3 : ¬ v1 = 3 := f 3 rfl
          have f4 : ¬ v1 = 4 := f 4 rfl
          simp [q_X11_turn, hC, c, k.e, c0, f0, f1, f2, f3, f4]
        · simp [q_X12_turn, hR, c, c0, c1]
    · refine ⟨-2, fun Q => ?_, fun Q => ?_⟩
      · simp [q_X11_turn, hC, c, k.e, c0]
      · simp [q_X12_turn, hR, c, c0]
set_option maxRecDepth 20000 in
theorem op_through (k : Inv X h) {v0 v1 v2 : Int32} : opS X (d + 3) mX11_through mX12_through [.ref 0, .int v0, .int v1, .int v2] [.ref 126, .int v0, .int v1, .int v2] h := by
  have hC := k.1.1
  have hR := k.1.2.1
  refine both0.S ?_ k
  obtain ⟨n, e1, e2, e3⟩ := k.N
  by_cases c : inn v0 0 (a_i h 127 0 - 1) = true ∧ inn v1 0 (a_i h 127 0 - 1) = true ∧ ¬ v0 = v1
  · obtain ⟨c0, c1, c2⟩ := c
    obtain ⟨a, a1, rfl⟩ := inn_ix (n := n) (by omega) (by rw [e1] at c0; exact c0)
    obtain ⟨b, b1, rfl⟩ := inn_ix (n := n) (by omega) (by rw [e1] at c1; exact c1)
    have z := k.dl (i := a * 4 + b) (by omega)
    have i1 : (nI a * 4 + nI b).toNatClampNeg = a * 4 + b := ix_ma (b := 4) (by omega)
    have i2 : (0 ≤ nI a * 4 + nI b) = True := ip_ma (b := 4) (by omega)
    have j1 : (133 + 4 * nI a + nI b).toNatClampNeg = 133 + 4 * a + b := ix_amc (a := 133) (b := 4) (by omega)
    have j2 : (0 ≤ 133 + 4 * nI a + nI b) = True := ip_amc (a := 133) (b := 4) (by omega)
    have l1 : (149 + 4 * nI a + nI b).toNatClampNeg = 149 + 4 * a + b := ix_amc (a := 149) (b := 4) (by omega)
    have l2 : (0 ≤ 149 + 4 * nI a + nI b) = True := ip_amc (a := 149) (b := 4) (by omega)
    refine ⟨if v2 = 0 then a_i h 127 (133 + 4 * a + b) else a_i h 127 (149 + 4 * a + b), fun Q => ?_, fun Q => ?_⟩
    · rw [show 133 + (a * 4 + b) = 133 + 4 * a + b by omega, show 149 + (a * 4 + b) = 149 + 4 * a + b by omega] at z
      by_cases c3 : v2 = 0 <;> simp [q_X11_through, hC, k.e, c0, c1, c2, c3, i1, i2, z, show a * 4 + b < 16 by omega]
    · by_cases c3 : v2 = 0 <;> simp [q_X12_through, hR, c0, c1, c2, c3, j1, j2, l1, l2, show 133 + 4 * a + b < 20150 by omega, show 149 + 4 * a + b < 20150 by omega]
  · refine ⟨-1, fun Q => ?_, fun Q => ?_⟩
    · rw [q_X11_through (eq_true hC)]
      simp only [k.e]
      by_cases c0 : inn v0 0 (a_i h 127 0 - 1) = true <;> by_cases c1 : inn v1 0 (a_i h 127 0 - 1) = true <;> by_cases c2 : v0 = v1 <;> simp [c0, c1, c2] at c ⊢
    · rw [q_X12_through (eq_true hR)]
      by_cases c0 : inn v0 0 (a_i h 127 0 - 1) = true <;> by_cases c1 : inn v1 0 (a_i h 127 0 - 1) = true <;> by_cases c2 : v0 = v1 <;> simp [c0, c1, c2] at c ⊢
end OPS5
