/-! a whole state copied -/
section COPY5
section
variable {I I' : Nat → Nat → Int32} {J J' : Nat → Nat → Int64} {R R' : Nat → Nat → Option Nat} {g g' : Nat → Int32} {o o' : Nat}
theorem rC_cp (k : rC I J R o' g) (c1 : I' (2 + o) 4 = I (2 + o') 4) (c2 : ∀ k j, k < 4 → j < Nn (g 0) → I' (3 + o + k) j = I (3 + o' + k) j)
    (c3 : (∀ j, j < 5 → I' (7 + o) j = I (7 + o') j) ∧ (∀ k j, 1 ≤ k → k < 4 → j < 16 → I' (7 + o + k) j = I (7 + o' + k) j) ∧ ∀ e, e < 4 → (∀ j, j < 13 → I' (7 + o + 5 + e) j = I (7 + o' + 5 + e) j) ∧ J' (7 + o + 5 + e) 13 = J (7 + o' + 5 + e) 13)
    (c4 : ∀ k j, k < 5 → j < Nn (g 165) → I' (17 + o + k) j = I (17 + o' + k) j) (c4' : ∀ k j, k < 3 → j < Nn (g 616) → I' (22 + o + k) j = I (22 + o' + k) j)
    (c5 : ∀ j, j = 4 ∨ j = 5 ∨ j = 6 ∨ j = 7 ∨ j = 9 ∨ j = 10 ∨ j = 11 → I' (1 + o) j = I (1 + o') j) (c6 : ∀ j, j < 3 → I' (26 + o) j = I (26 + o') j)
    (c7 : I' (27 + o) 3 = I (27 + o') 3) (c8 : ∀ k j, k < 3 → j < Nn (g 4) → I' (28 + o + k) j = I (28 + o' + k) j) (c9 : I' (31 + o) 2 = I (31 + o') 2) (c10 : ∀ k j, k < 2 → j < Nn (g 5) → I' (32 + o + k) j = I (32 + o' + k) j)
    (cs : ∀ i p, i < 30 → R (25 + o') i = some p → ∃ p', R' (25 + o) i = some p' ∧ (∀ j, j < 5 → I' p' j = I p j) ∧ (∀ k j, 1 ≤ k → k < 4 → j < 16 → I' (p' + k) j = I (p + k) j) ∧ ∀ e, e < 4 → (∀ j, j < 13 → I' (p' + 5 + e) j = I (p + 5 + e) j) ∧ J' (p' + 5 + e) 13 = J (p + 5 + e) 13)
    (cz : ∀ i p, i < 30 → R' (25 + o) i = some p → ∀ e, e < 4 → I' (p + 5 + e) 0 = 0 ∨ I' (p + 5 + e) 0 = 1)
    (hg : ∀ k, k < 20150 → g' k = g k) : rC I' J' R' o g' := by
  obtain ⟨⟨k1, k2, k3, k4, k5⟩, k6, k7, k8, k9⟩ := k
  have b0 := bt_n (m := 4) k5.1 (by omega) (by omega)
  have b3 := bt_n (m := 30) k5.2.2.2.1 (by omega) (by omega)
  have b4 := bt_n (m := 8) k5.2.2.2.2.1 (by omega) (by omega)
  have b5 := bt_n (m := 8) k5.2.2.2.2.2.1 (by omega) (by omega)
  have e9 : dec g' 90 = dec g 90 := dec_congr (fun i hi => hg _ (by omega))
  have es : ∀ j, j < 30 → dec g' (740 + 647 * j) = dec g (740 + 647 * j) := fun j hj => dec_congr (fun i hi => hg _ (by omega))
  refine ⟨⟨⟨?_, fun e he => ?_⟩, ?_, ⟨?_, fun e he => ?_⟩, ⟨?_, fun e he => ?_⟩, wG_fr (fun k hk => hg k (by omega)) k5⟩, ?_, ?_, ?_, ?_⟩
  · rw [c1, hg 0 (by omega)]; exact k1.1
  · rw [hg 0 (by omega)] at he
    have z0 := c2 0 e (by omega) he
    have z1 := c2 1 e (by omega) he
    have z2 := c2 2 e (by omega) he
    have z3 := c2 3 e (by omega) he
    rw [show 3 + o + 0 = 3 + o by omega, show 3 + o' + 0 = 3 + o' by omega] at z0
    rw [show 3 + o + 1 = 4 + o by omega, show 3 + o' + 1 = 4 + o' by omega] at z1
    rw [show 3 + o + 2 = 5 + o by omega, show 3 + o' + 2 = 5 + o' by omega] at z2
    rw [show 3 + o + 3 = 6 + o by omega, show 3 + o' + 3 = 6 + o' by omega] at z3
    rw [z0, z1, z2, z3, hg _ (by omega), hg _ (by omega), hg _ (by omega), hg _ (by omega)]
    exact k1.2 e he
  · unfold rMs at k2 ⊢
    rw [c5 6 (by omega), c5 7 (by omega), c5 9 (by omega), c5 10 (by omega), c5 11 (by omega), c6 0 (by omega), c6 1 (by omega), c6 2 (by omega), hg 1 (by omega), hg 2 (by omega), hg 6 (by omega), hg 7 (by omega), hg 8 (by omega), hg 9 (by omega), hg 10 (by omega), hg 11 (by omega)]
    exact k2
  · rw [c7, hg 4 (by omega)]; exact k3.1
  · rw [hg 4 (by omega)] at he
    have z0 := c8 0 e (by omega) he
    have z1 := c8 1 e (by omega) he
    have z2 := c8 2 e (by omega) he
    rw [show 28 + o + 0 = 28 + o by omega, show 28 + o' + 0 = 28 + o' by omega] at z0
    rw [show 28 + o + 1 = 29 + o by omega, show 28 + o' + 1 = 29 + o' by omega] at z1
    rw [show 28 + o + 2 = 30 + o by omega, show 28 + o' + 2 = 30 + o' by omega] at z2
    rw [z0, z1, z2, hg _ (by omega), hg _ (by omega), hg _ (by omega)]
    exact k3.2 e he
  · rw [c9, hg 5 (by omega)]; exact k4.1
  · rw [hg 5 (by omega)] at he
    have z0 := c10 0 e (by omega) he
    have z1 := c10 1 e (by omega) he
    rw [show 32 + o + 0 = 32 + o by omega, show 32 + o' + 0 = 32 + o' by omega] at z0
    rw [show 32 + o + 1 = 33 + o by omega, show 32 + o' + 1 = 33 + o' by omega] at z1
    rw [z0, z1, hg _ (by omega), hg _ (by omega), hg _ (by omega), hg _ (by omega)]
    exact k4.2 e he
  · rw [e9]
    exact cpr c3.1 c3.2.1 c3.2.2 k6
  · rw [e9]
    refine ⟨fun i hi => ?_, fun i hi => ?_⟩
    · have z0 := c4 0 i (by omega) hi
      have z1 := c4 1 i (by omega) hi
      have z2 := c4 2 i (by omega) hi
      have z3 := c4 3 i (by omega) hi
      have z4 := c4 4 i (by omega) hi
      rw [show 17 + o + 0 = 17 + o by omega, show 17 + o' + 0 = 17 + o' by omega] at z0
      rw [show 17 + o + 1 = 18 + o by omega, show 17 + o' + 1 = 18 + o' by omega] at z1
      rw [show 17 + o + 2 = 19 + o by omega, show 17 + o' + 2 = 19 + o' by omega] at z2
      rw [show 17 + o + 3 = 20 + o by omega, show 17 + o' + 3 = 20 + o' by omega] at z3
      rw [show 17 + o + 4 = 21 + o by omega, show 17 + o' + 4 = 21 + o' by omega] at z4
      rw [z0, z1, z2, z3, z4]
      exact k7.1 i hi
    · have z0 := c4' 0 i (by omega) hi
      have z1 := c4' 1 i (by omega) hi
      have z2 := c4' 2 i (by omega) hi
      rw [show 22 + o + 0 = 22 + o by omega, show 22 + o' + 0 = 22 + o' by omega] at z0
      rw [show 22 + o + 1 = 23 + o by omega, show 22 + o' + 1 = 23 + o' by omega] at z1
      rw [show 22 + o + 2 = 24 + o by omega, show 22 + o' + 2 = 24 + o' by omega] at z2
      rw [z0, z1, z2]
      exact k7.2 i hi
  · obtain ⟨k81, ⟨m, k82, k83, k84⟩, k85⟩ := k8
    refine ⟨by rw [c5 4 (by omega), hg 3 (by omega)]; exact k81, ⟨m, k82, by rw [c5 5 (by omega)]; exact k83, fun j hj => ?_⟩, cz⟩
    rw [hg 3 (by omega)] at hj ⊢
    obtain ⟨p, r1, r2⟩ := k84 j hj
    obtain ⟨p', z1, z2, z3, z4⟩ := cs _ p (Nat.mod_lt _ (by omega)) r1
    refine ⟨p', z1, ?_⟩
    rw [es j (by omega)]
    exact cpr z2 z3 z4 r2
  · exact wH_fr (by rw [hg 0 (by omega)]; exact Nat.le_refl _) (hg 3 (by omega)) k5.2.2.2.1 (fun k h1 h2 => hg k h2) k9
end
variable {X : PX} {h : am_h} {d o o' : Nat}
/-- the shape of a state -/
theorem shS (hC : sh_C (a_t h) (a_r h)) (ho : o = 0 ∨ o = 33) : (a_t h (1 + o) = (8, 14) ∧ a_r h (1 + o) 0 = some (2 + o) ∧ a_r h (1 + o) 1 = some (7 + o) ∧ a_r h (1 + o) 2 = some (16 + o) ∧ a_r h (1 + o) 3 = some (25 + o) ∧ a_r h (1 + o) 8 = some (26 + o) ∧ a_r h (1 + o) 12 = some (27 + o) ∧ a_r h (1 + o) 13 = some (31 + o) ∧ a_t h (26 + o) = (20, 3)) ∧ sh_told (a_t h) (a_r h) (2 + o) ∧ shL (a_t h) (a_r h) (7 + o) ∧ sh_book (a_t h) (a_r h) (16 + o) ∧ sh_agreed (a_t h) (a_r h) (27 + o) ∧ sh_answers (a_t h) (a_r h) (31 + o) := by
  unfold sh_told sh_book sh_agreed sh_answers
  rcases ho with rfl | rfl
  · refine ⟨by simp [hC.e], by simp [hC.e], shL_7 hC, by simp [hC.e], by simp [hC.e], by simp [hC.e]⟩
  · refine ⟨by simp [hC.e], by simp [hC.e], ⟨?_, ?_, ?_, ?_, ?_, fun e he => ?_, ?_, ?_, ?_, ?_⟩, by simp [hC.e], by simp [hC.e], by simp [hC.e]⟩
    all_goals first
      | (have : e = 0 ∨ e = 1 ∨ e = 2 ∨ e = 3 := by omega
         rcases this with rfl | rfl | rfl | rfl <;> simp [hC.e])
      | simp [hC.e]
end COPY5
