/-! what holds when both sides were just made -/
section FIRST
def tabC : List CLs := tMain 0 ++ tRef 126
def iv (p j : Nat) : Int32 := ((cg tabC p).2.2.lookup j).getD 0
def g0 (j : Nat) : Int32 := iv 127 j
variable {I : Nat → Nat → Int32} {J : Nat → Nat → Int64} {R : Nat → Nat → Option Nat} {o : Nat}
theorem tabC_l : tabC.length = 177 := by decide +kernel
theorem nn0 {v : Int32} (e : v = 0) {i : Nat} : ¬ i < Nn v := by
  rw [e]
  exact Nat.not_lt_zero _
theorem bt_d {lo hi : Int} {v w : Int32} (e : v = w) (d1 : lo ≤ w.toInt) (d2 : w.toInt ≤ hi) : bt lo v hi := by
  subst e; exact ⟨d1, d2⟩
theorem g0_wS : wS 0 (dec g0 90) := by
  have n3 : dec g0 90 0 3 = 0 := by decide +kernel
  have n4 : dec g0 90 0 4 = 0 := by decide +kernel
  have e1 : ∀ e, e < 4 → dec g0 90 1 e = 0 ∧ dec g0 90 5 e = -1 ∧ dec g0 90 6 e = -1 := by decide +kernel
  have e7 : ∀ k, k < 16 → dec g0 90 7 k = 0 := by decide +kernel
  have a0 : dec g0 90 0 0 = 0 := by decide +kernel
  have a1 : dec g0 90 0 1 = 0 := by decide +kernel
  refine ⟨bt_d a0 (by decide) (by decide), bt_d a1 (by decide) (by decide), bt_d n3 (by decide) (by decide), bt_d n4 (by decide) (by decide), fun e he => ?_, fun k hk => bt_d (e7 k hk) (by decide) (by decide), fun i hi => (nn0 n3 hi).elim, fun e he z => ?_, fun i j hi hj => (nn0 n3 hj).elim, fun i hi => (nn0 n4 hi).elim⟩
  · obtain ⟨x1, x2, x3⟩ := e1 e he
    exact ⟨Or.inl x1, bt_d x2 (by decide) (by decide), bt_d x3 (by decide) (by rw [a1]; decide)⟩
  · rw [(e1 e he).1] at z
    exact absurd z (by decide)
theorem g0_wG : wG g0 := by
  have n0 : g0 0 = 0 := by decide +kernel
  have n4 : g0 4 = 0 := by decide +kernel
  have n5 : g0 5 = 0 := by decide +kernel
  refine ⟨by unfold bt; decide +kernel, by unfold bt; decide +kernel, by unfold bt; decide +kernel, by unfold bt; decide +kernel, by unfold bt; decide +kernel, by unfold bt; decide +kernel, by unfold bt; decide +kernel, by unfold bt; decide +kernel, by unfold bt; decide +kernel, fun e he => (nn0 n0 he).elim, fun k hk => (nn0 n4 hk).elim, fun k hk => (nn0 n5 hk).elim⟩
theorem g0_rC (hI : ∀ p j, p < 126 → I p j = iv p j) (hJ : ∀ p j, p < 126 → J p j = 0) (hR : ∀ i, i < 30 → R (25 + o) i = none) (ho : o = 0 ∨ o = 33) : rC I J R o g0 := by
  have n0 : g0 0 = 0 := by decide +kernel
  have n3 : g0 3 = 0 := by decide +kernel
  have n4 : g0 4 = 0 := by decide +kernel
  have n5 : g0 5 = 0 := by decide +kernel
  have iz : ∀ p j v, p < 126 → iv p j = v → I p j = v := fun p j v l e => (hI p j l).trans e
  have s3 : dec g0 90 0 3 = 0 := by decide +kernel
  have s4 : dec g0 90 0 4 = 0 := by decide +kernel
  have s1 : dec g0 90 0 1 = 0 := by decide +kernel
  have ec : ∀ e k, cn (dec g0 90) e k = 0 := fun e k => by unfold cn; rw [s3]; rfl
  have el : ∀ e, lend (dec g0 90) e = -1 := fun e => by unfold lend; rw [s3]; rfl
  have e1 : ∀ e, e < 4 → dec g0 90 1 e = 0 := by decide +kernel
  have ens : rLn I J (7 + o) (dec g0 90) := by
    rcases ho with rfl | rfl
    · refine ⟨iz _ _ _ (by omega) (by decide +kernel), iz _ _ _ (by omega) (by decide +kernel), iz _ _ _ (by omega) (by decide +kernel), iz _ _ _ (by omega) (by decide +kernel), iz _ _ _ (by omega) (by decide +kernel), ?_, fun e he => ?_⟩
      · have k1 : ∀ k, k < 16 → iv (7 + 0 + 1) k = dec g0 90 7 k ∧ iv (7 + 0 + 2) k = dec g0 90 8 k ∧ iv (7 + 0 + 3) k = dec g0 90 9 k := by decide +kernel
        intro k hk
        exact ⟨iz _ _ _ (by omega) (k1 k hk).1, iz _ _ _ (by omega) (k1 k hk).2.1, iz _ _ _ (by omega) (k1 k hk).2.2⟩
      · have k1 : ∀ e, e < 4 → iv (7 + 0 + 5 + e) 0 = dec g0 90 1 e ∧ iv (7 + 0 + 5 + e) 1 = dec g0 90 2 e ∧ iv (7 + 0 + 5 + e) 2 = dec g0 90 3 e ∧ iv (7 + 0 + 5 + e) 3 = dec g0 90 4 e ∧ iv (7 + 0 + 5 + e) 5 = dec g0 90 5 e ∧ iv (7 + 0 + 5 + e) 6 = dec g0 90 6 e ∧ iv (7 + 0 + 5 + e) 10 = 0 ∧ iv (7 + 0 + 5 + e) 11 = 0 ∧ iv (7 + 0 + 5 + e) 12 = -1 := by decide +kernel
        obtain ⟨x0, x1, x2, x3, x4, x5, x6, x7, x8⟩ := k1 e he
        refine ⟨iz _ _ _ (by omega) x0, iz _ _ _ (by omega) x1, iz _ _ _ (by omega) x2, iz _ _ _ (by omega) x3, iz _ _ _ (by omega) x4, iz _ _ _ (by omega) x5, (iz _ _ _ (by omega) x6).trans (ec _ _).symm, (iz _ _ _ (by omega) x7).trans (ec _ _).symm, (iz _ _ _ (by omega) x8).trans (el _).symm, fun z => ?_, fun k hk => ?_⟩
        · rw [e1 e he] at z; exact absurd z (by decide)
        · rw [hJ _ _ (by omega)]
          refine ⟨fun z => absurd z (by simp), fun z => ?_⟩
          obtain ⟨i, hi, _⟩ := z.2
          exact (nn0 s3 hi).elim
    · refine ⟨iz _ _ _ (by omega) (by decide +kernel), iz _ _ _ (by omega) (by decide +kernel), iz _ _ _ (by omega) (by decide +kernel), iz _ _ _ (by omega) (by decide +kernel), iz _ _ _ (by omega) (by decide +kernel), ?_, fun e he => ?_⟩
      · have k1 : ∀ k, k < 16 → iv (7 + 33 + 1) k = dec g0 90 7 k ∧ iv (7 + 33 + 2) k = dec g0 90 8 k ∧ iv (7 + 33 + 3) k = dec g0 90 9 k := by decide +kernel
        intro k hk
        exact ⟨iz _ _ _ (by omega) (k1 k hk).1, iz _ _ _ (by omega) (k1 k hk).2.1, iz _ _ _ (by omega) (k1 k hk).2.2⟩
      · have k1 : ∀ e, e < 4 → iv (7 + 33 + 5 + e) 0 = dec g0 90 1 e ∧ iv (7 + 33 + 5 + e) 1 = dec g0 90 2 e ∧ iv (7 + 33 + 5 + e) 2 = dec g0 90 3 e ∧ iv (7 + 33 + 5 + e) 3 = dec g0 90 4 e ∧ iv (7 + 33 + 5 + e) 5 = dec g0 90 5 e ∧ iv (7 + 33 + 5 + e) 6 = dec g0 90 6 e ∧ iv (7 + 33 + 5 + e) 10 = 0 ∧ iv (7 + 33 + 5 + e) 11 = 0 ∧ iv (7 + 33 + 5 + e) 12 = -1 := by decide +kernel
        obtain ⟨x0, x1, x2, x3, x4, x5, x6, x7, x8⟩ := k1 e he
        refine ⟨iz _ _ _ (by omega) x0, iz _ _ _ (by omega) x1, iz _ _ _ (by omega) x2, iz _ _ _ (by omega) x3, iz _ _ _ (by omega) x4, iz _ _ _ (by omega) x5, (iz _ _ _ (by omega) x6).trans (ec _ _).symm, (iz _ _ _ (by omega) x7).trans (ec _ _).symm, (iz _ _ _ (by omega) x8).trans (el _).symm, fun z => ?_, fun k hk => ?_⟩
        · rw [e1 e he] at z; exact absurd z (by decide)
        · rw [hJ _ _ (by omega)]
          refine ⟨fun z => absurd z (by simp), fun z => ?_⟩
          obtain ⟨i, hi, _⟩ := z.2
          exact (nn0 s3 hi).elim
  have st : rSt I J R o g0 := by
    refine ⟨?_, ⟨0, by omega, ?_, fun j hj => (nn0 n3 hj).elim⟩, fun i p hi e => ?_⟩
    · rcases ho with rfl | rfl <;> exact iz _ _ _ (by omega) (by decide +kernel)
    · rcases ho with rfl | rfl <;> exact iz _ _ _ (by omega) (by decide +kernel)
    · rw [hR i hi] at e; exact absurd e (by simp)
  refine ⟨⟨⟨?_, fun e he => (nn0 n0 he).elim⟩, ?_, ⟨?_, fun k hk => (nn0 n4 hk).elim⟩, ⟨?_, fun k hk => (nn0 n5 hk).elim⟩, g0_wG⟩, ens, ⟨fun i hi => (nn0 s3 hi).elim, fun i hi => (nn0 s4 hi).elim⟩, st, ?_, fun j hj => (nn0 n3 hj).elim⟩
  · rcases ho with rfl | rfl <;> exact iz _ _ _ (by omega) (by decide +kernel)
  · rcases ho with rfl | rfl <;> exact ⟨iz _ _ _ (by omega) (by decide +kernel), iz _ _ _ (by omega) (by decide +kernel), iz _ _ _ (by omega) (by decide +kernel), iz _ _ _ (by omega) (by decide +kernel), iz _ _ _ (by omega) (by decide +kernel), iz _ _ _ (by omega) (by decide +kernel), iz _ _ _ (by omega) (by decide +kernel), iz _ _ _ (by omega) (by decide +kernel)⟩
  · rcases ho with rfl | rfl <;> exact iz _ _ _ (by omega) (by decide +kernel)
  · rcases ho with rfl | rfl <;> exact iz _ _ _ (by omega) (by decide +kernel)
  · rw [n0]; exact g0_wS
end FIRST
