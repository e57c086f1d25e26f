/-! all tokens of the tape -/
section TAPE
variable {d n : Nat} {h : am_h} {Q : Option Value → am_h → Prop} {t : Nat → Nat}
/-- all tokens from i on -/
def tks (t : Nat → Nat) (n : Nat) : Nat → Nat → List (Nat × Nat × Nat)
  | 0, _ => []
  | f + 1, i => if i < n then (if dg (t i) = true then (2, (scn t n (n - i) i 0).2, i) :: tks t n f (scn t n (n - i) i 0).1 else if lt (t i) = true then (3, nwd t i (scw t n (n - i) i) 153 0 0, i) :: tks t n f (scw t n (n - i) i) else if t i = 32 ∨ t i = 10 then tks t n f (i + 1) else if (t i = 60 ∨ t i = 62) ∧ i + 1 < n ∧ t (i + 1) = 61 then (4, t i + 256, i) :: tks t n f (i + 2) else (if sgn (t i) = true then 4 else 1, t i, i) :: tks t n f (i + 1)) else []
/-- so many tokens are laid already -/
def tkH (h0 h : am_h) (T : List (Nat × Nat × Nat)) : Prop :=
  h.1 = h0.1 ∧ a_t h = a_t h0 ∧ a_r h = a_r h0 ∧ a_l h = a_l h0 ∧ a_i h 86 9 = nI T.length
  ∧ (∀ p j, p ≠ 88 → p ≠ 89 → p ≠ 90 → ¬ (p = 86 ∧ j = 9) → a_i h p j = a_i h0 p j)
  ∧ ∀ j x, T[j]? = some x → a_i h 88 j = nI x.1 ∧ a_i h 89 j = nI x.2.1 ∧ a_i h 90 j = nI x.2.2
theorem tkA_i {k : Nat} {a1 a2 a3 : Int32} {p j : Nat} : a_i (tkA h k a1 a2 a3) p j = if p = 86 ∧ j = 9 then nI (k + 1) else if p = 90 ∧ j = k then a3 else if p = 89 ∧ j = k then a2 else if p = 88 ∧ j = k then a1 else a_i h p j := rfl
theorem tkH.add {h0 : am_h} {T : List (Nat × Nat × Nat)} (K : tkH h0 h T) (x : Nat × Nat × Nat) : tkH h0 (tkA h T.length (nI x.1) (nI x.2.1) (nI x.2.2)) (T ++ [x]) := by
  obtain ⟨k1, k2, k3, k4, k5, k6, k7⟩ := K
  refine ⟨k1, k2, k3, k4, ?_, fun p j p1 p2 p3 p4 => ?_, fun j y e => ?_⟩
  · rw [tkA_i, if_pos ⟨rfl, rfl⟩, List.length_append]; rfl
  · rw [tkA_i, if_neg p4, if_neg (fun z => p3 z.1), if_neg (fun z => p2 z.1), if_neg (fun z => p1 z.1)]
    exact k6 p j p1 p2 p3 p4
  · by_cases c : j < T.length
    · rw [List.getElem?_append_left c] at e
      obtain ⟨y1, y2, y3⟩ := k7 j y e
      refine ⟨?_, ?_, ?_⟩
      · rw [tkA_i, if_neg (by omega), if_neg (by omega), if_neg (by omega), if_neg (by omega)]; exact y1
      · rw [tkA_i, if_neg (by omega), if_neg (by omega), if_neg (by omega), if_neg (by omega)]; exact y2
      · rw [tkA_i, if_neg (by omega), if_neg (by omega), if_neg (by omega), if_neg (by omega)]; exact y3
    · rw [List.getElem?_append_right (by omega)] at e
      have j0 : j = T.length := by
        have := (List.getElem?_eq_some_iff.mp e).1
        simp at this
        omega
      subst j0
      rw [Nat.sub_self] at e
      cases e
      refine ⟨?_, ?_, ?_⟩
      · rw [tkA_i, if_neg (by omega), if_neg (by omega), if_neg (by omega), if_pos ⟨rfl, rfl⟩]
      · rw [tkA_i, if_neg (by omega), if_neg (by omega), if_pos ⟨rfl, rfl⟩]
      · rw [tkA_i, if_neg (by omega), if_pos ⟨rfl, rfl⟩]
theorem tkH.tp {h0 : am_h} {T : List (Nat × Nat × Nat)} (K : tkH h0 h T) (z : tpC h0 t n) : tpC h t n := by
  obtain ⟨k1, k2, k3, k4, k5, k6, k7⟩ := K
  obtain ⟨z1, z2, z3, z4⟩ := z
  refine ⟨by rw [k2, k3]; exact z1, (k6 86 1 (by omega) (by omega) (by omega) (by omega)).trans z2, z3, fun j hj => ⟨(k6 87 j (by omega) (by omega) (by omega) (by omega)).trans (z4 j hj).1, (z4 j hj).2⟩⟩
theorem tkH.tx {h0 : am_h} {T : List (Nat × Nat × Nat)} (K : tkH h0 h T) (z : txC h0) : txC h := by
  obtain ⟨k1, k2, k3, k4, k5, k6, k7⟩ := K
  obtain ⟨⟨z1, z2, z3⟩, z4, z5, z6⟩ := z
  refine ⟨⟨by rw [k2]; exact z1, by rw [k2]; exact z2, fun j => (k6 _ j (by omega) (by omega) (by omega) (by omega)).trans (z3 j)⟩, by rw [k2]; exact z4, by rw [k2]; exact z5, fun j => (k6 _ j (by omega) (by omega) (by omega) (by omega)).trans (z6 j)⟩
end TAPE
