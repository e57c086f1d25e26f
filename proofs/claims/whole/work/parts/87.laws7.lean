/-! laws: one word, by what it is -/
section LAWS7
variable {d : Nat} {h s : am_h} {q f i to n a o : Nat} {lw : Int32} {o4 o5 o6 o7 : Option Value} {L : List Int32} {ty : Nat → List Bool}
theorem vc_step (T : shT h q) (k : pl h s L) (ht : f + i < to) (h300 : to ≤ 300) (ho : o < 18) (ha : a ≤ 9999) (hfn : f + n ≤ 300) (st : tyStep ty i o a) (w : wt L (ty i)) (l64 : ∀ i, (ty i).length ≤ 64) (cw : if o = 2 ∨ o = 3 then a ≤ n ∧ a_i h (q + 7) (f + i) = nI ((f + a) * 32 + o) else a_i h (q + 7) (f + i) = nI (a * 32 + o)) : ∃ s' o4' o5' o6' o7', (∀ Q, WP (d + 1) mX4_valueOf 36 [some (.ref 91), some (.int lw), some (.int (nI to)), some (.int (nI (f + i))), o4, o5, o6, o7] [] s Q = WP (d + 1) mX4_valueOf 36 [some (.ref 91), some (.int lw), some (.int (nI to)), some (.int (nI (f + (evS (a_i h 92) o a i L).1))), o4', o5', o6', o7'] [] s' Q) ∧ pl h s' (evS (a_i h 92) o a i L).2 := by
  have len := wt_len w
  have li := l64 i
  have l1 := l64 (i + 1)
  have : o = 0 ∨ o = 1 ∨ o = 2 ∨ o = 3 ∨ o = 4 ∨ o = 5 ∨ o = 6 ∨ o = 7 ∨ o = 8 ∨ o = 9 ∨ o = 10 ∨ o = 11 ∨ o = 12 ∨ o = 13 ∨ o = 14 ∨ o = 15 ∨ o = 16 ∨ o = 17 := by omega
  rcases this with rfl | rfl | rfl | rfl | rfl | rfl | rfl | rfl | rfl | rfl | rfl | rfl | rfl | rfl | rfl | rfl | rfl | rfl
  · obtain ⟨s1, s2⟩ := st
    rw [s2, List.length_cons] at l1
    rw [if_neg (by omega)] at cw
    exact vc_0 T k ht h300 cw s1 (by omega)
  · obtain ⟨s1, s2⟩ := st
    rw [s2, List.length_cons] at l1
    rw [if_neg (by omega)] at cw
    exact vc_1 T k ht h300 cw s1 (by omega)
  · obtain ⟨s1, s2⟩ := st
    rw [if_pos (by omega)] at cw
    exact vc_2 T k ht h300 cw.2 rfl s1 (by omega)
  · obtain ⟨s1, s2, s3⟩ := st
    rw [if_pos (by omega)] at cw
    rw [s2] at w
    cases L with
    | nil => exact w.elim
    | cons x L =>
      rw [List.length_cons] at len
      exact vc_3 (L := L) T k ht h300 cw.2 rfl s1 (by omega) (by omega)
  · obtain ⟨l, s1, s2⟩ := st
    rw [if_neg (by omega)] at cw
    rw [s1] at w
    cases L with
    | nil => exact w.elim
    | cons x L =>
      rw [List.length_cons] at len
      exact vc_4 T k ht h300 cw (by omega) (by omega)
  · obtain ⟨l, s1, s2⟩ := st
    rw [if_neg (by omega)] at cw
    rw [s1] at w
    cases L with
    | nil => exact w.elim
    | cons x L =>
      rw [List.length_cons] at len
      exact vc_5 T k ht h300 cw (by omega) (by omega)
  · obtain ⟨l, s1, s2⟩ := st
    rw [if_neg (by omega)] at cw
    rw [s1] at w
    cases L with
    | nil => exact w.elim
    | cons y L => cases L with
      | nil => exact w.2.2.elim
      | cons x L =>
        rw [List.length_cons, List.length_cons] at len
        exact vc_6 T k ht h300 cw (by omega) (by omega)
  · obtain ⟨l, s1, s2⟩ := st
    rw [if_neg (by omega)] at cw
    rw [s1] at w
    cases L with
    | nil => exact w.elim
    | cons y L => cases L with
      | nil => exact w.2.2.elim
      | cons x L =>
        rw [List.length_cons, List.length_cons] at len
        exact vc_7 T k ht h300 cw (by omega) (by omega)
  · obtain ⟨l, s1, s2⟩ := st
    rw [if_neg (by omega)] at cw
    rw [s1] at w
    cases L with
    | nil => exact w.elim
    | cons y L => cases L with
      | nil => exact w.2.2.elim
      | cons x L =>
        rw [List.length_cons, List.length_cons] at len
        exact vc_8 T k ht h300 cw (by omega) (by omega)
  · obtain ⟨l, s1, s2⟩ := st
    rw [if_neg (by omega)] at cw
    rw [s1] at w
    cases L with
    | nil => exact w.elim
    | cons y L => cases L with
      | nil => exact w.2.2.elim
      | cons x L =>
        rw [List.length_cons, List.length_cons] at len
        exact vc_9 T k ht h300 cw (by omega) (by omega)
  · obtain ⟨l, s1, s2⟩ := st
    rw [if_neg (by omega)] at cw
    rw [s1] at w
    cases L with
    | nil => exact w.elim
    | cons y L => cases L with
      | nil => exact w.2.2.elim
      | cons x L =>
        rw [List.length_cons, List.length_cons] at len
        exact vc_10 T k ht h300 cw (by omega) (by omega)
  · obtain ⟨l, s1, s2⟩ := st
    rw [if_neg (by omega)] at cw
    rw [s1] at w
    cases L with
    | nil => exact w.elim
    | cons y L => cases L with
      | nil => exact w.2.2.elim
      | cons x L =>
        rw [List.length_cons, List.length_cons] at len
        exact vc_11 T k ht h300 cw (by omega) (by omega)
  · obtain ⟨l, s1, s2⟩ := st
    rw [if_neg (by omega)] at cw
    rw [s1] at w
    cases L with
    | nil => exact w.elim
    | cons y L => cases L with
      | nil => exact w.2.2.elim
      | cons x L =>
        rw [List.length_cons, List.length_cons] at len
        exact vc_12 T k ht h300 cw (by omega) (by omega)
  · obtain ⟨l, s1, s2⟩ := st
    rw [if_neg (by omega)] at cw
    rw [s1] at w
    cases L with
    | nil => exact w.elim
    | cons y L => cases L with
      | nil => exact w.2.2.elim
      | cons x L =>
        rw [List.length_cons, List.length_cons] at len
        exact vc_13 T k ht h300 cw (by omega) (by omega)
  · obtain ⟨l, s1, s2⟩ := st
    rw [if_neg (by omega)] at cw
    rw [s1] at w
    cases L with
    | nil => exact w.elim
    | cons y L => cases L with
      | nil => exact w.2.2.elim
      | cons x L =>
        rw [List.length_cons, List.length_cons] at len
        exact vc_14 T k ht h300 cw (by omega) (by omega)
  · obtain ⟨l, s1, s2⟩ := st
    rw [if_neg (by omega)] at cw
    rw [s1] at w
    cases L with
    | nil => exact w.elim
    | cons y L => cases L with
      | nil => exact w.2.2.elim
      | cons x L =>
        rw [List.length_cons, List.length_cons] at len
        exact vc_15 T k ht h300 cw (by omega) (by omega)
  · obtain ⟨l, s1, s2⟩ := st
    rw [if_neg (by omega)] at cw
    rw [s1] at w
    cases L with
    | nil => exact w.elim
    | cons y L => cases L with
      | nil => exact w.2.2.elim
      | cons x L =>
        rw [List.length_cons, List.length_cons] at len
        exact vc_16 T k ht h300 cw (by omega) (by omega)
  · obtain ⟨l, s1, s2⟩ := st
    rw [if_neg (by omega)] at cw
    rw [s1] at w
    cases L with
    | nil => exact w.elim
    | cons y L => cases L with
      | nil => exact w.2.2.elim
      | cons x L =>
        rw [List.length_cons, List.length_cons] at len
        exact vc_17 T k ht h300 cw (by omega) (by omega)
end LAWS7
