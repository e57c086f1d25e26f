/-! copies of steps -/
section COPY4
variable {X : PX} {h h' : am_h} {d o o' i p : Nat}
/-- what holds of the shape alone -/
def ShI (X : PX) (h : am_h) : Prop := sh_C (a_t h) (a_r h) ∧ sh_R (a_t h) (a_r h) ∧ shD (a_n h) (a_t h) (a_r h) ∧ rPr X (a_n h) (a_t h) (a_i h) (a_r h) ∧ rRm (a_n h) (a_z h) (a_r h)
theorem ShI_new (k : ShI X h) (ho : o = 0 ∨ o = 33) {i : Nat} (hi : i < 30) (h0 : a_r h (25 + o) i = none) (w : nwL h h' (25 + o) i) : ShI X h' := by
  obtain ⟨w1, w2, w3, w4, w5, w6⟩ := w
  obtain ⟨s1, s2, s3, s4, s5⟩ := k
  have hn := s3.1
  have ht : ∀ q, q < 177 → a_t h' q = a_t h q := fun q hq => (w6 q (by omega)).1
  have hr : ∀ q j, q < 177 → ¬ (q = 25 ∨ q = 58 ∨ (q = 0 ∧ j = 7) ∨ (q = 86 ∧ j = 4) ∨ (q = 91 ∧ j = 0)) → a_r h' q j = a_r h q j := fun q j hq c => ((w6 q (by omega)).2 j).2.2 (by omega)
  have hI : ∀ q j, q < a_n h → a_i h' q j = a_i h q j := fun q j hq => ((w6 q (by omega)).2 j).1
  have hJ : ∀ q j, q < a_n h → a_l h' q j = a_l h q j := fun q j hq => ((w6 q (by omega)).2 j).2.1
  have hR : ∀ q j, q < a_n h → ¬ (q = 25 + o ∧ j = i) → a_r h' q j = a_r h q j := fun q j hq c => ((w6 q (by omega)).2 j).2.2 c
  have hS : ∀ o' i' p', (o' = 0 ∨ o' = 33) → i' < 30 → a_r h' (25 + o') i' = some p' → (o' = o ∧ i' = i ∧ p' = a_n h) ∨ (¬ (o' = o ∧ i' = i) ∧ a_r h (25 + o') i' = some p') := by
    intro o' i' p' ho' hi' e
    by_cases c : o' = o ∧ i' = i
    · obtain ⟨rfl, rfl⟩ := c
      rw [w5] at e
      injection e with e
      exact Or.inl ⟨rfl, rfl, e.symm⟩
    · rw [hR _ _ (by omega) (by omega)] at e
      exact Or.inr ⟨c, e⟩
  have hr07 : a_r h' 0 7 = a_r h 0 7 := hR _ _ (by omega) (by omega)
  have nulE : nul (a_r h) = nul (a_r h') + 1 := by
    have : nul (a_r h') = nul (fun q j => if q = 25 + o ∧ j = i then some (a_n h) else a_r h q j) := by
      unfold nul
      congr 1
      funext i' a
      show a + (if a_r h' 25 i' = none then 1 else 0) + (if a_r h' 58 i' = none then 1 else 0) = a + (if (if 25 = 25 + o ∧ i' = i then some (a_n h) else a_r h 25 i') = none then 1 else 0) + (if (if 58 = 25 + o ∧ i' = i then some (a_n h) else a_r h 58 i') = none then 1 else 0)
      by_cases c1 : 25 = 25 + o ∧ i' = i
      · rw [if_pos c1, hR 58 i' (by omega) (by omega), if_neg (c := 58 = 25 + o ∧ i' = i) (by omega), c1.2, show a_r h' 25 i = some (a_n h) from by have := w5; rw [← c1.1] at this; exact this]
      · rw [if_neg c1, hR 25 i' (by omega) (by omega)]
        by_cases c2 : 58 = 25 + o ∧ i' = i
        · rw [if_pos c2, c2.2, show a_r h' 58 i = some (a_n h) from by have := w5; rw [← c2.1] at this; exact this]
        · rw [if_neg c2, hR 58 i' (by omega) (by omega)]
    rw [this]
    exact nul_one (o := o) ho hi h0 (if_pos ⟨rfl, rfl⟩) (fun q j c => if_neg c)
  have sL : ∀ p, 177 ≤ p → p + 9 ≤ a_n h → shL (a_t h) (a_r h) p → shL (a_t h') (a_r h') p := by
    intro p hp1 hp2 z
    have tt : ∀ k, k < 9 → a_t h' (p + k) = a_t h (p + k) := fun k hk => (w6 (p + k) (by omega)).1
    have rr : ∀ k j, k < 9 → a_r h' (p + k) j = a_r h (p + k) j := fun k j hk => hR _ _ (by omega) (by omega)
    have t0 := tt 0 (by omega)
    have r0 := fun j => rr 0 j (by omega)
    simp only [Nat.add_zero] at t0 r0
    unfold shL at z ⊢
    rw [t0, tt 1 (by omega), tt 2 (by omega), tt 3 (by omega), tt 4 (by omega), r0, r0, r0, r0]
    refine ⟨z.1, z.2.1, z.2.2.1, z.2.2.2.1, z.2.2.2.2.1, fun e he => ?_, z.2.2.2.2.2.2⟩
    have te := tt (5 + e) (by omega)
    rw [← Nat.add_assoc] at te
    rw [te, rr 4 e (by omega)]
    exact z.2.2.2.2.2.1 e he
  refine ⟨sh_C_fr ht hr s1, sh_R_fr ht hr s2, ⟨by omega, fun o' i' p' ho' hi' e => ?_, fun o1 i1 p1 o2 i2 p2 z1 z2 z3 z4 z5 z6 z7 => ?_⟩, ?_, ?_⟩
  · rcases hS o' i' p' ho' hi' e with ⟨rfl, rfl, rfl⟩ | ⟨_, z⟩
    · exact ⟨by omega, by omega, w1⟩
    · obtain ⟨y1, y2, y3⟩ := s3.2.1 o' i' p' ho' hi' z
      exact ⟨y1, by omega, sL p' y1 y2 y3⟩
  · rcases hS o1 i1 p1 z1 z3 z5 with ⟨rfl, rfl, rfl⟩ | ⟨_, y1⟩ <;> rcases hS o2 i2 p2 z2 z4 z6 with ⟨rfl, rfl, rfl⟩ | ⟨_, y2⟩
    · exact absurd ⟨rfl, rfl⟩ z7
    · have := (s3.2.1 _ _ _ z2 z4 y2).2.1
      omega
    · have := (s3.2.1 _ _ _ z1 z3 y1).2.1
      omega
    · exact s3.2.2 o1 i1 p1 o2 i2 p2 z1 z2 z3 z4 y1 y2 z7
  · unfold rPr at s4 ⊢
    rw [hr07]
    rcases s4 with z | ⟨q, q1, q2, q3, q4, q5⟩
    · exact Or.inl z
    · refine Or.inr ⟨q, q1, q2, by omega, fun o' i' p' ho' hi' e => ?_, ?_⟩
      · rcases hS o' i' p' ho' hi' e with ⟨rfl, rfl, rfl⟩ | ⟨_, z⟩
        · omega
        · exact q4 o' i' p' ho' hi' z
      · have e1 : (fun k j => if k < 16 then a_i h' (q + k) j else 0) = (fun k j => if k < 16 then a_i h (q + k) j else 0) := by
          funext k j
          by_cases hk : k < 16
          · rw [if_pos hk, if_pos hk]; exact hI _ _ (by omega)
          · rw [if_neg hk, if_neg hk]
        have e2 : (fun k => if k < 16 then a_t h' (q + k) else (0, 0)) = (fun k => if k < 16 then a_t h (q + k) else (0, 0)) := by
          funext k
          by_cases hk : k < 16
          · rw [if_pos hk, if_pos hk]; exact (w6 _ (by omega)).1
          · rw [if_neg hk, if_neg hk]
        have e3 : (fun k j => if k < 16 then a_r h' (q + k) j else none) = (fun k j => if k < 16 then a_r h (q + k) j else none) := by
          funext k j
          by_cases hk : k < 16
          · rw [if_pos hk, if_pos hk]; exact hR _ _ (by omega) (by omega)
          · rw [if_neg hk, if_neg hk]
        rw [e1, e2, e3]
        exact q5
  · unfold rRm at s5 ⊢
    rw [hr07, w2, w3]
    have := nulE
    omega
theorem ShI_sm (k : ShI X h) (s : sm h h') (hI : ∀ q0, a_r h 0 7 = some q0 → ∀ k j, k < 16 → a_i h' (q0 + k) j = a_i h (q0 + k) j) : ShI X h' := by
  obtain ⟨s1, s2, s3, s4, s5⟩ := k
  have en := s.n
  unfold ShI
  rw [s.1, s.2.1, en.1, en.2]
  refine ⟨s1, s2, s3, ?_, s5⟩
  unfold rPr at s4 ⊢
  rcases s4 with z | ⟨q, q1, q2, q3, q4, q5⟩
  · exact Or.inl z
  · refine Or.inr ⟨q, q1, q2, q3, q4, ?_⟩
    have e1 : (fun k j => if k < 16 then a_i h' (q + k) j else 0) = (fun k j => if k < 16 then a_i h (q + k) j else 0) := by
      funext k j
      by_cases hk : k < 16
      · rw [if_pos hk, if_pos hk]; exact hI q q1 k j hk
      · rw [if_neg hk, if_neg hk]
    rw [e1]
    exact q5
theorem shS3 (hC : sh_C (a_t h) (a_r h)) (ho : o = 0 ∨ o = 33) : a_t h (1 + o) = (8, 14) ∧ a_r h (1 + o) 3 = some (25 + o) ∧ a_t h (25 + o) = (24, 30) := by
  rcases ho with rfl | rfl <;> simp [hC.e]
/-- a line's cells are another's -/
def lnC (h : am_h) (p : Nat) (s : am_h) (p' : Nat) : Prop := (∀ j, j < 5 → a_i s p' j = a_i h p j) ∧ (∀ k j, 1 ≤ k → k < 4 → j < 16 → a_i s (p' + k) j = a_i h (p + k) j) ∧ ∀ e, e < 4 → (∀ j, j < 13 → a_i s (p' + 5 + e) j = a_i h (p + 5 + e) j) ∧ a_l s (p' + 5 + e) 13 = a_l h (p + 5 + e) 13
/-- the first i steps are copied -/
def stP (X : PX) (o o' : Nat) (h : am_h) (i : Nat) (s : am_h) : Prop :=
  ShI X s
  ∧ (∀ q, q < 177 → a_t s q = a_t h q ∧ ∀ j, a_i s q j = a_i h q j ∧ a_l s q j = a_l h q j ∧ (¬ q = 25 + o → a_r s q j = a_r h q j))
  ∧ (∀ i' p, i' < 30 → a_r h (25 + o') i' = some p → (∀ k j, k < 9 → a_i s (p + k) j = a_i h (p + k) j) ∧ ∀ k, k < 9 → a_l s (p + k) 13 = a_l h (p + k) 13)
  ∧ (∀ i' p, i' < i → a_r h (25 + o') i' = some p → ∃ p', a_r s (25 + o) i' = some p' ∧ lnC h p s p')
  ∧ ∀ i' p', i' < 30 → a_r s (25 + o) i' = some p' → ∀ e, e < 4 → a_i s (p' + 5 + e) 0 = 0 ∨ a_i s (p' + 5 + e) 0 = 1
/-- a copy into a step's line -/
theorem stP_c {s s' : am_h} {p' : Nat} (k : stP X o o' h i s) (ho : (o = 0 ∧ o' = 33) ∨ (o = 33 ∧ o' = 0)) (hi : i < 30) (hp : a_r h (25 + o') i = some p) (hp' : a_r s (25 + o) i = some p') (w : cpL s s' p' p) (hz : ∀ e, e < 4 → a_i h (p + 5 + e) 0 = 0 ∨ a_i h (p + 5 + e) 0 = 1) : stP X o o' h (i + 1) s' := by
  obtain ⟨k1, k2, k3, k4, k5⟩ := k
  obtain ⟨w1, w2, w3, w4, w5, w6⟩ := w
  have oo : (o = 0 ∨ o = 33) ∧ (o' = 0 ∨ o' = 33) ∧ ¬ o = o' := by omega
  have sD := k1.2.2.1
  obtain ⟨y1, y2, y3⟩ := sD.2.1 o i p' oo.1 hi hp'
  have src : ∀ i' p, i' < 30 → a_r h (25 + o') i' = some p → a_r s (25 + o') i' = some p := fun i' p hi' e => by
    rw [((k2 (25 + o') (by omega)).2 i').2.2 (by omega)]; exact e
  have hsrc : ∀ i' q, i' < 30 → a_r h (25 + o') i' = some q → p' + 9 ≤ q ∨ q + 9 ≤ p' := fun i' q hi' e => sD.2.2 o i p' o' i' q oo.1 oo.2.1 hi hi' hp' (src i' q hi' e) (by omega)
  have lc : lnC h p s' p' := by
    have z := k3 i p hi hp
    refine ⟨fun j hj => ?_, fun k j h1 h2 h3 => ?_, fun e he => ⟨fun j hj => ?_, ?_⟩⟩
    · rw [w2 j hj]; exact z.1 0 j (by omega)
    · rw [w3 k j h1 h2 h3]; exact z.1 k j (by omega)
    · rw [(w4 e he).1 j hj, show p + 5 + e = p + (5 + e) by omega]; exact z.1 (5 + e) j (by omega)
    · rw [(w4 e he).2, show p + 5 + e = p + (5 + e) by omega]; exact z.2 (5 + e) (by omega)
  refine ⟨ShI_sm k1 w1 (fun q0 e k j hk => ?_), fun q hq => ?_, fun i' q hi' e => ?_, fun i' q hi' e => ?_, fun i' q hi' e e' he' => ?_⟩
  · have s4 := k1.2.2.2.1
    unfold rPr at s4
    rcases s4 with z | ⟨q, q1, q2, q3, q4, q5⟩
    · rw [z] at e; exact absurd e (by simp)
    · rw [q1] at e
      injection e with e
      subst e
      have := q4 o i p' oo.1 hi hp'
      exact w5 _ _ (by omega)
  · have z := k2 q hq
    rw [w1.1]
    refine ⟨z.1, fun j => ?_⟩
    rw [w5 q j (by omega), w6 q j (by omega), w1.2.1]
    exact z.2 j
  · have z := k3 i' q hi' e
    have y := hsrc i' q hi' e
    refine ⟨fun k j hk => ?_, fun k hk => ?_⟩
    · rw [w5 _ _ (by omega)]; exact z.1 k j hk
    · rw [w6 _ _ (by omega)]; exact z.2 k hk
  · by_cases c : i' = i
    · subst c
      rw [hp] at e
      injection e with e
      subst e
      exact ⟨p', by rw [w1.2.1]; exact hp', lc⟩
    · obtain ⟨q', z1, z2, z3, z4⟩ := k4 i' q (by omega) e
      have y := sD.2.2 o i' q' o i p' oo.1 oo.1 (by omega) hi z1 hp' (by omega)
      refine ⟨q', by rw [w1.2.1]; exact z1, fun j hj => ?_, fun k j h1 h2 h3 => ?_, fun e he => ⟨fun j hj => ?_, ?_⟩⟩
      · rw [w5 _ _ (by omega)]; exact z2 j hj
      · rw [w5 _ _ (by omega)]; exact z3 k j h1 h2 h3
      · rw [w5 _ _ (by omega)]; exact (z4 e he).1 j hj
      · rw [w6 _ _ (by omega)]; exact (z4 e he).2
  · rw [w1.2.1] at e
    by_cases c : i' = i
    · subst c
      rw [hp'] at e
      injection e with e
      subst e
      rw [(lc.2.2 e' he').1 0 (by omega)]
      exact hz e' he'
    · have y := sD.2.2 o i' q o i p' oo.1 oo.1 (by omega) hi e hp' (by omega)
      rw [w5 _ _ (by omega)]
      exact k5 i' q hi' e e' he'
/-- a new line for a step -/
theorem stP_n {s s' : am_h} (k : stP X o o' h i s) (ho : (o = 0 ∧ o' = 33) ∨ (o = 33 ∧ o' = 0)) (hi : i < 30) (hp' : a_r s (25 + o) i = none) (w : nwL s s' (25 + o) i) : stP X o o' h i s' := by
  obtain ⟨k1, k2, k3, k4, k5⟩ := k
  have oo : (o = 0 ∨ o = 33) ∧ (o' = 0 ∨ o' = 33) ∧ ¬ o = o' := by omega
  have k1' := ShI_new k1 oo.1 hi hp' w
  obtain ⟨w1, w2, w3, w4, w5, w6⟩ := w
  have sD := k1.2.2.1
  have hN := sD.1
  have src : ∀ i' p, i' < 30 → a_r h (25 + o') i' = some p → p + 9 ≤ a_n s := fun i' p hi' e => by
    refine (sD.2.1 o' i' p oo.2.1 hi' ?_).2.1
    rw [((k2 (25 + o') (by omega)).2 i').2.2 (by omega)]; exact e
  refine ⟨k1', fun q hq => ?_, fun i' q hi' e => ?_, fun i' q hi' e => ?_, fun i' q hi' e e' he' => ?_⟩
  · have z := w6 q (by omega)
    have y := k2 q hq
    refine ⟨z.1.trans y.1, fun j => ⟨(z.2 j).1.trans (y.2 j).1, (z.2 j).2.1.trans (y.2 j).2.1, fun c => ?_⟩⟩
    rw [(z.2 j).2.2 (by omega)]
    exact (y.2 j).2.2 c
  · have z := src i' q hi' e
    have y := k3 i' q hi' e
    refine ⟨fun k j hk => ?_, fun k hk => ?_⟩
    · rw [((w6 (q + k) (by omega)).2 j).1]; exact y.1 k j hk
    · rw [((w6 (q + k) (by omega)).2 13).2.1]; exact y.2 k hk
  · obtain ⟨q', z1, z2, z3, z4⟩ := k4 i' q hi' e
    have y := (sD.2.1 o i' q' oo.1 (by omega) z1).2.1
    have ne : ¬ i' = i := by omega
    refine ⟨q', by rw [((w6 (25 + o) (by omega)).2 i').2.2 (by omega)]; exact z1, fun j hj => ?_, fun k j h1 h2 h3 => ?_, fun e he => ⟨fun j hj => ?_, ?_⟩⟩
    · rw [((w6 q' (by omega)).2 j).1]; exact z2 j hj
    · rw [((w6 (q' + k) (by omega)).2 j).1]; exact z3 k j h1 h2 h3
    · rw [((w6 (q' + 5 + e) (by omega)).2 j).1]; exact (z4 e he).1 j hj
    · rw [((w6 (q' + 5 + e) (by omega)).2 13).2.1]; exact (z4 e he).2
  · by_cases c : i' = i
    · subst c
      rw [w5] at e
      injection e with e
      subst e
      exact Or.inl (w4 e' he')
    · have e2 : a_r s (25 + o) i' = some q := by rw [← ((w6 (25 + o) (by omega)).2 i').2.2 (by omega)]; exact e
      have y := (sD.2.1 o i' q oo.1 hi' e2).2.1
      rw [((w6 (q + 5 + e') (by omega)).2 0).1]
      exact k5 i' q hi' e2 e' he'
set_option maxRecDepth 20000 in
set_option maxHeartbeats 1000000 in
theorem st_loop (k : stP X o o' h 0 h) (ho : (o = 0 ∧ o' = 33) ∨ (o = 33 ∧ o' = 0)) (hz : ∀ i p, i < 30 → a_r h (25 + o') i = some p → ∀ e, e < 4 → a_i h (p + 5 + e) 0 = 0 ∨ a_i h (p + 5 + e) 0 = 1) : ∃ h', (∀ Q, WP (d + 3) mX8_copyFrom 39 [some (.ref (1 + o)), some (.ref (1 + o')), some (.int (nI 0))] [] h Q = WP (d + 3) mX8_copyFrom 74 [some (.ref (1 + o)), some (.ref (1 + o')), some (.int (nI 30))] [] h' Q) ∧ stP X o o' h 30 h' := by
  have oo : (o = 0 ∨ o = 33) ∧ (o' = 0 ∨ o' = 33) ∧ ¬ o = o' := by omega
  have key := lp (n := 30) (W := fun i (s : am_h) Q => WP (d + 3) mX8_copyFrom 39 [some (.ref (1 + o)), some (.ref (1 + o')), some (.int (nI i))] [] s Q) (P := fun i (s : am_h) => stP X o o' h i s) (fun i s hi hs => ?_) 30 0 h (by omega) k
  · obtain ⟨h', a, b⟩ := key
    refine ⟨h', fun Q => (a Q).trans ?_, b⟩
    rw [w_iload_n2 (M := mX8_copyFrom) dX8_copyFrom_39]
    simp [w_bipush (M := mX8_copyFrom) (v := 30) dX8_copyFrom_40 rfl, w_ic_ge (M := mX8_copyFrom) (tgt := 74) dX8_copyFrom_42 (by decide), w_aload_n1 (M := mX8_copyFrom) dX8_copyFrom_45, w_getA (M := mX8_copyFrom) dX8_copyFrom_46 f_8_34 rfl (by decide) (by decide), w_iload_n2 (M := mX8_copyFrom) dX8_copyFrom_49, w_aaload (M := mX8_copyFrom) dX8_copyFrom_50, w_ifnull_n (M := mX8_copyFrom) (tgt := 68) dX8_copyFrom_51 (by decide), w_ifnull_r (M := mX8_copyFrom) (tgt := 68) dX8_copyFrom_51 (by decide), w_aload_n0 (M := mX8_copyFrom) dX8_copyFrom_54, w_iload_n2 (M := mX8_copyFrom) dX8_copyFrom_55, c_8_70 (M := mX8_copyFrom) dX8_copyFrom_56 rfl, w_aload_n1 (M := mX8_copyFrom) dX8_copyFrom_59, w_getA (M := mX8_copyFrom) dX8_copyFrom_60 f_8_34 rfl (by decide) (by decide), w_iload_n2 (M := mX8_copyFrom) dX8_copyFrom_63, w_aaload (M := mX8_copyFrom) dX8_copyFrom_64, c_8_64 (M := mX8_copyFrom) dX8_copyFrom_65 rfl, w_iinc2 (M := mX8_copyFrom) (v := 1) dX8_copyFrom_68 rfl (by decide), w_goto (M := mX8_copyFrom) (tgt := 39) dX8_copyFrom_71 (by decide), Kn_v_, Kn_n_, kl_i_, kl_a_, kl_l_, kl_n_, s1_0_, s2_0_, s1_1, s1_2, s1_3, s1_4, s1_5, s1_6, s1_7, s1_8, s1_9, s1_10, s1_11, s1_12, s1_13, s1_14, s2_1, s2_2, s2_3, s2_4, s2_5, s2_6, s2_7, s2_8, s2_9, s2_10, s2_11, s2_12, s2_13, s2_14, List.map_nil, List.map_cons, List.sum_nil, List.sum_cons, ct_i_, ct_r_, ct_l_, t_si_, t_sl_, t_sr_, n_si_, n_sl_, n_sr_, i_si_, i_sl_, i_sr_, l_si_, l_sl_, l_sr_, r_si_, r_sl_, r_sr_, vr_s_, vr_n_, nz_0_, nz_1_, show (nI 30 < 30) = False from nI_ltF (b := 30) (Nat.le_refl 30) (by omega)]
  · have hC := hs.1.1
    have f1 := shS3 hC oo.1
    have f2 := shS3 hC oo.2.1
    have es : a_r s (25 + o') i = a_r h (25 + o') i := ((hs.2.1 (25 + o') (by omega)).2 i).2.2 (by omega)
    have sD := hs.1.2.2.1
    cases hp : a_r h (25 + o') i with
    | none =>
      refine ⟨s, fun Q => ?_, hs.1, hs.2.1, hs.2.2.1, fun i' p hi' e => ?_, hs.2.2.2.2⟩
      · rw [w_iload_n2 (M := mX8_copyFrom) dX8_copyFrom_39]
        simp [w_bipush (M := mX8_copyFrom) (v := 30) dX8_copyFrom_40 rfl, w_ic_ge (M := mX8_copyFrom) (tgt := 74) dX8_copyFrom_42 (by decide), w_aload_n1 (M := mX8_copyFrom) dX8_copyFrom_45, w_getA (M := mX8_copyFrom) dX8_copyFrom_46 f_8_34 rfl (by decide) (by decide), w_iload_n2 (M := mX8_copyFrom) dX8_copyFrom_49, w_aaload (M := mX8_copyFrom) dX8_copyFrom_50, w_ifnull_n (M := mX8_copyFrom) (tgt := 68) dX8_copyFrom_51 (by decide), w_ifnull_r (M := mX8_copyFrom) (tgt := 68) dX8_copyFrom_51 (by decide), w_aload_n0 (M := mX8_copyFrom) dX8_copyFrom_54, w_iload_n2 (M := mX8_copyFrom) dX8_copyFrom_55, c_8_70 (M := mX8_copyFrom) dX8_copyFrom_56 rfl, w_aload_n1 (M := mX8_copyFrom) dX8_copyFrom_59, w_getA (M := mX8_copyFrom) dX8_copyFrom_60 f_8_34 rfl (by decide) (by decide), w_iload_n2 (M := mX8_copyFrom) dX8_copyFrom_63, w_aaload (M := mX8_copyFrom) dX8_copyFrom_64, c_8_64 (M := mX8_copyFrom) dX8_copyFrom_65 rfl, w_iinc2 (M := mX8_copyFrom) (v := 1) dX8_copyFrom_68 rfl (by decide), w_goto (M := mX8_copyFrom) (tgt := 39) dX8_copyFrom_71 (by decide), Kn_v_, Kn_n_, kl_i_, kl_a_, kl_l_, kl_n_, s1_0_, s2_0_, s1_1, s1_2, s1_3, s1_4, s1_5, s1_6, s1_7, s1_8, s1_9, s1_10, s1_11, s1_12, s1_13, s1_14, s2_1, s2_2, s2_3, s2_4, s2_5, s2_6, s2_7, s2_8, s2_9, s2_10, s2_11, s2_12, s2_13, s2_14, List.map_nil, List.map_cons, List.sum_nil, List.sum_cons, ct_i_, ct_r_, ct_l_, t_si_, t_sl_, t_sr_, n_si_, n_sl_, n_sr_, i_si_, i_sl_, i_sr_, l_si_, l_sl_, l_sr_, r_si_, r_sl_, r_sr_, vr_s_, vr_n_, nz_0_, nz_1_, f1, f2, es, hp, show (nI i < 30) = True from nI_ltT (b := 30) hi (by omega), in1_n (k := i) (n := 30) (by omega), hi, nI_c (a := i) (by omega), nI_s]
      · by_cases c : i' = i
        · subst c; rw [hp] at e; exact absurd e (by simp)
        · exact hs.2.2.2.1 i' p (by omega) e
    | some p =>
      obtain ⟨p', s0, c0, hs0, hp'⟩ : ∃ p' s0, (∀ Q, Cal (d + 2) mX8_stepRow [.ref (1 + o), .int (nI i)] s Q = Q (some (.ref p')) s0) ∧ stP X o o' h i s0 ∧ a_r s0 (25 + o) i = some p' := by
        cases hq : a_r s (25 + o) i with
        | some p' => exact ⟨p', s, fun Q => q_X8_stepRow_has f1.1 f1.2.1 f1.2.2 hi hq, hs, hq⟩
        | none =>
          have hN : a_n s < 800000 := by have := hs.1.2.2.2.2; unfold rRm at this; omega
          obtain ⟨s0, c0, w⟩ := q_X8_stepRow_new (d := d) (h := s) (S := 1 + o) (T := 25 + o) (i := i) f1.1 f1.2.1 f1.2.2 hi hq (by have := sD.1; omega) (by have := sD.1; omega) hN
          exact ⟨a_n s, s0, c0, stP_n hs ho hi hq w, w.2.2.2.2.1⟩
      have hC0 := hs0.1.1
      have g1 := shS3 hC0 oo.1
      have g2 := shS3 hC0 oo.2.1
      have es0 : a_r s0 (25 + o') i = some p := by rw [((hs0.2.1 (25 + o') (by omega)).2 i).2.2 (by omega)]; exact hp
      have sD0 := hs0.1.2.2.1
      have y1 := sD0.2.1 o i p' oo.1 hi hp'
      have y2 := sD0.2.1 o' i p oo.2.1 hi es0
      have y3 := sD0.2.2 o i p' o' i p oo.1 oo.2.1 hi hi hp' es0 (by omega)
      obtain ⟨s', c1, w⟩ := q_X5_copyFrom (d := d + 1) (h := s0) (p := p') (q := p) y1.2.2 y2.2.2 y3 (fun e he => by
        have z := (hs0.2.2.1 i p hi hp).1 (5 + e) 0 (by omega)
        rw [← Nat.add_assoc] at z
        rw [z]
        exact hz i p hi hp e he)
      refine ⟨s', fun Q => ?_, stP_c hs0 ho hi hp hp' w (hz i p hi hp)⟩
      have tp := y1.2.2.1
      rw [w_iload_n2 (M := mX8_copyFrom) dX8_copyFrom_39]
      simp [w_bipush (M := mX8_copyFrom) (v := 30) dX8_copyFrom_40 rfl, w_ic_ge (M := mX8_copyFrom) (tgt := 74) dX8_copyFrom_42 (by decide), w_aload_n1 (M := mX8_copyFrom) dX8_copyFrom_45, w_getA (M := mX8_copyFrom) dX8_copyFrom_46 f_8_34 rfl (by decide) (by decide), w_iload_n2 (M := mX8_copyFrom) dX8_copyFrom_49, w_aaload (M := mX8_copyFrom) dX8_copyFrom_50, w_ifnull_n (M := mX8_copyFrom) (tgt := 68) dX8_copyFrom_51 (by decide), w_ifnull_r (M := mX8_copyFrom) (tgt := 68) dX8_copyFrom_51 (by decide), w_aload_n0 (M := mX8_copyFrom) dX8_copyFrom_54, w_iload_n2 (M := mX8_copyFrom) dX8_copyFrom_55, c_8_70 (M := mX8_copyFrom) dX8_copyFrom_56 rfl, w_aload_n1 (M := mX8_copyFrom) dX8_copyFrom_59, w_getA (M := mX8_copyFrom) dX8_copyFrom_60 f_8_34 rfl (by decide) (by decide), w_iload_n2 (M := mX8_copyFrom) dX8_copyFrom_63, w_aaload (M := mX8_copyFrom) dX8_copyFrom_64, c_8_64 (M := mX8_copyFrom) dX8_copyFrom_65 rfl, w_iinc2 (M := mX8_copyFrom) (v := 1) dX8_copyFrom_68 rfl (by decide), w_goto (M := mX8_copyFrom) (tgt := 39) dX8_copyFrom_71 (by decide), Kn_v_, Kn_n_, kl_i_, kl_a_, kl_l_, kl_n_, s1_0_, s2_0_, s1_1, s1_2, s1_3, s1_4, s1_5, s1_6, s1_7, s1_8, s1_9, s1_10, s1_11, s1_12, s1_13, s1_14, s2_1, s2_2, s2_3, s2_4, s2_5, s2_6, s2_7, s2_8, s2_9, s2_10, s2_11, s2_12, s2_13, s2_14, List.map_nil, List.map_cons, List.sum_nil, List.sum_cons, ct_i_, ct_r_, ct_l_, t_si_, t_sl_, t_sr_, n_si_, n_sl_, n_sr_, i_si_, i_sl_, i_sr_, l_si_, l_sl_, l_sr_, r_si_, r_sl_, r_sr_, vr_s_, vr_n_, nz_0_, nz_1_, f1, f2, es, hp, show (nI i < 30) = True from nI_ltT (b := 30) hi (by omega), in1_n (k := i) (n := 30) (by omega), hi, nI_c (a := i) (by omega), nI_s, c0, g1, g2, es0, c1, tp]
end COPY4
