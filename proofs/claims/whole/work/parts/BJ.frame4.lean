/-! a run in two heaps that are seen alike -/
section FRAME4
variable {N : Nat → Prop} {al : Prop} {h y h' y' f f' : am_h} {L : am_L} {S : List Value} {pc n : Nat} {M : am_m} {i : Instr}
theorem stN.tr (a : stN N al h y h' y') (b : stN N al h' y' f f') : stN N al h y f f' := by
  obtain ⟨a1, a2, a3, a4, a5, a6, a7, a8⟩ := a
  obtain ⟨b1, b2, b3, b4, b5, b6, b7, b8⟩ := b
  refine ⟨b1, b2, a3.tr b3, a4.tr b4, by omega, b6, fun e => ?_, fun q z => a8 q (b8 q z)⟩
  obtain ⟨x1, x2⟩ := a7 (by omega)
  obtain ⟨z1, z2⟩ := b7 (by omega)
  exact ⟨z1.trans x1, z2.trans x2⟩
theorem stN.pr (w : prN N al h y) (a : stN N al h y h' y') : prN N al h' y' := ⟨a.1, a.2.1, fun z => ⟨a.2.2.2.2.2.1 z, fun q c => (w.2.2.1 z).2 q (Nat.le_trans a.2.2.2.2.1 c)⟩, w.2.2.2⟩
theorem act_up {pc' : Nat} {L' : am_L} {S' : List Value} (e : act M pc L S h = some (.inl (pc', L', S', h'))) : a_n h ≤ a_n h' := by
  have w : prN (fun _ => False) True h h := ⟨fun _ _ => ⟨fun _ _ _ z => z, fun _ z => z⟩, fun _ _ => ⟨rfl, fun _ => ⟨rfl, rfl, rfl⟩⟩, fun _ => ⟨rfl, fun _ _ z => z⟩, fun _ _ z => z⟩
  have a := act_fr (M := M) (pc := pc) (L := L) (S := S) w (fun _ _ _ _ _ _ z => z) (fun _ _ _ _ z => z)
  rw [e] at a
  rcases a with ⟨z, -⟩ | ⟨y', -, -, -, st⟩
  · exact absurd trivial z
  · exact st.2.2.2.2.1
/-- the count of cells never falls -/
theorem am_up {d : Nat} {r : Option Value} (k : am_E d M pc L S h r f) : a_n h ≤ a_n f := by
  refine k (fun _ _ _ _ _ h _ f => a_n h ≤ a_n f) ?_
  intro d M pc L S h r f q
  unfold am_S at q
  split at q
  · rename_i e
    exact Nat.le_trans (act_up e) q
  · rw [q.2]; exact Nat.le_refl _
  · obtain ⟨d', r1, h1, e1, e2, e3⟩ := q
    exact Nat.le_trans e2 e3
  · exact q.elim
theorem am_fr {d : Nat} {r : Option Value} (k : am_E d M pc L S h r f) : lok N L → sok N S → ∀ y, prN N al h y → (al ∨ a_n f = a_n h) → ∃ f', am_E d M pc L S y r f' ∧ stN N al h y f f' ∧ ∀ v, r = some v → vk N v := by
  refine (k (fun d M pc L S h r f => am_E d M pc L S h r f ∧ (lok N L → sok N S → ∀ y, prN N al h y → (al ∨ a_n f = a_n h) → ∃ f', am_E d M pc L S y r f' ∧ stN N al h y f f' ∧ ∀ v, r = some v → vk N v)) ?_).2
  clear k
  intro d M pc L S h r f q
  refine ⟨am_E.mk (am_mono (fun _ _ _ _ _ _ _ _ z => z.1) _ _ _ _ _ _ _ _ q), fun hL hS y w mode => ?_⟩
  have a := act_fr (M := M) (pc := pc) w hL hS
  unfold am_S at q
  split at q
  · rename_i pc' L' S' h' e
    rw [e] at a
    have up := am_up q.1
    rcases a with ⟨na, lt⟩ | ⟨y', ey, hL', hS', st⟩
    · exfalso
      have := mode.resolve_left na
      omega
    · have le := st.2.2.2.2.1
      obtain ⟨f', e1, e2, e3⟩ := q.2 hL' hS' y' (st.pr w) (mode.elim Or.inl (fun z => Or.inr (by omega)))
      exact ⟨f', am_E.mk (by unfold am_S; rw [ey]; exact e1), st.tr e2, e3⟩
  · rename_i v e
    rw [e] at a
    obtain ⟨a1, a2⟩ := a
    obtain ⟨q1, q2⟩ := q
    subst q2
    exact ⟨y, am_E.mk (by unfold am_S; rw [a1]; exact ⟨q1, rfl⟩), stN.refl w, fun u eu => a2 u (q1 ▸ eu)⟩
  · rename_i M' as S' e
    rw [e] at a
    obtain ⟨ey, hAs, hS'⟩ := a
    obtain ⟨d', r1, h1, e1, e2, e3⟩ := q
    have up1 := am_up e2.1
    have up2 := am_up e3.1
    obtain ⟨y1, g1, g2, g3⟩ := e2.2 (lok_en hAs) sok_n y w (mode.elim Or.inl (fun z => Or.inr (by omega)))
    have sp : sok N (am_ps r1 S') := by
      unfold am_ps
      split
      · exact sok_c (g3 _ rfl) hS'
      · exact hS'
    obtain ⟨f', g4, g5, g6⟩ := e3.2 hL sp y1 (g2.pr w) (mode.elim Or.inl (fun z => Or.inr (by omega)))
    exact ⟨f', am_E.mk (by unfold am_S; rw [ey]; exact ⟨d', r1, y1, e1, g1, g4⟩), g2.tr g5, g6⟩
  · exact q.elim
/-- a call in two heaps that are seen alike -/
theorem Cal.fr {d : Nat} {as : List Value} {r : Option Value} (k : ∀ Q, Cal d M as h Q = Q r h') (hS : sok N as) (w : prN N al h y) (mode : al ∨ a_n h' = a_n h) : ∃ y', (∀ Q, Cal d M as y Q = Q r y') ∧ stN N al h y h' y' := by
  have z : Cal d M as h (fun r2 f2 => r2 = r ∧ f2 = h') := by
    rw [k]; exact ⟨rfl, rfl⟩
  obtain ⟨y', e1, e2, -⟩ := am_fr (Cal.E z) (lok_en hS) sok_n y w mode
  exact ⟨y', fun Q => Cal.of e1 Q, e2⟩
end FRAME4
