/-! the other side: at a token, what stands begun -/
section RPOS
variable {d n g j φ ω o w y : Nat} {h h' h'' : am_h} {Q : Option Value → am_h → Prop} {f s a b : Int32} {T : List (Nat × Nat × Nat)} {x : Nat × Nat × Nat} {t : Nat → Nat}
/-- it is at the j-th token -/
def okP (t : Nat → Nat) (n : Nat) (T : List (Nat × Nat × Nat)) (w j : Nat) (h : am_h) : Prop := tpR h t n ∧ a_i h 126 19 = 0 ∧ a_i h 126 31 = nI w ∧ ∃ x i, T[j]? = some x ∧ a_i h 126 15 = nI i ∧ i ≤ n ∧ a_i h 126 16 = nI x.2.2 ∧ tkR x (a_i h 126 17) (a_i h 126 18) ∧ (¬ x.1 = 0 → T.drop (j + 1) = tks t n (n - i) i ++ [(0, 0, n)])
/-- frames, waits, begun ones, orders -/
def okK (g φ ω o : Nat) (h : am_h) : Prop := a_i h 126 21 = nI o ∧ a_i h 126 22 = nI φ ∧ a_i h 126 25 = nI ω ∧ a_i h 126 37 = nI g ∧ ∀ i, i < ω → ∃ z, z ≤ φ ∧ a_i h 141 i = nI z
/-- what reading a law changes -/
def rF (φ ω g : Nat) (h h' : am_h) : Prop := sm h h' ∧ a_l h' = a_l h ∧ ∀ p j, ¬ (p = 126 ∧ ((15 ≤ j ∧ j ≤ 18) ∨ j = 21 ∨ j = 22 ∨ j = 25 ∨ j = 28 ∨ j = 37)) → ¬ (p = 138 ∧ φ ≤ j) → ¬ (p = 139 ∧ φ < j) → ¬ ((p = 140 ∨ p = 141) ∧ ω ≤ j) → ¬ (p = 142 ∧ φ < j) → ¬ ((p = 148 ∨ p = 149) ∧ g ≤ j) → a_i h' p j = a_i h p j
theorem rF.rf : rF φ ω g h h := ⟨sm.rf, rfl, fun _ _ _ _ _ _ _ _ => rfl⟩
theorem rF.tr {φ' ω' g' : Nat} (k1 : rF φ ω g h h') (k2 : rF φ' ω' g' h' h'') (l1 : φ ≤ φ') (l2 : ω ≤ ω') (l3 : g ≤ g') : rF φ ω g h h'' := ⟨k1.1.tr k2.1, k2.2.1.trans k1.2.1, fun p j n1 n2 n3 n4 n5 n6 => (k2.2.2 p j n1 (by omega) (by omega) (by omega) (by omega) (by omega)).trans (k1.2.2 p j n1 n2 n3 n4 n5 n6)⟩
/-- after a fault -/
def flR (f s : Int32) (h h' : am_h) : Prop := 0 < f ∧ sm h h' ∧ a_l h' = a_l h ∧ a_i h' 126 19 = f ∧ a_i h' 126 20 = s ∧ ∀ p j, ¬ (p = 126 ∧ 15 ≤ j ∧ j ≤ 37) → ¬ (138 ≤ p ∧ p ≤ 149) → a_i h' p j = a_i h p j
theorem flR.re (k1 : rF φ ω g h h') (k2 : flR f s h' h'') : flR f s h h'' := by
  obtain ⟨z1, z2, z3, z4, z5, z6⟩ := k2
  exact ⟨z1, k1.1.tr z2, z3.trans k1.2.1, z4, z5, fun p j n1 n2 => (z6 p j n1 n2).trans (k1.2.2 p j (by omega) (by omega) (by omega) (by omega) (by omega) (by omega))⟩
theorem okP.fr (K : okP t n T w j h) (s : sm h h') (e : ∀ k, (14 ≤ k ∧ k ≤ 19) ∨ k = 31 → a_i h' 126 k = a_i h 126 k) (e2 : ∀ k, a_i h' 129 k = a_i h 129 k) : okP t n T w j h' := by
  obtain ⟨⟨T1, T2, T3, T4⟩, k2, k3, x, i, k4, k5, k6, k7, k8, k9⟩ := K
  refine ⟨⟨by rw [s.1, s.2.1]; exact T1, by rw [e _ (by omega)]; exact T2, T3, fun j hj => by rw [e2]; exact T4 j hj⟩, by rw [e _ (by omega)]; exact k2, by rw [e _ (by omega)]; exact k3, x, i, k4, by rw [e _ (by omega)]; exact k5, k6, by rw [e _ (by omega)]; exact k7, by rw [e _ (by omega), e _ (by omega)]; exact k8, k9⟩
theorem okP.tk (K : okP t n T w j h) (hx : T[j]? = some x) : a_i h 126 16 = nI x.2.2 ∧ tkR x (a_i h 126 17) (a_i h 126 18) := by
  obtain ⟨-, -, -, x', i, k4, -, -, k7, k8, -⟩ := K
  have : x' = x := by rw [k4] at hx; exact Option.some.inj hx
  subst this
  exact ⟨k7, k8⟩
theorem okP.l (K : okP t n T w j h) (hx : T[j]? = some x) (nz : ¬ x.1 = 0) : j + 1 < T.length := by
  obtain ⟨-, -, -, x', i, k4, -, -, -, -, k9⟩ := K
  have : x' = x := by rw [k4] at hx; exact Option.some.inj hx
  subst this
  have e := congrArg List.length (k9 nz)
  rw [List.length_drop, List.length_append, List.length_singleton] at e
  omega
/-- to the next token -/
theorem rq_next (K : okP t n T w j h) (hx : T[j]? = some x) (nz : ¬ x.1 = 0) : ∃ h', (∀ Q, Cal (d + 2) mX12_next [.ref 126] h Q = Q none h') ∧ nxR h h' ∧ okP t n T w (j + 1) h' := by
  obtain ⟨T0, k2, k3, x', i, k4, k5, k6, k7, k8, k9⟩ := K
  have : x' = x := by rw [k4] at hx; exact Option.some.inj hx
  subst this
  obtain ⟨h', y, i', R, e1, r1, r2, r3, r4, r5, r6, r7⟩ := q_X12_next (d := d) T0 k5 k6
  have e2 : T.drop (j + 1) = y :: R := (k9 nz).trans e1
  have l : j + 1 < T.length := by
    have e := congrArg List.length e2
    rw [List.length_drop, List.length_cons] at e
    omega
  have e3 := List.drop_eq_getElem_cons l
  rw [e3] at e2
  obtain ⟨e4, e5⟩ := List.cons.inj e2
  obtain ⟨q1, q2, q3⟩ := r2
  obtain ⟨T1, T2, T3, T4⟩ := T0
  refine ⟨h', r1, ⟨q1, q2, q3⟩, ⟨by rw [q1.1, q1.2.1]; exact T1, by rw [q3 _ _ (by omega)]; exact T2, T3, fun j hj => by rw [q3 _ _ (by omega)]; exact T4 j hj⟩, by rw [q3 _ _ (by omega)]; exact k2, by rw [q3 _ _ (by omega)]; exact k3, y, i', ?_, r3, r4, r5, r6, fun z => by rw [e5]; exact r7 z⟩
  rw [List.getElem?_eq_getElem l, e4]
theorem okK.nx (K : okK g φ ω o h) (k : nxR h h') : okK g φ ω o h' := by
  obtain ⟨k1, k2, k3, k4, k5⟩ := K
  obtain ⟨-, -, e⟩ := k
  exact ⟨by rw [e _ _ (by omega)]; exact k1, by rw [e _ _ (by omega)]; exact k2, by rw [e _ _ (by omega)]; exact k3, by rw [e _ _ (by omega)]; exact k4, fun i hi => by rw [e _ _ (by omega)]; exact k5 i hi⟩
theorem nxR.F (k : nxR h h') : rF φ ω g h h' := ⟨k.1, k.2.1, fun p j n1 _ _ _ _ _ => k.2.2 p j (by omega)⟩
theorem okP.R (K : okP t n T w j h) : sh_R (a_t h) (a_r h) := K.1.1
/-- a fault -/
theorem rq_errs (K : okP t n T w j h) (hx : T[j]? = some x) (hf : 0 < f) : ∃ h', (∀ d Q, Cal d mX12_errs [.ref 126, .int f] h Q = Q none h') ∧ flR f (nI x.2.2) h h' := by
  obtain ⟨k7, -⟩ := K.tk hx
  refine ⟨s_i (s_i h 126 19 f) 126 20 (a_i h 126 16), fun d Q => ?_, hf, sm.rf, rfl, ?_, ?_, fun p j n1 n2 => ?_⟩
  · rw [q_X12_errs (eq_true K.R), if_pos K.2.1]
  · rw [ine (by omega), ieq rfl rfl]
  · rw [ieq rfl rfl]; exact k7
  · rw [ine (by omega), ine (by omega)]
/-! which token it is, on both sides -/
theorem wm_e : ∀ w, w < 32 → ∀ y, y < 32 → wm w = wm y → w = y := by decide
theorem smp_e {a b : Nat} (ha : isg a) (hb : isg b) (e : smp a = smp b) : a = b := by
  unfold smp at e
  unfold isg at ha hb
  split at e <;> split at e <;> (try split at e) <;> (try split at e) <;> omega
theorem smp_b {a : Nat} (ha : isg a) : smp a < 400 ∧ ¬ smp a = 44 := by
  unfold smp
  unfold isg at ha
  split
  · omega
  · split <;> omega
theorem tk_S {s v : Int32} (k : tkR x s v) (gy : isg y) : (s = 3 ∧ v = nI (smp y)) ↔ isS x y := by
  have by_ := smp_b gy
  unfold isS
  rcases k with ⟨k1, k2⟩ | ⟨k1, k2, -⟩ | ⟨k1, ⟨-, k2, -⟩ | ⟨-, k2⟩⟩ | ⟨k1, k2, k3, k4⟩ | ⟨k1, k2⟩
  · exact ⟨fun z => absurd (k2.symm.trans z.1) (by decide), fun z => by omega⟩
  · exact ⟨fun z => absurd (k2.symm.trans z.1) (by decide), fun z => by omega⟩
  · exact ⟨fun z => absurd (k2.symm.trans z.1) (by decide), fun z => by omega⟩
  · exact ⟨fun z => absurd (k2.symm.trans z.1) (by decide), fun z => by omega⟩
  · have bx := smp_b k4
    constructor
    · rintro ⟨z1, z2⟩
      rw [k3, nI_inj (by omega) (by omega)] at z2
      exact ⟨k1, smp_e k4 gy z2⟩
    · rintro ⟨z1, z2⟩
      exact ⟨k2, by rw [k3, z2]⟩
  · refine ⟨fun z => ?_, fun z => by omega⟩
    rcases k2 with k2 | ⟨k2, k3⟩
    · exact absurd (k2.symm.trans z.1) (by decide)
    · have e := k3.symm.trans z.2
      rw [show (44 : Int32) = nI 44 from rfl, nI_inj (by omega) (by omega)] at e
      omega
theorem tk_W {s v : Int32} (k : tkR x s v) (ly : y < 32) : (s = 1 ∧ v = nI (wm y)) ↔ isW x y := by
  have by_ := wm_b y ly
  unfold isW
  rcases k with ⟨k1, k2⟩ | ⟨k1, k2, -⟩ | ⟨k1, ⟨k4, k2, k3⟩ | ⟨k4, k2⟩⟩ | ⟨k1, k2, k3, k4⟩ | ⟨k1, k2⟩
  · exact ⟨fun z => absurd (k2.symm.trans z.1) (by decide), fun z => by omega⟩
  · exact ⟨fun z => absurd (k2.symm.trans z.1) (by decide), fun z => by omega⟩
  · have bx := wm_b _ k4
    constructor
    · rintro ⟨z1, z2⟩
      rw [k3, nI_inj (by omega) (by omega)] at z2
      exact ⟨k1, wm_e _ k4 _ ly z2⟩
    · rintro ⟨z1, z2⟩
      exact ⟨k2, by rw [k3, z2]⟩
  · exact ⟨fun z => absurd (k2.symm.trans z.1) (by decide), fun z => by omega⟩
  · exact ⟨fun z => absurd (k2.symm.trans z.1) (by decide), fun z => by omega⟩
  · refine ⟨fun z => ?_, fun z => by omega⟩
    rcases k2 with k2 | ⟨k2, k3⟩
    · exact absurd (k2.symm.trans z.1) (by decide)
    · exact absurd (k2.symm.trans z.1) (by decide)
theorem rq_sg {p : Prop} [Decidable p] (K : okP t n T w j h) (hx : T[j]? = some x) (gy : isg y) (hp : p ↔ isS x y) : Cal d mX12_isSign [.ref 126, .int (nI (smp y))] h Q = Q (some (.int (if p then 1 else 0))) h := by
  have k := tk_S (K.tk hx).2 gy
  rw [q_X12_isSign (eq_true K.R)]
  by_cases z : p
  · have := k.mpr (hp.mp z)
    rw [if_pos this.1, if_pos this.2, if_pos z]
  · rw [if_neg z]
    by_cases c1 : a_i h 126 17 = 3
    · rw [if_pos c1, if_neg (fun c2 => z (hp.mpr (k.mp ⟨c1, c2⟩)))]
    · rw [if_neg c1]
theorem rq_wd {p : Prop} [Decidable p] (K : okP t n T w j h) (hx : T[j]? = some x) (ly : y < 32) (hp : p ↔ isW x y) : Cal d mX12_isWord [.ref 126, .int (nI (wm y))] h Q = Q (some (.int (if p then 1 else 0))) h := by
  have k := tk_W (K.tk hx).2 ly
  rw [q_X12_isWord (eq_true K.R)]
  by_cases z : p
  · have := k.mpr (hp.mp z)
    rw [if_pos this.1, if_pos this.2, if_pos z]
  · rw [if_neg z]
    by_cases c1 : a_i h 126 17 = 1
    · rw [if_pos c1, if_neg (fun c2 => z (hp.mpr (k.mp ⟨c1, c2⟩)))]
    · rw [if_neg c1]
theorem tkR.small {s v : Int32} (k : tkR x s v) : sml x := by
  unfold sml
  rcases k with ⟨k1, k2⟩ | ⟨k1, k2, w, -, k3⟩ | ⟨k1, ⟨k4, k2, k3⟩ | ⟨k4, k2⟩⟩ | ⟨k1, k2, k3, k4⟩ | ⟨k1, k2⟩
  · omega
  · unfold nR at k3
    omega
  · omega
  · omega
  · unfold isg at k4
    omega
  · omega
end RPOS
