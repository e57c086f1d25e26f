/-! two fresh ends, tenth by tenth -/
section FRESH
/-- speaks, began, ended, quiet, pressed, ends now (0 no, 1 said, 2 yielded), begins now -/
abbrev CE : Type := Bool × Nat × Nat × Nat × Nat × Nat × Bool
/-- waits, lags, length, stops -/
abbrev FMo : Type := (Nat → Nat) × (Nat → Nat) × Nat × Nat
def fPr (c : CE) (H : Bool) : Nat := if H = true then c.2.2.2.2.1 + 1 else 0
def fEn (L S T : Nat) (c : CE) (H : Bool) : Nat := if c.1 = true then (if ¬ S = 0 ∧ fPr c H = S then 2 else if c.2.1 + L ≤ T then 1 else 0) else 0
def fSt (w L S T : Nat) (c : CE) (H : Bool) : CE :=
  if c.1 = true ∧ fEn L S T c H = 0 then (true, c.2.1, c.2.2.1, c.2.2.2.1, fPr c H, 0, false)
  else if H = true then (false, c.2.1, if c.1 = true then T else c.2.2.1, 0, 0, fEn L S T c H, false)
  else if (if c.1 = true then 0 else c.2.2.2.1) + 1 ≤ w then (false, c.2.1, if c.1 = true then T else c.2.2.1, (if c.1 = true then 0 else c.2.2.2.1) + 1, 0, fEn L S T c H, false)
  else (true, T, if c.1 = true then T else c.2.2.1, (if c.1 = true then 0 else c.2.2.2.1) + 1, 0, fEn L S T c H, true)
def fHr (lg : Nat → Nat) (k : Nat → Nat → CE) (e T : Nat) : Bool := decide (lg (1 - e) ≤ T) && (k (T - lg (1 - e)) (1 - e)).1
def fK (m : FMo) : Nat → Nat → Nat → CE
  | 0 => fun _ _ => (true, 0, 0, 0, 0, 0, true)
  | T + 1 => fun t e => if t = T + 1 then fSt (m.1 e) m.2.2.1 m.2.2.2 (T + 1) (fK m T T e) (fHr m.2.1 (fK m T) e (T + 1)) else fK m T t e
/-- an end in a tenth -/
def fk (m : FMo) (t e : Nat) : CE := fK m t t e
def spkn (m : FMo) (e t : Nat) : Bool := (fk m t e).1
def hrd (m : FMo) (e t : Nat) : Bool := decide (m.2.1 (1 - e) ≤ t) && spkn m (1 - e) (t - m.2.1 (1 - e))
variable {m : FMo} {e T t u : Nat}
theorem fK_le : ∀ (T t : Nat), t ≤ T → fK m T t e = fk m t e := by
  intro T
  induction T with
  | zero => intro t h; have : t = 0 := by omega
            subst this; rfl
  | succ T ih =>
    intro t h
    by_cases c : t = T + 1
    · subst c; rfl
    · show (if t = T + 1 then _ else fK m T t e) = _
      rw [if_neg c]
      exact ih t (by omega)
theorem fk_s (h1 : 1 ≤ m.2.1 (1 - e)) : fk m (T + 1) e = fSt (m.1 e) m.2.2.1 m.2.2.2 (T + 1) (fk m T e) (hrd m e (T + 1)) := by
  show (if T + 1 = T + 1 then _ else _) = _
  rw [if_pos rfl]
  have : fHr m.2.1 (fK m T) e (T + 1) = hrd m e (T + 1) := by
    unfold fHr hrd spkn
    by_cases c : m.2.1 (1 - e) ≤ T + 1
    · rw [fK_le _ _ (by omega)]
    · rw [decide_eq_false c]; rfl
  rw [this]
  rfl
theorem hrd_0 (h1 : 1 ≤ m.2.1 (1 - e)) : hrd m e 0 = false := by
  unfold hrd
  rw [decide_eq_false (by omega)]
  rfl
/-- what holds of one that speaks -/
def fSp (m : FMo) (e u : Nat) : Prop := (fk m u e).2.1 ≤ u ∧ (fk m (fk m u e).2.1 e).2.2.2.2.2.2 = true ∧ hrd m e (fk m u e).2.1 = false
  ∧ (∀ t, (fk m u e).2.1 ≤ t → t ≤ u → spkn m e t = true ∧ (fk m t e).2.1 = (fk m u e).2.1 ∧ (¬ t = (fk m u e).2.1 → (fk m t e).2.2.2.2.2.1 = 0 ∧ (fk m t e).2.2.2.2.2.2 = false ∧ ¬ (fk m u e).2.1 + m.2.2.1 ≤ t))
  ∧ (fk m u e).2.1 + (fk m u e).2.2.2.2.1 ≤ u ∧ (∀ t, u < t + (fk m u e).2.2.2.2.1 → t ≤ u → hrd m e t = true) ∧ ((fk m u e).2.1 + (fk m u e).2.2.2.2.1 = u ∨ ((fk m u e).2.2.2.2.1 ≤ u ∧ hrd m e (u - (fk m u e).2.2.2.2.1) = false)) ∧ (¬ m.2.2.2 = 0 → (fk m u e).2.2.2.2.1 < m.2.2.2)
  ∧ ∀ T, T ≤ u → ¬ (¬ m.2.2.2 = 0 ∧ (fk m u e).2.1 + m.2.2.2 ≤ T ∧ ∀ t, T < t + m.2.2.2 → t ≤ T → hrd m e t = true)
/-- what holds of one that is silent -/
def fSl (m : FMo) (e u : Nat) : Prop := (fk m u e).2.2.1 ≤ u ∧ ¬ (fk m (fk m u e).2.2.1 e).2.2.2.2.2.1 = 0
  ∧ (∀ t, (fk m u e).2.2.1 ≤ t → t ≤ u → spkn m e t = false ∧ (fk m t e).2.2.1 = (fk m u e).2.2.1 ∧ (fk m t e).2.2.2.2.2.2 = false ∧ (¬ t = (fk m u e).2.2.1 → (fk m t e).2.2.2.2.2.1 = 0))
  ∧ (fk m u e).2.2.1 + (fk m u e).2.2.2.1 ≤ u + 1 ∧ (∀ t, u + 1 ≤ t + (fk m u e).2.2.2.1 → t ≤ u → hrd m e t = false) ∧ ((fk m u e).2.2.1 + (fk m u e).2.2.2.1 = u + 1 ∨ ((fk m u e).2.2.2.1 ≤ u ∧ hrd m e (u - (fk m u e).2.2.2.1) = true))
  ∧ ∀ T, T ≤ u → ¬ ((fk m u e).2.2.1 + m.1 e ≤ T ∧ ∀ t, T ≤ t + m.1 e → t ≤ T → hrd m e t = false)
/-- a tenth by cases -/
theorem fk_cs (h1 : 1 ≤ m.2.1 (1 - e)) :
    (spkn m e T = true ∧ fEn m.2.2.1 m.2.2.2 (T + 1) (fk m T e) (hrd m e (T + 1)) = 0 ∧ fk m (T + 1) e = (true, (fk m T e).2.1, (fk m T e).2.2.1, (fk m T e).2.2.2.1, fPr (fk m T e) (hrd m e (T + 1)), 0, false))
    ∨ (spkn m e T = true ∧ ∃ n, ¬ n = 0 ∧ fEn m.2.2.1 m.2.2.2 (T + 1) (fk m T e) (hrd m e (T + 1)) = n ∧ (
        (hrd m e (T + 1) = true ∧ fk m (T + 1) e = (false, (fk m T e).2.1, T + 1, 0, 0, n, false))
        ∨ (hrd m e (T + 1) = false ∧ 1 ≤ m.1 e ∧ fk m (T + 1) e = (false, (fk m T e).2.1, T + 1, 1, 0, n, false))
        ∨ (hrd m e (T + 1) = false ∧ m.1 e = 0 ∧ fk m (T + 1) e = (true, T + 1, T + 1, 1, 0, n, true))))
    ∨ (spkn m e T = false ∧ hrd m e (T + 1) = true ∧ fk m (T + 1) e = (false, (fk m T e).2.1, (fk m T e).2.2.1, 0, 0, 0, false))
    ∨ (spkn m e T = false ∧ hrd m e (T + 1) = false ∧ (fk m T e).2.2.2.1 + 1 ≤ m.1 e ∧ fk m (T + 1) e = (false, (fk m T e).2.1, (fk m T e).2.2.1, (fk m T e).2.2.2.1 + 1, 0, 0, false))
    ∨ (spkn m e T = false ∧ hrd m e (T + 1) = false ∧ ¬ (fk m T e).2.2.2.1 + 1 ≤ m.1 e ∧ fk m (T + 1) e = (true, T + 1, (fk m T e).2.2.1, (fk m T e).2.2.2.1 + 1, 0, 0, true)) := by
  rw [fk_s h1]
  unfold spkn
  unfold fSt
  cases c : (fk m T e).1
  · have z : fEn m.2.2.1 m.2.2.2 (T + 1) (fk m T e) (hrd m e (T + 1)) = 0 := by
      unfold fEn
      rw [c]
      exact if_neg (by simp)
    rw [z]
    cases H : hrd m e (T + 1)
    · by_cases q : (fk m T e).2.2.2.1 + 1 ≤ m.1 e
      · simp [q]
      · simp [q]
    · simp
  · by_cases n : fEn m.2.2.1 m.2.2.2 (T + 1) (fk m T e) (hrd m e (T + 1)) = 0
    · simp [n]
    · refine Or.inr (Or.inl ⟨rfl, _, n, rfl, ?_⟩)
      cases H : hrd m e (T + 1)
      · rw [H] at n
        by_cases q : 1 ≤ m.1 e
        · simp [n, q]
        · have q' : m.1 e = 0 := by omega
          simp [n, q']
      · rw [H] at n
        simp [n]
end FRESH
