/-! two fresh ends: what holds of one that speaks, of one that is silent -/
section FRESH2
variable {m : FMo} {e T t u : Nat}
theorem fSp_new {b : Nat} (hb : fk m b e = (true, b, (fk m b e).2.2.1, (fk m b e).2.2.2.1, 0, (fk m b e).2.2.2.2.2.1, true)) (hh : hrd m e b = false) : fSp m e b := by
  have h1 : (fk m b e).1 = true := by rw [hb]
  have h2 : (fk m b e).2.1 = b := by rw [hb]
  have h3 : (fk m b e).2.2.2.2.1 = 0 := by rw [hb]
  have h4 : (fk m b e).2.2.2.2.2.2 = true := by rw [hb]
  unfold fSp
  rw [h2, h3]
  refine ⟨Nat.le_refl _, h4, hh, fun t t1 t2 => ?_, by omega, fun t t1 t2 => by omega, Or.inl rfl, by omega, fun T hT c => by omega⟩
  have : t = b := by omega
  subst this
  exact ⟨h1, h2, fun c => absurd rfl c⟩
theorem fK_inv (h1 : 1 ≤ m.2.1 (1 - e)) : ∀ u, (spkn m e u = true → fSp m e u) ∧ (spkn m e u = false → fSl m e u) := by
  intro u
  induction u with
  | zero => exact ⟨fun _ => fSp_new rfl (hrd_0 h1), fun c => by cases c⟩
  | succ T ih =>
    rcases fk_cs (T := T) h1 with ⟨a1, a2, a3⟩ | ⟨a1, n, a2, a3, a4⟩ | ⟨a1, a2, a3⟩ | ⟨a1, a2, a3, a4⟩ | ⟨a1, a2, a3, a4⟩
    · refine ⟨fun _ => ?_, fun c => by unfold spkn at c; rw [a3] at c; cases c⟩
      have k := ih.1 a1
      unfold fSp at k ⊢
      have e1 : (fk m (T + 1) e).2.1 = (fk m T e).2.1 := by rw [a3]
      have e2 : (fk m (T + 1) e).2.2.2.2.1 = fPr (fk m T e) (hrd m e (T + 1)) := by rw [a3]
      rw [e1, e2]
      obtain ⟨k1, k2, k3, k4, k5, k6, k7, k8, k9⟩ := k
      have f1 : ¬ (¬ m.2.2.2 = 0 ∧ fPr (fk m T e) (hrd m e (T + 1)) = m.2.2.2) ∧ ¬ (fk m T e).2.1 + m.2.2.1 ≤ T + 1 := by
        have a1' : (fk m T e).1 = true := a1
        unfold fEn at a2
        rw [if_pos a1'] at a2
        split at a2
        · omega
        · rename_i z
          split at a2
          · omega
          · rename_i z2
            exact ⟨z, z2⟩
      have p1 : hrd m e (T + 1) = true → fPr (fk m T e) (hrd m e (T + 1)) = (fk m T e).2.2.2.2.1 + 1 := fun z => if_pos z
      have p2 : hrd m e (T + 1) = false → fPr (fk m T e) (hrd m e (T + 1)) = 0 := fun z => if_neg (by rw [z]; simp)
      obtain ⟨P, eP⟩ : ∃ P, P = fPr (fk m T e) (hrd m e (T + 1)) := ⟨_, rfl⟩
      rw [← eP] at f1 p1 p2 ⊢
      obtain ⟨b, eb⟩ : ∃ b, b = (fk m T e).2.1 := ⟨_, rfl⟩
      obtain ⟨p, ep⟩ : ∃ p, p = (fk m T e).2.2.2.2.1 := ⟨_, rfl⟩
      rw [← eb] at k1 k2 k3 k4 k5 k7 k9 f1 ⊢
      rw [← ep] at k5 k6 k7 k8 p1
      have q8 : ¬ m.2.2.2 = 0 → P < m.2.2.2 := by
        intro s
        have := k8 s
        cases H : hrd m e (T + 1)
        · have := p2 H; omega
        · have := p1 H; omega
      have q7 : b + P = T + 1 ∨ P ≤ T + 1 ∧ hrd m e (T + 1 - P) = false := by
        cases H : hrd m e (T + 1)
        · have := p2 H
          subst this
          exact Or.inr ⟨by omega, H⟩
        · have := p1 H
          rcases k7 with k7 | ⟨k7, k7'⟩
          · exact Or.inl (by omega)
          · refine Or.inr ⟨by omega, ?_⟩
            rw [show T + 1 - P = T - p by omega]; exact k7'
      refine ⟨by omega, k2, k3, fun t t1 t2 => ?_, ?_, fun t t1 t2 => ?_, q7, q8, fun T' hT c => ?_⟩
      · by_cases c : t = T + 1
        · subst c
          refine ⟨by unfold spkn; rw [a3], by rw [a3, eb], fun _ => ⟨by rw [a3], by rw [a3], f1.2⟩⟩
        · exact k4 t t1 (by omega)
      · cases H : hrd m e (T + 1)
        · have := p2 H; omega
        · have := p1 H; omega
      · cases H : hrd m e (T + 1)
        · have := p2 H; omega
        · have := p1 H
          by_cases c : t = T + 1
          · subst c; exact H
          · exact k6 t (by omega) (by omega)
      · by_cases c2 : T' = T + 1
        · subst c2
          obtain ⟨c3, c4, c5⟩ := c
          have := q8 c3
          rcases q7 with q7 | ⟨q7, q7'⟩
          · omega
          · have := c5 (T + 1 - P) (by omega) (by omega)
            rw [this] at q7'
            cases q7'
        · exact k9 T' (by omega) c
    · rcases a4 with ⟨c1, c2⟩ | ⟨c1, c2, c3⟩ | ⟨c1, c2, c3⟩
      · refine ⟨fun c => (by unfold spkn at c; rw [c2] at c; cases c), fun _ => ?_⟩
        have e1 : (fk m (T + 1) e).2.2.1 = T + 1 := by rw [c2]
        have e2 : (fk m (T + 1) e).2.2.2.1 = 0 := by rw [c2]
        unfold fSl
        rw [e1, e2]
        refine ⟨Nat.le_refl _, by rw [c2]; exact a2, fun t t1 t2 => ?_, by omega, fun t t1 t2 => by omega, Or.inr ⟨by omega, c1⟩, fun T' hT c => ?_⟩
        · have : t = T + 1 := by omega
          subst this
          exact ⟨by unfold spkn; rw [c2], e1, by rw [c2], fun c => absurd rfl c⟩
        · have := c.2 (T + 1) (by omega) (by omega)
          rw [c1] at this
          cases this
      · refine ⟨fun c => (by unfold spkn at c; rw [c3] at c; cases c), fun _ => ?_⟩
        have e1 : (fk m (T + 1) e).2.2.1 = T + 1 := by rw [c3]
        have e2 : (fk m (T + 1) e).2.2.2.1 = 1 := by rw [c3]
        unfold fSl
        rw [e1, e2]
        refine ⟨Nat.le_refl _, by rw [c3]; exact a2, fun t t1 t2 => ?_, by omega, fun t t1 t2 => ?_, Or.inl rfl, fun T' hT c => by omega⟩
        · have : t = T + 1 := by omega
          subst this
          exact ⟨by unfold spkn; rw [c3], e1, by rw [c3], fun c => absurd rfl c⟩
        · have : t = T + 1 := by omega
          subst this
          exact c1
      · refine ⟨fun _ => fSp_new (by rw [c3]) c1, fun c => by unfold spkn at c; rw [c3] at c; cases c⟩
    · refine ⟨fun c => (by unfold spkn at c; rw [a3] at c; cases c), fun _ => ?_⟩
      have k := ih.2 a1
      unfold fSl at k ⊢
      have e1 : (fk m (T + 1) e).2.2.1 = (fk m T e).2.2.1 := by rw [a3]
      have e2 : (fk m (T + 1) e).2.2.2.1 = 0 := by rw [a3]
      rw [e1, e2]
      obtain ⟨k1, k2, k3, k4, k5, k6, k7⟩ := k
      refine ⟨by omega, k2, fun t t1 t2 => ?_, by omega, fun t t1 t2 => by omega, Or.inr ⟨by omega, a2⟩, fun T' hT c => ?_⟩
      · by_cases c : t = T + 1
        · subst c
          exact ⟨by unfold spkn; rw [a3], e1, by rw [a3], fun _ => by rw [a3]⟩
        · exact k3 t t1 (by omega)
      · by_cases c2 : T' = T + 1
        · subst c2
          have := c.2 (T + 1) (by omega) (by omega)
          rw [a2] at this
          cases this
        · exact k7 T' (by omega) c
    · refine ⟨fun c => (by unfold spkn at c; rw [a4] at c; cases c), fun _ => ?_⟩
      have k := ih.2 a1
      unfold fSl at k ⊢
      have e1 : (fk m (T + 1) e).2.2.1 = (fk m T e).2.2.1 := by rw [a4]
      have e2 : (fk m (T + 1) e).2.2.2.1 = (fk m T e).2.2.2.1 + 1 := by rw [a4]
      rw [e1, e2]
      obtain ⟨k1, k2, k3, k4, k5, k6, k7⟩ := k
      obtain ⟨q, eq⟩ : ∃ q, q = (fk m T e).2.2.2.1 := ⟨_, rfl⟩
      rw [← eq] at k4 k5 k6 a3 ⊢
      refine ⟨by omega, k2, fun t t1 t2 => ?_, by omega, fun t t1 t2 => ?_, ?_, fun T' hT c => ?_⟩
      · by_cases c : t = T + 1
        · subst c
          exact ⟨by unfold spkn; rw [a4], e1, by rw [a4], fun _ => by rw [a4]⟩
        · exact k3 t t1 (by omega)
      · by_cases c : t = T + 1
        · subst c; exact a2
        · exact k5 t (by omega) (by omega)
      · rcases k6 with k6 | ⟨k6, k6'⟩
        · exact Or.inl (by omega)
        · refine Or.inr ⟨by omega, ?_⟩
          rw [show T + 1 - (q + 1) = T - q by omega]; exact k6'
      · by_cases c2 : T' = T + 1
        · subst c2
          obtain ⟨c3, c4⟩ := c
          rcases k6 with k6 | ⟨k6, k6'⟩
          · omega
          · have := c4 (T - q) (by omega) (by omega)
            rw [this] at k6'
            cases k6'
        · exact k7 T' (by omega) c
    · refine ⟨fun _ => fSp_new (by rw [a4]) a2, fun c => by unfold spkn at c; rw [a4] at c; cases c⟩
/-- when one that speaks ends -/
theorem fEn_at (h1 : 1 ≤ m.2.1 (1 - e)) (c : spkn m e T = true) :
    let b := (fk m T e).2.1
    let Y := ¬ m.2.2.2 = 0 ∧ b + m.2.2.2 ≤ T + 1 ∧ ∀ t, T + 1 < t + m.2.2.2 → t ≤ T + 1 → hrd m e t = true
    (Y → (fk m (T + 1) e).2.2.2.2.2.1 = 2) ∧ (¬ Y → b + m.2.2.1 ≤ T + 1 → (fk m (T + 1) e).2.2.2.2.2.1 = 1) ∧ (¬ Y → ¬ b + m.2.2.1 ≤ T + 1 → (fk m (T + 1) e).2.2.2.2.2.1 = 0) := by
  intro b Y
  have k := (fK_inv h1 T).1 c
  obtain ⟨k1, k2, k3, k4, k5, k6, k7, k8, k9⟩ := k
  have en : (fk m (T + 1) e).2.2.2.2.2.1 = fEn m.2.2.1 m.2.2.2 (T + 1) (fk m T e) (hrd m e (T + 1)) := by
    rcases fk_cs (T := T) h1 with ⟨a1, a2, a3⟩ | ⟨a1, n, a2, a3, a4⟩ | ⟨a1, a2, a3⟩ | ⟨a1, a2, a3, a4⟩ | ⟨a1, a2, a3, a4⟩
    · rw [a2, a3]
    · rcases a4 with ⟨c1, c2⟩ | ⟨c1, c2, c3⟩ | ⟨c1, c2, c3⟩
      · rw [c2, a3]
      · rw [c3, a3]
      · rw [c3, a3]
    · rw [a1] at c; cases c
    · rw [a1] at c; cases c
    · rw [a1] at c; cases c
  have c' : (fk m T e).1 = true := c
  have yq : Y ↔ ¬ m.2.2.2 = 0 ∧ fPr (fk m T e) (hrd m e (T + 1)) = m.2.2.2 := by
    constructor
    · rintro ⟨y1, y2, y3⟩
      refine ⟨y1, ?_⟩
      have H : hrd m e (T + 1) = true := y3 (T + 1) (by omega) (by omega)
      have : fPr (fk m T e) (hrd m e (T + 1)) = (fk m T e).2.2.2.2.1 + 1 := if_pos H
      rw [this]
      have := k8 y1
      rcases k7 with k7 | ⟨k7, k7'⟩
      · have : (fk m T e).2.1 = b := rfl
        omega
      · by_cases z : (fk m T e).2.2.2.2.1 + 1 < m.2.2.2
        · have := y3 (T - (fk m T e).2.2.2.2.1) (by omega) (by omega)
          rw [this] at k7'
          cases k7'
        · omega
    · rintro ⟨y1, y2⟩
      unfold fPr at y2
      split at y2
      · rename_i H
        refine ⟨y1, ?_, fun t t1 t2 => ?_⟩
        · have : (fk m T e).2.1 = b := rfl
          omega
        · by_cases z : t = T + 1
          · rw [z]; exact H
          · exact k6 t (by omega) (by omega)
      · exact absurd y2.symm y1
  rw [en]
  unfold fEn
  rw [if_pos c']
  refine ⟨fun y => if_pos (yq.mp y), fun y l => ?_, fun y l => ?_⟩
  · rw [if_neg (fun z => y (yq.mpr z))]; exact if_pos l
  · rw [if_neg (fun z => y (yq.mpr z))]; exact if_neg l
/-- when one that is silent begins -/
theorem fBg_at (h1 : 1 ≤ m.2.1 (1 - e)) (c : spkn m e T = false) : (fk m (T + 1) e).2.2.2.2.2.2 = true ↔ (fk m T e).2.2.1 + m.1 e ≤ T + 1 ∧ ∀ t, T + 1 ≤ t + m.1 e → t ≤ T + 1 → hrd m e t = false := by
  have k := (fK_inv h1 T).2 c
  obtain ⟨k1, k2, k3, k4, k5, k6, k7⟩ := k
  rcases fk_cs (T := T) h1 with ⟨a1, a2, a3⟩ | ⟨a1, n, a2, a3, a4⟩ | ⟨a1, a2, a3⟩ | ⟨a1, a2, a3, a4⟩ | ⟨a1, a2, a3, a4⟩
  · rw [a1] at c; cases c
  · rw [a1] at c; cases c
  · rw [a3]
    refine ⟨fun q => (by cases q), fun q => ?_⟩
    have := q.2 (T + 1) (by omega) (by omega)
    rw [a2] at this
    cases this
  · rw [a4]
    refine ⟨fun q => (by cases q), fun q => ?_⟩
    obtain ⟨q1, q2⟩ := q
    rcases k6 with k6 | ⟨k6, k6'⟩
    · omega
    · have := q2 (T - (fk m T e).2.2.2.1) (by omega) (by omega)
      rw [this] at k6'
      cases k6'
  · rw [a4]
    refine ⟨fun _ => ⟨by omega, fun t t1 t2 => ?_⟩, fun _ => rfl⟩
    by_cases z : t = T + 1
    · rw [z]; exact a2
    · exact k5 t (by omega) (by omega)
/-- whether one that has just ended begins in the same tenth -/
theorem fBg_now (h1 : 1 ≤ m.2.1 (1 - e)) (c : spkn m e T = true) (n : ¬ (fk m (T + 1) e).2.2.2.2.2.1 = 0) : (fk m (T + 1) e).2.2.2.2.2.2 = true ↔ m.1 e = 0 ∧ hrd m e (T + 1) = false := by
  rcases fk_cs (T := T) h1 with ⟨a1, a2, a3⟩ | ⟨a1, n', a2, a3, a4⟩ | ⟨a1, a2, a3⟩ | ⟨a1, a2, a3, a4⟩ | ⟨a1, a2, a3, a4⟩
  · rw [a3] at n; exact absurd rfl n
  · rcases a4 with ⟨c1, c2⟩ | ⟨c1, c2, c3⟩ | ⟨c1, c2, c3⟩
    · rw [c2, c1]; simp
    · rw [c3]
      refine ⟨fun q => (by cases q), fun q => by omega⟩
    · rw [c3]
      exact ⟨fun _ => ⟨c2, c1⟩, fun _ => rfl⟩
  · rw [a1] at c; cases c
  · rw [a1] at c; cases c
  · rw [a1] at c; cases c
end FRESH2
