/-! two fresh ends: the next change, what came through -/
section FRESH5
variable {m : FMo} {e o T t u s : Nat} {n no nr uj : Nat} {bg en kd bo eo ko : Nat → Nat}
def mnN (a b : Nat) : Nat := if b < a then b else a
theorem mnN_le {a b : Nat} : mnN a b ≤ a ∧ mnN a b ≤ b ∧ (mnN a b = a ∨ mnN a b = b) := by
  unfold mnN; split <;> omega
/-- an end's rows in a tenth: nothing of it yet; it ended in it; it began in it -/
def stD (m : FMo) (e T n : Nat) (bg en kd : Nat → Nat) : Prop := (¬ T = 0 ∧ fD m e (2 * T) n bg en kd) ∨ (¬ T = 0 ∧ en (n - 1) = T ∧ fD m e (2 * T + 1) n bg en kd) ∨ (en (n - 1) = 0 ∧ bg (n - 1) = T ∧ fD m e (2 * T + 2) n bg en kd)
theorem stD.D (k : stD m e T n bg en kd) : ∃ s, 2 * T ≤ s ∧ s ≤ 2 * T + 2 ∧ fD m e s n bg en kd := by
  rcases k with k | k | k
  · exact ⟨_, Nat.le_refl _, by omega, k.2⟩
  · exact ⟨_, by omega, by omega, k.2.2⟩
  · exact ⟨_, by omega, Nat.le_refl _, k.2.2⟩
def sinc (n : Nat) (bg en : Nat → Nat) : Nat := if en (n - 1) = 0 then bg (n - 1) else en (n - 1)
def nrOk (lg since nr no : Nat) (eo : Nat → Nat) : Prop := nr ≤ no ∧ (∀ j, j < nr → ¬ eo j = 0 ∧ eo j + lg ≤ since) ∧ (nr < no → ¬ (¬ eo nr = 0 ∧ eo nr + lg ≤ since))
/-- nextChange -/
def nC (m : FMo) (e o n : Nat) (bg en : Nat → Nat) (nr no : Nat) (bo eo : Nat → Nat) : Nat := if en (n - 1) = 0 then mnN (bg (n - 1) + m.2.2.1) (yIn m.2.2.2 (m.2.1 o) no nr bo) else bIn (m.1 e) (m.2.1 o) bo eo (no - nr) nr (en (n - 1))
theorem nC_at (ho : o = 1 - e) (h1 : 1 ≤ m.2.1 o) (hL : 1 ≤ m.2.2.1) (k : stD m e T n bg en kd) (k' : stD m o T no bo eo ko) (hr : nrOk (m.2.1 o) (sinc n bg en) nr no eo) (hT : T ≤ 999) :
    T ≤ nC m e o n bg en nr no bo eo ∧ (¬ nC m e o n bg en nr no bo eo = T → fD m e (2 * T + 2) n bg en kd)
    ∧ (nC m e o n bg en nr no bo eo = T → en (n - 1) = 0 → ¬ T = 0 ∧ fD m e (2 * T) n bg en kd ∧ ¬ enA m e T = 0 ∧ enA m e T = if yIn m.2.2.2 (m.2.1 o) no nr bo = T then 2 else 1)
    ∧ (nC m e o n bg en nr no bo eo = T → ¬ en (n - 1) = 0 → ¬ T = 0 ∧ bgA m e T = true ∧ ∃ s, fD m e s n bg en kd ∧ (s = 2 * T ∨ s = 2 * T + 1 ∧ en (n - 1) = T)) := by
  have h1' : 1 ≤ m.2.1 (1 - e) := ho ▸ h1
  obtain ⟨so, so1, so2, ko'⟩ := k'.D
  obtain ⟨r1, r2, r3⟩ := hr
  rcases k with ⟨T0, k⟩ | ⟨T0, z, k⟩ | ⟨z, zb, k⟩
  · obtain ⟨T', rfl⟩ : ∃ T', T = T' + 1 := ⟨T - 1, by omega⟩
    have ev := fk_ev (T := T') h1'
    by_cases z : en (n - 1) = 0
    · have es : sinc n bg en = bg (n - 1) := if_pos z
      rw [es] at r2 r3
      have ec : nC m e o n bg en nr no bo eo = mnN (bg (n - 1) + m.2.2.1) (yIn m.2.2.2 (m.2.1 o) no nr bo) := if_pos z
      rw [ec]
      obtain ⟨a1, a2, a3, a4, a5⟩ := fNx_sp ho h1 hL k ko' so1 rfl z hT r1 r2 r3
      have mm := mnN_le (a := bg (n - 1) + m.2.2.1) (b := yIn m.2.2.2 (m.2.1 o) no nr bo)
      have sp := (k.sp h1' z (t := T') (by have := (k.2.2.1 (n - 1) (by have := k.1; omega)).1; omega) (by omega)).1
      refine ⟨by omega, fun c => ?_, fun c _ => ⟨T0, k, ?_, ?_⟩, fun _ c => absurd z c⟩
      · have e0 : enA m e (T' + 1) = 0 := by
          by_cases q : enA m e (T' + 1) = 0
          · exact q
          · have := a3.mp q; omega
        refine k.no h1' (Or.inl ⟨rfl, e0⟩) T0 ?_
        cases q : bgA m e (T' + 1)
        · rfl
        · rcases ev.2.2.1 q with q2 | q2
          · rw [sp] at q2; cases q2
          · exact absurd e0 q2
      · exact a3.mpr (by omega)
      · split
        · rename_i q; exact a4 q
        · rename_i q; exact a5 q (a3.mpr (by omega))
    · have es : sinc n bg en = en (n - 1) := if_neg z
      rw [es] at r2 r3
      have ec : nC m e o n bg en nr no bo eo = bIn (m.1 e) (m.2.1 o) bo eo (no - nr) nr (en (n - 1)) := if_neg z
      rw [ec]
      obtain ⟨a1, a2⟩ := fNx_sl ho h1 k ko' so1 (Or.inl rfl) z hT r1 r2
      have sl := (k.sl h1' z (t := T') (by have := ((k.2.2.1 (n - 1) (by have := k.1; omega)).2.2.2 z).2.1; omega) (by omega)).1
      refine ⟨a1, fun c => ?_, fun _ c => absurd c z, fun c _ => ⟨T0, a2.mp c, _, k, Or.inl rfl⟩⟩
      refine k.no h1' (Or.inl ⟨rfl, ?_⟩) T0 ?_
      · by_cases q : enA m e (T' + 1) = 0
        · exact q
        · have := ev.2.1 q
          rw [sl] at this
          cases this
      · cases q : bgA m e (T' + 1)
        · rfl
        · exact absurd (a2.mpr q) c
  · have z0 : ¬ en (n - 1) = 0 := by omega
    have es : sinc n bg en = en (n - 1) := if_neg z0
    rw [es] at r2 r3
    have ec : nC m e o n bg en nr no bo eo = bIn (m.1 e) (m.2.1 o) bo eo (no - nr) nr (en (n - 1)) := if_neg z0
    rw [ec]
    obtain ⟨a1, a2⟩ := fNx_sl ho h1 k ko' so1 (Or.inr ⟨rfl, z⟩) z0 hT r1 r2
    refine ⟨a1, fun c => ?_, fun _ c => absurd c z0, fun c _ => ⟨T0, a2.mp c, _, k, Or.inr ⟨rfl, z⟩⟩⟩
    refine k.no h1' (Or.inr ⟨rfl, z, T0⟩) T0 ?_
    cases q : bgA m e T
    · rfl
    · exact absurd (a2.mpr q) c
  · have es : sinc n bg en = bg (n - 1) := if_pos z
    rw [es] at r2 r3
    have ec : nC m e o n bg en nr no bo eo = mnN (bg (n - 1) + m.2.2.1) (yIn m.2.2.2 (m.2.1 o) no nr bo) := if_pos z
    rw [ec]
    have mm := mnN_le (a := bg (n - 1) + m.2.2.1) (b := yIn m.2.2.2 (m.2.1 o) no nr bo)
    have gt : T < yIn m.2.2.2 (m.2.1 o) no nr bo := by
      unfold yIn
      split
      · omega
      · have := fY_gt ho h1 k ko' ⟨n - 1, by have := k.1; omega, rfl⟩ (by omega) r3 (by omega)
        omega
    refine ⟨by omega, fun _ => k, fun c _ => by omega, fun _ c => absurd z c⟩
/-- tenths in which nothing changes go by -/
theorem st_adv (h0 : 1 ≤ m.2.1 0) (h1 : 1 ≤ m.2.1 1) (hL : 1 ≤ m.2.2.1) {n0 n1 r0 r1 : Nat} {b0 e0 k0 b1 e1 k1 : Nat → Nat} (ra : nrOk (m.2.1 1) (sinc n0 b0 e0) r0 n1 e1) (rb : nrOk (m.2.1 0) (sinc n1 b1 e1) r1 n0 e0) {T' : Nat} (hT : T' ≤ 1000) (c0 : T' ≤ nC m 0 1 n0 b0 e0 r0 n1 b1 e1) (c1 : T' ≤ nC m 1 0 n1 b1 e1 r1 n0 b0 e0) : ∀ (k T : Nat), T + k = T' → stD m 0 T n0 b0 e0 k0 → stD m 1 T n1 b1 e1 k1 → stD m 0 T' n0 b0 e0 k0 ∧ stD m 1 T' n1 b1 e1 k1 := by
  intro k
  induction k with
  | zero => intro T e s0 s1; have : T = T' := by omega
            subst this; exact ⟨s0, s1⟩
  | succ k ih =>
    intro T e s0 s1
    have a0 := (nC_at (e := 0) (o := 1) rfl h1 hL s0 s1 ra (by omega)).2.1 (by omega)
    have a1 := (nC_at (e := 1) (o := 0) rfl h0 hL s1 s0 rb (by omega)).2.1 (by omega)
    exact ih (T + 1) (by omega) (Or.inl ⟨by omega, a0⟩) (Or.inl ⟨by omega, a1⟩)
theorem fD.ge (k : fD m e s n bg en kd) : ∀ i, i < n → i ≤ bg i := by
  intro i
  induction i with
  | zero => intro _; omega
  | succ i ih =>
    intro hi
    have a := ih (by omega)
    obtain ⟨u1, u2⟩ := k.up i (i + 1) (by omega) hi
    have := ((k.2.2.1 i (by omega)).2.2.2 u1).1
    omega
theorem fD.inj (k : fD m e s n bg en kd) {i j : Nat} (hi : i < n) (hj : j < n) (h : bg i = bg j) : i = j := by
  have lt : ∀ i j, i < j → j < n → bg i < bg j := by
    intro i j h1 h2
    obtain ⟨u1, u2⟩ := k.up i j h1 h2
    have := ((k.2.2.1 i (by omega)).2.2.2 u1).1
    omega
  by_cases c : i < j
  · have := lt i j c hj; omega
  · by_cases c2 : j < i
    · have := lt j i c2 hi; omega
    · omega
/-- a turn that begins in B comes through -/
def CTp (m : FMo) (e B : Nat) : Prop := bgA m e B = true ∧ enA m e (B + m.2.2.1) = 1 ∧ (∀ t, B < t → t < B + m.2.2.1 → enA m e t = 0) ∧ B + m.2.2.1 + m.2.1 e ≤ 1000 ∧ ∀ t, B ≤ t → t < B + m.2.2.1 → spkn m (1 - e) (t + m.2.1 e) = false
theorem CT_ix (hL : 1 ≤ m.2.2.1) (hg : 1 ≤ m.2.1 e) (k : fD m e s n bg en kd) {B : Nat} (c : CTp m e B) (hs : 2 * (B + m.2.2.1) < s) : ∃ i, i < n ∧ bg i = B ∧ en i = B + m.2.2.1 ∧ kd i = 1 := by
  obtain ⟨c1, c2, c3, c4, c5⟩ := c
  obtain ⟨i, hi, ei⟩ := (k.2.2.2.2.2.1 B (by omega)).mp c1
  obtain ⟨j, hj, ej, nj⟩ := (k.2.2.2.2.1 (B + m.2.2.1) hs).mp (by omega)
  have : i = j := by
    by_cases q : j < i
    · obtain ⟨u1, u2⟩ := k.up j i q hi
      omega
    · by_cases q2 : i < j
      · obtain ⟨u1, u2⟩ := k.up i j q2 hj
        have a := (k.2.2.1 i hi).2.2.2 u1
        have b := ((k.2.2.1 j hj).2.2.2 nj).1
        have z := c3 (en i) (by omega) (by omega)
        exact absurd z ((k.2.2.2.2.1 (en i) a.2.1).mpr ⟨i, hi, rfl, u1⟩)
      · omega
  subst this
  refine ⟨i, hi, ei, ej, ?_⟩
  have a := (k.2.2.1 i hi).2.2.2 nj
  rw [a.2.2.1, ej]; exact c2
theorem CT_of (k : fD m e s n bg en kd) {so : Nat} (ho : o = 1 - e) (k' : fD m o so no bo eo ko) {i : Nat} (hi : i < n) (ni : ¬ en i = 0) (ki : kd i = 1) (hT : T ≤ 1000) (hw : bg i + m.2.1 e + m.2.2.1 ≤ T) (hso : 2 * T ≤ so) (sil : ∀ j, j < no → ¬ (bo j ≤ bg i + m.2.1 e + m.2.2.1 - 1 ∧ (eo j = 0 ∨ bg i + m.2.1 e < eo j))) : CTp m e (bg i) := by
  subst ho
  have a := (k.2.2.1 i hi).2.2.2 ni
  have eni : en i = bg i + m.2.2.1 := by
    rcases a.2.2.2 with z | z
    · omega
    · exact z.2
  refine ⟨(k.2.2.2.2.2.1 _ (k.2.2.1 i hi).1).mpr ⟨i, hi, rfl⟩, by rw [← eni, ← a.2.2.1]; exact ki, fun t t1 t2 => ?_, by omega, fun t t1 t2 => ?_⟩
  · by_cases q : enA m e t = 0
    · exact q
    · exfalso
      obtain ⟨j, hj, ej, nj⟩ := (k.2.2.2.2.1 t (by omega)).mp q
      by_cases q1 : j < i
      · obtain ⟨u1, u2⟩ := k.up j i q1 hi
        omega
      · by_cases q2 : i < j
        · obtain ⟨u1, u2⟩ := k.up i j q2 hj
          have b := ((k.2.2.1 j hj).2.2.2 nj).1
          omega
        · have : j = i := by omega
          subst this
          omega
  · cases q : spkn m (1 - e) (t + m.2.1 e)
    · rfl
    · exfalso
      obtain ⟨j, hj, b1, b2⟩ := (k'.2.2.2.2.2.2 _ (by omega)).mp q
      exact sil j hj ⟨by omega, by omega⟩
theorem CT_not (hL : 1 ≤ m.2.2.1) (hg : 1 ≤ m.2.1 e) (k : fD m e s n bg en kd) {so : Nat} (ho : o = 1 - e) (k' : fD m o so no bo eo ko) {i : Nat} (hi : i < n) (ni : ¬ en i = 0) (hs : 2 * T ≤ s) (hw : kd i = 1 → bg i + m.2.1 e + m.2.2.1 ≤ T) (hso : 2 * T ≤ so) (ns : ¬ (kd i = 1 ∧ ∀ j, j < no → ¬ (bo j ≤ bg i + m.2.1 e + m.2.2.1 - 1 ∧ (eo j = 0 ∨ bg i + m.2.1 e < eo j)))) : ¬ CTp m e (bg i) := by
  subst ho
  intro c
  have a := (k.2.2.1 i hi).2.2.2 ni
  have k1 : kd i = 1 := by
    rcases a.2.2.2 with z | z
    · exfalso
      have e2 : ¬ enA m e (en i) = 0 := (k.2.2.2.2.1 (en i) a.2.1).mpr ⟨i, hi, rfl, ni⟩
      have := a.2.2.1
      by_cases q : en i < bg i + m.2.2.1
      · have := c.2.2.1 (en i) a.1 q
        exact e2 this
      · by_cases q2 : en i = bg i + m.2.2.1
        · have c2 := c.2.1
          rw [← q2] at c2
          omega
        · have c2 := c.2.1
          obtain ⟨j, hj, ej, nj⟩ := (k.2.2.2.2.1 (bg i + m.2.2.1) (by omega)).mp (by omega)
          by_cases q3 : j < i
          · obtain ⟨u1, u2⟩ := k.up j i q3 hi
            omega
          · by_cases q4 : i < j
            · obtain ⟨u1, u2⟩ := k.up i j q4 hj
              have b := ((k.2.2.1 j hj).2.2.2 nj).1
              omega
            · have : j = i := by omega
              subst this
              omega
    · exact z.1
  refine ns ⟨k1, fun j hj q => ?_⟩
  have w := hw k1
  -- a tenth of the window in which the other one speaks
  obtain ⟨x, x1, x2, x3, x4⟩ : ∃ x, bg i + m.2.1 e ≤ x ∧ x < bg i + m.2.1 e + m.2.2.1 ∧ bo j ≤ x ∧ (eo j = 0 ∨ x < eo j) := by
    by_cases q1 : bo j ≤ bg i + m.2.1 e
    · exact ⟨bg i + m.2.1 e, Nat.le_refl _, by omega, q1, q.2⟩
    · refine ⟨bo j, by omega, by omega, Nat.le_refl _, ?_⟩
      by_cases q2 : eo j = 0
      · exact Or.inl q2
      · exact Or.inr ((k'.2.2.1 j hj).2.2.2 q2).1
  have sp := (k'.2.2.2.2.2.2 x (by omega)).mpr ⟨j, hj, x3, x4⟩
  have := c.2.2.2.2 (x - m.2.1 e) (by omega) (by omega)
  rw [show x - m.2.1 e + m.2.1 e = x by omega, sp] at this
  cases this
/-- the first that comes through (0: none; else one more than its tenth) -/
def isAns (m : FMo) (b : Nat) : Prop := (b = 0 → ∀ e B, e < 2 → ¬ CTp m e B) ∧ (¬ b = 0 → (∃ e, e < 2 ∧ CTp m e (b - 1)) ∧ ∀ e B, e < 2 → CTp m e B → b - 1 ≤ B)
theorem isAns.uq {b b' : Nat} (k : isAns m b) (k' : isAns m b') : b = b' := by
  by_cases c : b = 0
  · by_cases c' : b' = 0
    · omega
    · obtain ⟨e, he, z⟩ := (k'.2 c').1
      exact absurd z (k.1 c e _ he)
  · by_cases c' : b' = 0
    · obtain ⟨e, he, z⟩ := (k.2 c).1
      exact absurd z (k'.1 c' e _ he)
    · obtain ⟨e, he, z⟩ := (k.2 c).1
      obtain ⟨e', he', z'⟩ := (k'.2 c').1
      have a := (k.2 c).2 e' _ he' z'
      have b := (k'.2 c').2 e _ he z
      omega
/-- of those that were judged -/
def bsJ (m : FMo) (e n uj : Nat) (bg en : Nat → Nat) (b : Nat) : Prop := uj ≤ n ∧ (∀ i, i < uj → ¬ en i = 0) ∧ ∀ i, i < uj → CTp m e (bg i) → ¬ b = 0 ∧ b - 1 ≤ bg i
def bsE (m : FMo) (T b : Nat) : Prop := ¬ b = 0 → b - 1 ≤ T ∧ ∃ e, e < 2 ∧ CTp m e (b - 1)
def blk (m : FMo) (e T n uj : Nat) (bg en kd : Nat → Nat) : Prop := uj = n ∨ en uj = 0 ∨ (kd uj = 1 ∧ T < bg uj + m.2.1 e + m.2.2.1)
/-- all 1000 tenths have gone by -/
theorem ans_end (h0 : 1 ≤ m.2.1 0) (h1 : 1 ≤ m.2.1 1) (hL : 1 ≤ m.2.2.1) {n0 n1 u0 u1 b : Nat} {b0 e0 k0 b1 e1 k1 : Nat → Nat} (s0 : stD m 0 1000 n0 b0 e0 k0) (s1 : stD m 1 1000 n1 b1 e1 k1) (j0 : bsJ m 0 n0 u0 b0 e0 b) (j1 : bsJ m 1 n1 u1 b1 e1 b) (l0 : blk m 0 1000 n0 u0 b0 e0 k0) (l1 : blk m 1 1000 n1 u1 b1 e1 k1) (x : bsE m 1000 b) : isAns m b := by
  have all : ∀ e n u (bg en kd : Nat → Nat), 1 ≤ m.2.1 e → stD m e 1000 n bg en kd → bsJ m e n u bg en b → blk m e 1000 n u bg en kd → ∀ B, CTp m e B → ¬ b = 0 ∧ b - 1 ≤ B := by
    intro e n u bg en kd hg s j l B c
    obtain ⟨s', s1, s2, D⟩ := s.D
    obtain ⟨i, hi, ei, eni, ki⟩ := CT_ix hL hg D c (by have := c.2.2.2.1; omega)
    subst ei
    by_cases q : i < u
    · exact j.2.2 i q c
    · exfalso
      rcases l with l | l | ⟨l1, l2⟩
      · omega
      · have hu : u < n := by omega
        have := (D.2.2.1 u hu).2.2.1 l
        have : u = i := by omega
        rw [this] at l
        omega
      · have := D.bb (i := u) (j := i) (by omega) hi
        have := c.2.2.2.1
        omega
  refine ⟨fun c e B he z => ?_, fun c => ⟨(x c).2, fun e B he z => ?_⟩⟩
  · rcases show e = 0 ∨ e = 1 by omega with rfl | rfl
    · exact (all 0 _ _ _ _ _ h0 s0 j0 l0 B z).1 c
    · exact (all 1 _ _ _ _ _ h1 s1 j1 l1 B z).1 c
  · rcases show e = 0 ∨ e = 1 by omega with rfl | rfl
    · exact (all 0 _ _ _ _ _ h0 s0 j0 l0 B z).2
    · exact (all 1 _ _ _ _ _ h1 s1 j1 l1 B z).2
/-- one came through, and none that began ahead of it still can -/
theorem ans_set (h0 : 1 ≤ m.2.1 0) (h1 : 1 ≤ m.2.1 1) (hL : 1 ≤ m.2.2.1) {n0 n1 u0 u1 b : Nat} {b0 e0 k0 b1 e1 k1 : Nat → Nat} (s0 : stD m 0 T n0 b0 e0 k0) (s1 : stD m 1 T n1 b1 e1 k1) (j0 : bsJ m 0 n0 u0 b0 e0 b) (j1 : bsJ m 1 n1 u1 b1 e1 b) (x : bsE m T b) (nb : ¬ b = 0) (q0 : u0 = n0 ∨ b - 1 ≤ b0 u0) (q1 : u1 = n1 ∨ b - 1 ≤ b1 u1) : isAns m b := by
  have all : ∀ e n u (bg en kd : Nat → Nat), stD m e T n bg en kd → bsJ m e n u bg en b → (u = n ∨ b - 1 ≤ bg u) → ∀ B, CTp m e B → b - 1 ≤ B := by
    intro e n u bg en kd s j q B c
    obtain ⟨s', s1, s2, D⟩ := s.D
    by_cases z : 2 * B + 1 < s'
    · obtain ⟨i, hi, ei⟩ := (D.2.2.2.2.2.1 B z).mp c.1
      subst ei
      by_cases w : i < u
      · exact (j.2.2 i w c).2
      · rcases q with q | q
        · omega
        · have := D.bb (i := u) (j := i) (by omega) hi
          omega
    · have := (x nb).1
      omega
  refine ⟨fun c => absurd c nb, fun _ => ⟨(x nb).2, fun e B he z => ?_⟩⟩
  rcases show e = 0 ∨ e = 1 by omega with rfl | rfl
  · exact all 0 _ _ _ _ _ s0 j0 q0 B z
  · exact all 1 _ _ _ _ _ s1 j1 q1 B z
end FRESH5
