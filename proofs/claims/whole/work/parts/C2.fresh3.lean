/-! two fresh ends: turns by rows, and the next change -/
section FRESH3
variable {m : FMo} {e T t u s : Nat}
def enA (m : FMo) (e t : Nat) : Nat := (fk m t e).2.2.2.2.2.1
def bgA (m : FMo) (e t : Nat) : Bool := (fk m t e).2.2.2.2.2.2
theorem fk_ev (h1 : 1 ≤ m.2.1 (1 - e)) : (spkn m e (T + 1) = true ↔ (bgA m e (T + 1) = true ∨ (spkn m e T = true ∧ enA m e (T + 1) = 0))) ∧ (¬ enA m e (T + 1) = 0 → spkn m e T = true) ∧ (bgA m e (T + 1) = true → spkn m e T = false ∨ ¬ enA m e (T + 1) = 0) ∧ enA m e (T + 1) ≤ 2 := by
  unfold bgA enA
  rcases fk_cs (T := T) h1 with ⟨a1, a2, a3⟩ | ⟨a1, n, a2, a3, a4⟩ | ⟨a1, a2, a3⟩ | ⟨a1, a2, a3, a4⟩ | ⟨a1, a2, a3, a4⟩
  · simp only [spkn] at a1 ⊢
    rw [a3]; simp [a1]
  · have n2 : n ≤ 2 := by
      rw [← a3]
      unfold fEn
      repeat' split
      all_goals omega
    simp only [spkn] at a1 ⊢
    rcases a4 with ⟨c1, c2⟩ | ⟨c1, c2, c3⟩ | ⟨c1, c2, c3⟩
    · rw [c2]; simp [a1, a2, n2]
    · rw [c3]; simp [a1, a2, n2]
    · rw [c3]; simp [a1, a2, n2]
  · simp only [spkn] at a1 ⊢
    rw [a3]; simp [a1]
  · simp only [spkn] at a1 ⊢
    rw [a4]; simp [a1]
  · simp only [spkn] at a1 ⊢
    rw [a4]; simp [a1]
/-- an end's turns, by rows: all that begins or ends ahead of a time s (2 t: ends in t; 2 t + 1: begins in t) -/
def fD (m : FMo) (e s n : Nat) (bg en kd : Nat → Nat) : Prop :=
  1 ≤ n ∧ bg 0 = 0
  ∧ (∀ i, i < n → 2 * bg i + 1 < s ∧ hrd m e (bg i) = false ∧ (en i = 0 → i + 1 = n) ∧ (¬ en i = 0 → bg i < en i ∧ 2 * en i < s ∧ kd i = enA m e (en i) ∧ (kd i = 2 ∧ ¬ m.2.2.2 = 0 ∧ bg i + m.2.2.2 ≤ en i ∨ kd i = 1 ∧ en i = bg i + m.2.2.1)))
  ∧ (∀ i, i + 1 < n → en i ≤ bg (i + 1))
  ∧ (∀ t, 2 * t < s → (¬ enA m e t = 0 ↔ ∃ i, i < n ∧ en i = t ∧ ¬ en i = 0))
  ∧ (∀ t, 2 * t + 1 < s → (bgA m e t = true ↔ ∃ i, i < n ∧ bg i = t))
  ∧ ∀ t, 2 * t + 1 < s → (spkn m e t = true ↔ ∃ i, i < n ∧ bg i ≤ t ∧ (en i = 0 ∨ t < en i))
variable {n n' : Nat} {bg en kd bg' en' kd' : Nat → Nat}
theorem fD.up (k : fD m e s n bg en kd) : ∀ i j, i < j → j < n → ¬ en i = 0 ∧ en i ≤ bg j := by
  obtain ⟨k1, k2, k3, k4, k5, k6, k7⟩ := k
  intro i j
  induction j with
  | zero => intro h; omega
  | succ j ih =>
    intro h hn
    have c : ¬ en i = 0 := fun q => by have := (k3 i (by omega)).2.2.1 q; omega
    refine ⟨c, ?_⟩
    have z := k4 j (by omega)
    by_cases q : i = j
    · rw [q]; exact z
    · have y := ih (by omega) (by omega)
      have cj : ¬ en j = 0 := fun q => by have := (k3 j (by omega)).2.2.1 q; omega
      have := ((k3 j (by omega)).2.2.2 cj).1
      omega
theorem fD.bb (k : fD m e s n bg en kd) {i j : Nat} (h : i ≤ j) (hj : j < n) : bg i ≤ bg j := by
  by_cases q : i = j
  · rw [q]; exact Nat.le_refl _
  · obtain ⟨z1, z2⟩ := k.up i j (by omega) hj
    have := ((k.2.2.1 i (by omega)).2.2.2 z1).1
    omega
/-- the last turn, where it goes on -/
theorem fD.sp (h1 : 1 ≤ m.2.1 (1 - e)) (k : fD m e s n bg en kd) (z : en (n - 1) = 0) {t : Nat} (t1 : bg (n - 1) ≤ t) (t2 : 2 * t + 1 < s) : spkn m e t = true ∧ (fk m t e).2.1 = bg (n - 1) := by
  obtain ⟨k1, k2, k3, k4, k5, k6, k7⟩ := k
  have sp : spkn m e t = true := (k7 t t2).mpr ⟨n - 1, by omega, t1, Or.inl z⟩
  refine ⟨sp, ?_⟩
  obtain ⟨f1, f2, f3, f4, f5⟩ := (fK_inv h1 t).1 sp
  obtain ⟨i, hi, ei⟩ := (k6 _ (by omega)).mp f2
  by_cases c : i = n - 1
  · rw [← ei, c]
  · exfalso
    obtain ⟨u1, u2⟩ := fD.up ⟨k1, k2, k3, k4, k5, k6, k7⟩ i (n - 1) (by omega) (by omega)
    obtain ⟨v1, v2, v3, _⟩ := (k3 i hi).2.2.2 u1
    have := (f4 (en i) (by omega) (by omega)).2.2 (by omega)
    exact (k5 (en i) (by omega)).mpr ⟨i, hi, rfl, u1⟩ this.1
/-- the last turn, where it has ended -/
theorem fD.sl (h1 : 1 ≤ m.2.1 (1 - e)) (k : fD m e s n bg en kd) (z : ¬ en (n - 1) = 0) {t : Nat} (t1 : en (n - 1) ≤ t) (t2 : 2 * t + 1 < s) : spkn m e t = false ∧ (fk m t e).2.2.1 = en (n - 1) := by
  have k0 := k
  obtain ⟨k1, k2, k3, k4, k5, k6, k7⟩ := k
  have sp : spkn m e t = false := by
    cases q : spkn m e t
    · rfl
    · exfalso
      obtain ⟨i, hi, b1, b2⟩ := (k7 t t2).mp q
      by_cases c : i = n - 1
      · rw [c] at b2; omega
      · obtain ⟨u1, u2⟩ := k0.up i (n - 1) (by omega) (by omega)
        have := ((k3 (n - 1) (by omega)).2.2.2 z).1
        omega
  refine ⟨sp, ?_⟩
  obtain ⟨f1, f2, f3, f4⟩ := (fK_inv h1 t).2 sp
  obtain ⟨i, hi, ei, ni⟩ := (k5 _ (by omega)).mp f2
  by_cases c : i = n - 1
  · rw [← ei, c]
  · exfalso
    obtain ⟨u1, u2⟩ := k0.up i (n - 1) (by omega) (by omega)
    have := ((k3 (n - 1) (by omega)).2.2.2 z).1
    have := f3 (en (n - 1)) (by omega) t1
    have q := this.2.2.2 (by omega)
    exact (k5 (en (n - 1)) (by have := ((k3 (n - 1) (by omega)).2.2.2 z).2.1; omega)).mpr ⟨n - 1, by omega, rfl, z⟩ q
/-- whether it is heard, by the other's rows -/
def hdD (lg n : Nat) (bg en : Nat → Nat) (u : Nat) : Prop := ∃ j, j < n ∧ bg j + lg ≤ u ∧ (en j = 0 ∨ u < en j + lg)
theorem fD.hd {o : Nat} (ho : o = 1 - e) (h1 : 1 ≤ m.2.1 o) (k : fD m o s n bg en kd) (hs : 2 * T ≤ s) (hu : u ≤ T) : hrd m e u = true ↔ hdD (m.2.1 o) n bg en u := by
  subst ho
  unfold hrd hdD
  rw [Bool.and_eq_true, decide_eq_true_eq]
  constructor
  · rintro ⟨a, b⟩
    obtain ⟨j, j1, j2, j3⟩ := (k.2.2.2.2.2.2 _ (by omega)).mp b
    exact ⟨j, j1, by omega, by omega⟩
  · rintro ⟨j, j1, j2, j3⟩
    exact ⟨by omega, (k.2.2.2.2.2.2 _ (by omega)).mpr ⟨j, j1, by omega, by omega⟩⟩
/-- beginsIn -/
def bIn (w lg : Nat) (bg en : Nat → Nat) : Nat → Nat → Nat → Nat
  | 0, _, qf => qf + w
  | k + 1, i, qf => if qf + w < bg i + lg then qf + w else if en i = 0 then 1000 else bIn w lg bg en k (i + 1) (if qf < en i + lg then en i + lg else qf)
def PdD (w x lg n : Nat) (bg en : Nat → Nat) (T : Nat) : Prop := x + w ≤ T ∧ ∀ t, T ≤ t + w → t ≤ T → ¬ hdD lg n bg en t
theorem bIn_sp {w x lg : Nat} (srt : ∀ i j, i < j → j < n → ¬ en i = 0 ∧ en i ≤ bg j) (be : ∀ i, i < n → ¬ en i = 0 → bg i < en i) : ∀ (k i qf : Nat), i + k = n → x ≤ qf → (∀ j, j < i → ¬ en j = 0 ∧ en j + lg ≤ qf) → (∀ T, PdD w x lg n bg en T → qf + w ≤ T) →
    (bIn w lg bg en k i qf = 1000 ∧ ∀ T, ¬ PdD w x lg n bg en T) ∨ (PdD w x lg n bg en (bIn w lg bg en k i qf) ∧ ∀ T, T < bIn w lg bg en k i qf → ¬ PdD w x lg n bg en T) := by
  intro k
  induction k with
  | zero =>
    intro i qf e1 e2 e3 e4
    refine Or.inr ⟨⟨by show x + w ≤ qf + w; omega, fun t t1 t2 => ?_⟩, fun T hT c => ?_⟩
    · rintro ⟨j, j1, j2, j3⟩
      have := e3 j (by omega)
      have t1' : qf + w ≤ t + w := t1
      omega
    · have := e4 T c
      have hT' : T < qf + w := hT
      omega
  | succ k ih =>
    intro i qf e1 e2 e3 e4
    have hi : i < n := by omega
    unfold bIn
    by_cases c1 : qf + w < bg i + lg
    · rw [if_pos c1]
      refine Or.inr ⟨⟨by omega, fun t t1 t2 => ?_⟩, fun T hT c => ?_⟩
      · rintro ⟨j, j1, j2, j3⟩
        by_cases q : j < i
        · have := e3 j q; omega
        · by_cases q2 : j = i
          · rw [q2] at j2; omega
          · have := srt i j (by omega) j1
            have := be i hi this.1
            omega
      · have := e4 T c; omega
    · rw [if_neg c1]
      by_cases c2 : en i = 0
      · rw [if_pos c2]
        refine Or.inl ⟨rfl, fun T c => ?_⟩
        have := e4 T c
        exact c.2 T (by omega) (Nat.le_refl _) ⟨i, hi, by omega, Or.inl c2⟩
      · rw [if_neg c2]
        have b := be i hi c2
        obtain ⟨q2, eq2⟩ : ∃ q2, q2 = if qf < en i + lg then en i + lg else qf := ⟨_, rfl⟩
        rw [← eq2]
        have q3 : qf ≤ q2 ∧ en i + lg ≤ q2 ∧ (q2 = qf ∨ q2 = en i + lg) := by
          rw [eq2]; split <;> omega
        refine ih (i + 1) q2 (by omega) (by omega) (fun j hj => ?_) (fun T c => ?_)
        · by_cases q : j = i
          · rw [q]; exact ⟨c2, q3.2.1⟩
          · have := e3 j (by omega)
            exact ⟨this.1, by omega⟩
        · have a := e4 T c
          rcases q3.2.2 with q | q
          · omega
          · rw [q]
            by_cases z : en i + lg + w ≤ T
            · exact z
            · exfalso
              by_cases z2 : T < en i + lg
              · exact c.2 T (by omega) (Nat.le_refl _) ⟨i, hi, by omega, Or.inr z2⟩
              · exact c.2 (en i + lg - 1) (by omega) (by omega) ⟨i, hi, by omega, Or.inr (by omega)⟩
/-- one that is silent: its next change -/
theorem fNx_sl {o so no : Nat} {bo eo ko : Nat → Nat} (ho : o = 1 - e) (h1 : 1 ≤ m.2.1 o) (k : fD m e s n bg en kd) (ko' : fD m o so no bo eo ko) (hso : 2 * T ≤ so) (hs : s = 2 * T ∨ (s = 2 * T + 1 ∧ en (n - 1) = T)) (z : ¬ en (n - 1) = 0) (hT : T ≤ 999) {nr : Nat} (hnr : nr ≤ no) (nf : ∀ j, j < nr → ¬ eo j = 0 ∧ eo j + m.2.1 o ≤ en (n - 1)) :
    T ≤ bIn (m.1 e) (m.2.1 o) bo eo (no - nr) nr (en (n - 1)) ∧ (bIn (m.1 e) (m.2.1 o) bo eo (no - nr) nr (en (n - 1)) = T ↔ bgA m e T = true) := by
  have h1' : 1 ≤ m.2.1 (1 - e) := ho ▸ h1
  obtain ⟨x, ex⟩ : ∃ x, x = en (n - 1) := ⟨_, rfl⟩
  rw [← ex] at nf z hs ⊢
  have x0 : 2 * x < s := by
    have := ((k.2.2.1 (n - 1) (by have := k.1; omega)).2.2.2 (ex ▸ z)).2.1
    omega
  have hd : ∀ u, u ≤ T → (hrd m e u = true ↔ hdD (m.2.1 o) no bo eo u) := fun u hu => ko'.hd ho h1 hso hu
  have PP : ∀ T', T' ≤ T → (PdD (m.1 e) x (m.2.1 o) no bo eo T' ↔ x + m.1 e ≤ T' ∧ ∀ t, T' ≤ t + m.1 e → t ≤ T' → hrd m e t = false) := by
    intro T' hT'
    unfold PdD
    constructor
    · rintro ⟨a, b⟩
      refine ⟨a, fun t t1 t2 => ?_⟩
      cases q : hrd m e t
      · rfl
      · exact absurd ((hd t (by omega)).mp q) (b t t1 t2)
    · rintro ⟨a, b⟩
      refine ⟨a, fun t t1 t2 q => ?_⟩
      have := (hd t (by omega)).mpr q
      rw [b t t1 t2] at this
      cases this
  have run : (∀ T', T' < T → ¬ (x + m.1 e ≤ T' ∧ ∀ t, T' ≤ t + m.1 e → t ≤ T' → hrd m e t = false)) ∧ (bgA m e T = true ↔ x + m.1 e ≤ T ∧ ∀ t, T ≤ t + m.1 e → t ≤ T → hrd m e t = false) := by
    rcases hs with hs | ⟨hs, xT⟩
    · obtain ⟨T0, rfl⟩ : ∃ T0, T = T0 + 1 := ⟨T - 1, by omega⟩
      obtain ⟨q1, q2⟩ := k.sl h1' (ex ▸ z) (t := T0) (by omega) (by omega)
      rw [← ex] at q2
      have f := (fK_inv h1' T0).2 q1
      unfold fSl at f
      rw [q2] at f
      have g := fBg_at h1' q1
      rw [q2] at g
      exact ⟨fun T' hT' => f.2.2.2.2.2.2 T' (by omega), g⟩
    · subst xT
      refine ⟨fun T' hT' c => by omega, ?_⟩
      obtain ⟨T0, rfl⟩ : ∃ T0, x = T0 + 1 := ⟨x - 1, by omega⟩
      have en0 : ¬ enA m e (T0 + 1) = 0 := (k.2.2.2.2.1 (T0 + 1) (by omega)).mpr ⟨n - 1, by have := k.1; omega, ex.symm, ex ▸ z⟩
      have g := fBg_now h1' ((fk_ev h1').2.1 en0) en0
      unfold bgA
      rw [g]
      constructor
      · rintro ⟨a, b⟩
        refine ⟨by omega, fun t t1 t2 => ?_⟩
        have : t = T0 + 1 := by omega
        rw [this]; exact b
      · rintro ⟨a, b⟩
        exact ⟨by omega, b (T0 + 1) (by omega) (Nat.le_refl _)⟩
  have sp := bIn_sp (n := no) (bg := bo) (en := eo) (w := m.1 e) (x := x) (lg := m.2.1 o) ko'.up (fun i hi c => ((ko'.2.2.1 i hi).2.2.2 c).1) (no - nr) nr x (by omega) (Nat.le_refl _) nf (fun T' c => c.1)
  obtain ⟨r, er⟩ : ∃ r, r = bIn (m.1 e) (m.2.1 o) bo eo (no - nr) nr x := ⟨_, rfl⟩
  rw [← er] at sp ⊢
  rcases sp with ⟨sp1, sp2⟩ | ⟨sp1, sp2⟩
  · refine ⟨by omega, fun c => by omega, fun c => ?_⟩
    exact absurd ((PP T (Nat.le_refl _)).mpr (run.2.mp c)) (sp2 T)
  · have lo : T ≤ r := by
      by_cases c : T ≤ r
      · exact c
      · exact absurd ((PP r (by omega)).mp sp1) (run.1 r (by omega))
    refine ⟨lo, fun c => ?_, fun c => ?_⟩
    · rw [c] at sp1
      exact run.2.mpr ((PP T (Nat.le_refl _)).mp sp1)
    · by_cases q : T < r
      · exact absurd ((PP T (Nat.le_refl _)).mpr (run.2.mp c)) (sp2 T q)
      · omega
/-- yieldsIn -/
def yIn (S lg no nr : Nat) (bo : Nat → Nat) : Nat := if S = 0 ∨ no ≤ nr then 1000 else bo nr + lg + S - 1
theorem fY_gt {o so no : Nat} {bo eo ko : Nat → Nat} (ho : o = 1 - e) (h1 : 1 ≤ m.2.1 o) (k : fD m e s n bg en kd) (ko' : fD m o so no bo eo ko) {b : Nat} (hb : ∃ i, i < n ∧ bg i = b) (hso : 2 * b ≤ so) {nr : Nat} (ng : nr < no → ¬ (¬ eo nr = 0 ∧ eo nr + m.2.1 o ≤ b)) (c : nr < no) : b < bo nr + m.2.1 o := by
  obtain ⟨i, hi, rfl⟩ := hb
  have hh := (k.2.2.1 i hi).2.1
  by_cases q : bg i < bo nr + m.2.1 o
  · exact q
  · exfalso
    have := (ko'.hd ho h1 hso (Nat.le_refl _)).mpr ⟨nr, c, by omega, by have := ng c; omega⟩
    rw [hh] at this
    cases this
/-- one that speaks: its next change -/
theorem fNx_sp {o so no : Nat} {bo eo ko : Nat → Nat} (ho : o = 1 - e) (h1 : 1 ≤ m.2.1 o) (hL : 1 ≤ m.2.2.1) (k : fD m e s n bg en kd) (ko' : fD m o so no bo eo ko) (hso : 2 * T ≤ so) (hs : s = 2 * T) (z : en (n - 1) = 0) (hT : T ≤ 999) {nr : Nat} (hnr : nr ≤ no) (nf : ∀ j, j < nr → ¬ eo j = 0 ∧ eo j + m.2.1 o ≤ bg (n - 1)) (ng : nr < no → ¬ (¬ eo nr = 0 ∧ eo nr + m.2.1 o ≤ bg (n - 1))) :
    T ≤ bg (n - 1) + m.2.2.1 ∧ T ≤ yIn m.2.2.2 (m.2.1 o) no nr bo ∧ (¬ enA m e T = 0 ↔ bg (n - 1) + m.2.2.1 = T ∨ yIn m.2.2.2 (m.2.1 o) no nr bo = T) ∧ (yIn m.2.2.2 (m.2.1 o) no nr bo = T → enA m e T = 2) ∧ (¬ yIn m.2.2.2 (m.2.1 o) no nr bo = T → ¬ enA m e T = 0 → enA m e T = 1) := by
  have h1' : 1 ≤ m.2.1 (1 - e) := ho ▸ h1
  subst hs
  have hbs := (k.2.2.1 (n - 1) (by have := k.1; omega)).1
  obtain ⟨b, eb⟩ : ∃ b, b = bg (n - 1) := ⟨_, rfl⟩
  rw [← eb] at nf ng hbs ⊢
  obtain ⟨T0, rfl⟩ : ∃ T0, T = T0 + 1 := ⟨T - 1, by omega⟩
  obtain ⟨q1, q2⟩ := k.sp h1' z (t := T0) (by omega) (by omega)
  rw [← eb] at q2
  have f := (fK_inv h1' T0).1 q1
  unfold fSp at f
  rw [q2] at f
  obtain ⟨f1, f2, f3, f4, f5, f6, f7, f8, f9⟩ := f
  have hd : ∀ u, u ≤ T0 + 1 → (hrd m e u = true ↔ hdD (m.2.1 o) no bo eo u) := fun u hu => ko'.hd ho h1 hso hu
  have TL : T0 + 1 ≤ b + m.2.2.1 := by
    by_cases c : T0 = b
    · omega
    · have := (f4 T0 (by omega) (Nat.le_refl _)).2.2 (by omega)
      omega
  obtain ⟨y, ey⟩ : ∃ y, y = yIn m.2.2.2 (m.2.1 o) no nr bo := ⟨_, rfl⟩
  rw [← ey]
  unfold yIn at ey
  have gt := fY_gt ho h1 k ko' ⟨n - 1, by have := k.1; omega, eb.symm⟩ (by omega) ng
  -- where y is no later than now, it is a yielding
  have ymp : y ≤ T0 + 1 → ¬ m.2.2.2 = 0 ∧ b + m.2.2.2 ≤ y ∧ ∀ t, y < t + m.2.2.2 → t ≤ y → hrd m e t = true := by
    intro hy
    by_cases c : m.2.2.2 = 0 ∨ no ≤ nr
    · rw [if_pos c] at ey; omega
    · rw [if_neg c] at ey
      have g := gt (by omega)
      refine ⟨by omega, by omega, fun t t1 t2 => ?_⟩
      refine (hd t (by omega)).mpr ⟨nr, by omega, by omega, ?_⟩
      by_cases e0 : eo nr = 0
      · exact Or.inl e0
      · have := ((ko'.2.2.1 nr (by omega)).2.2.2 e0)
        refine Or.inr ?_
        rcases this.2.2.2 with w | w
        · omega
        · omega
  have yge : T0 + 1 ≤ y := by
    by_cases c : T0 + 1 ≤ y
    · exact c
    · exact absurd (ymp (by omega)) (f9 y (by omega))
  have Yiff : (¬ m.2.2.2 = 0 ∧ b + m.2.2.2 ≤ T0 + 1 ∧ ∀ t, T0 + 1 < t + m.2.2.2 → t ≤ T0 + 1 → hrd m e t = true) ↔ y = T0 + 1 := by
    constructor
    · rintro ⟨s1, s2, s3⟩
      obtain ⟨j, j1, j2, j3⟩ := (hd (T0 + 2 - m.2.2.2) (by omega)).mp (s3 (T0 + 2 - m.2.2.2) (by omega) (by omega))
      have jn : nr ≤ j := by
        by_cases c : nr ≤ j
        · exact c
        · have := nf j (by omega); omega
      have := ko'.bb jn j1
      rw [if_neg (by omega)] at ey
      omega
    · intro c
      rw [← c]
      exact ymp (by omega)
  have E := fEn_at h1' q1
  rw [q2] at E
  obtain ⟨E1, E2, E3⟩ := E
  rw [Yiff] at E1 E2 E3
  unfold enA
  refine ⟨TL, yge, ?_, E1, fun c1 c2 => ?_⟩
  · by_cases c1 : y = T0 + 1
    · have := E1 c1
      exact ⟨fun _ => Or.inr c1, fun _ => by omega⟩
    · by_cases c2 : b + m.2.2.1 ≤ T0 + 1
      · have := E2 c1 c2
        exact ⟨fun _ => Or.inl (by omega), fun _ => by omega⟩
      · have := E3 c1 c2
        refine ⟨fun c => absurd this c, fun c => ?_⟩
        omega
  · by_cases c3 : b + m.2.2.1 ≤ T0 + 1
    · exact E2 c1 c3
    · exact absurd (E3 c1 c3) c2
end FRESH3
