/-! two fresh ends: the other side's turns, an end's tenth -/
section RF3
variable {d : Nat} {h y y' : am_h} {m : FMo} {e o T f F b p w v n B : Nat} {tb te : Nat → Nat} {sb : Nat → Option Nat}
/-- a turn that began in B was said to its end, by a tenth -/
def sdP (m : FMo) (e B T : Nat) : Prop := B + m.2.2.1 ≤ T ∧ enA m e (B + m.2.2.1) = 1 ∧ ∀ t, B < t → t < B + m.2.2.1 → enA m e t = 0
def uo (f : Nat → Option Nat) (k : Nat) (v : Option Nat) : Nat → Option Nat := fun j => if j = k then v else f j
def FA (m : FMo) (tb te : Nat → Nat) (sb : Nat → Option Nat) (F : Nat) (y : am_h) : Prop :=
  a_i y 126 69 = nI F ∧ F ≤ tb 0 + tb 1 + 2
  ∧ (∀ e B, e < 2 → B ≤ tb e → bgA m e B = true → ∃ i, i < F ∧ a_i y 169 i = nI e ∧ a_i y 170 i = nI B)
  ∧ (∀ i, i < F → ∃ e B, e < 2 ∧ B ≤ tb e ∧ a_i y 169 i = nI e ∧ a_i y 170 i = nI B ∧ bgA m e B = true ∧ (sdP m e B (te e) → a_i y 171 i = 1) ∧ (¬ sdP m e B (te e) → a_i y 171 i = 0))
  ∧ (∀ i j, i < F → j < F → a_i y 169 i = a_i y 169 j → a_i y 170 i = a_i y 170 j → i = j)
  ∧ ∀ e b, e < 2 → sb e = some b → ∃ f, f < F ∧ a_i y 172 e = nI f ∧ a_i y 169 f = nI e ∧ a_i y 170 f = nI b
theorem FA.fr (k : FA m tb te sb F y) (h69 : a_i y' 126 69 = a_i y 126 69) (hi : ∀ q j, 169 ≤ q → q ≤ 172 → a_i y' q j = a_i y q j) : FA m tb te sb F y' := by
  have i9 : a_i y' 169 = a_i y 169 := funext fun j => hi _ _ (by omega) (by omega)
  have i0 : a_i y' 170 = a_i y 170 := funext fun j => hi _ _ (by omega) (by omega)
  have i1 : a_i y' 171 = a_i y 171 := funext fun j => hi _ _ (by omega) (by omega)
  have i2 : a_i y' 172 = a_i y 172 := funext fun j => hi _ _ (by omega) (by omega)
  unfold FA
  rw [h69, i9, i0, i1, i2]
  exact k
theorem FA.cg {tb' te' : Nat → Nat} {sb' : Nat → Option Nat} (k : FA m tb te sb F y) (h1 : ∀ e, e < 2 → tb' e = tb e) (h2 : ∀ e, e < 2 → te' e = te e) (h3 : ∀ e, e < 2 → sb' e = sb e) : FA m tb' te' sb' F y := by
  obtain ⟨k1, k2, k3, k4, k5, k6⟩ := k
  refine ⟨k1, by rw [h1 0 (by omega), h1 1 (by omega)]; exact k2, fun e B he hB => k3 e B he (by rw [← h1 e he]; exact hB), fun i hi => ?_, k5, fun e b he hs => k6 e b he (by rw [← h3 e he]; exact hs)⟩
  obtain ⟨e, B, a1, a2, a3⟩ := k4 i hi
  exact ⟨e, B, a1, by rw [h1 e a1]; exact a2, by rw [h2 e a1]; exact a3⟩
/-- between two beginnings there is an end -/
theorem en_bt (h1 : 1 ≤ m.2.1 (1 - e)) (hB : spkn m e B = true) (lt : B < b) (hb : bgA m e b = true) : ∃ x, B < x ∧ x ≤ b ∧ ¬ enA m e x = 0 := by
  obtain ⟨b', rfl⟩ : ∃ b', b = b' + 1 := ⟨b - 1, by omega⟩
  have ev := (fk_ev (T := b') h1).2.2.1 hb
  rcases ev with ev | ev
  · obtain ⟨f1, f2, f3, _⟩ := (fK_inv h1 b').2 ev
    refine ⟨(fk m b' e).2.2.1, ?_, by omega, f2⟩
    by_cases c : B < (fk m b' e).2.2.1
    · exact c
    · have := (f3 B (by omega) (by omega)).1
      rw [hB] at this
      cases this
  · exact ⟨b' + 1, lt, Nat.le_refl _, ev⟩
theorem bg_sp (h1 : 1 ≤ m.2.1 (1 - e)) (hB : bgA m e B = true) : spkn m e B = true := by
  cases B with
  | zero => rfl
  | succ B => exact (fk_bg h1 hB).1
theorem sdP_no (h1 : 1 ≤ m.2.1 (1 - e)) (hB : bgA m e B = true) (lt : B < b) (hb : bgA m e b = true) (bT : b < B + m.2.2.1) : ¬ sdP m e B T := by
  rintro ⟨a1, a2, a3⟩
  obtain ⟨x, x1, x2, x3⟩ := en_bt h1 (bg_sp h1 hB) lt hb
  exact x3 (a3 x x1 (by omega))
theorem sd_now (h1 : 1 ≤ m.2.1 (1 - e)) (hL : 1 ≤ m.2.2.1) (sp : spkn m e T = true) (eb : (fk m T e).2.1 = b) : sdP m e b (T + 1) ↔ enA m e (T + 1) = 1 := by
  have f1 := (fK_inv h1 T).1 sp
  unfold fSp at f1
  rw [eb] at f1
  obtain ⟨g1, g2, g3, g4, _⟩ := f1
  have ge : T + 1 ≤ b + m.2.2.1 := by
    by_cases q : T = b
    · omega
    · have := (g4 T g1 (Nat.le_refl _)).2.2 q
      omega
  constructor
  · rintro ⟨a1, a2, _⟩
    have : b + m.2.2.1 = T + 1 := by omega
    rw [← this]; exact a2
  · intro c
    have E := fEn_at h1 sp
    rw [eb] at E
    obtain ⟨E1, E2, E3⟩ := E
    have c' : (fk m (T + 1) e).2.2.2.2.2.1 = 1 := c
    have le : b + m.2.2.1 ≤ T + 1 := by
      by_cases q : b + m.2.2.1 ≤ T + 1
      · exact q
      · by_cases Y : ¬ m.2.2.2 = 0 ∧ b + m.2.2.2 ≤ T + 1 ∧ ∀ t, T + 1 < t + m.2.2.2 → t ≤ T + 1 → hrd m e t = true
        · have := E1 Y; omega
        · have := E3 Y q; omega
    have eq : b + m.2.2.1 = T + 1 := by omega
    refine ⟨by omega, by rw [eq]; exact c, fun t t1 t2 => ?_⟩
    exact ((g4 t (by omega) (by omega)).2.2 (by omega)).1
theorem sd_old (h1 : 1 ≤ m.2.1 (1 - e)) (sp : spkn m e T = true) (eb : (fk m T e).2.1 = b) (hB : bgA m e B = true) (BT : B ≤ T) (ne : ¬ B = b) : sdP m e B (T + 1) ↔ sdP m e B T := by
  have f1 := (fK_inv h1 T).1 sp
  unfold fSp at f1
  rw [eb] at f1
  obtain ⟨g1, g2, g3, g4, _⟩ := f1
  have lt : B < b := by
    by_cases q : B < b
    · exact q
    · have := ((g4 B (by omega) BT).2.2 ne).2.1
      unfold bgA at hB
      rw [hB] at this
      cases this
  constructor
  · intro z
    by_cases q : B + m.2.2.1 ≤ T
    · exact ⟨q, z.2⟩
    · exact absurd z (sdP_no h1 hB lt g2 (by have := z.1; omega))
  · intro z
    exact ⟨by have := z.1; omega, z.2⟩
theorem sd_q (c : ¬ enA m e (T + 1) = 1) : sdP m e B (T + 1) ↔ sdP m e B T := by
  constructor
  · intro z
    by_cases q : B + m.2.2.1 ≤ T
    · exact ⟨q, z.2⟩
    · exfalso
      have : B + m.2.2.1 = T + 1 := by have := z.1; omega
      have z2 := z.2.1
      rw [this] at z2
      exact c z2
  · intro z
    exact ⟨by have := z.1; omega, z.2⟩
/-- an end ends -/
theorem FA.xe (k : FA m tb te sb F y) (h1 : 1 ≤ m.2.1 (1 - e)) (hL : 1 ≤ m.2.2.1) (he : e < 2) (tt : ∀ e, e < 2 → tb e ≤ 1000) (tbT : tb e = T) (tte : te e = T) (hs : sb e = some b) (sp : spkn m e T = true) (eb : (fk m T e).2.1 = b) (hn : enA m e (T + 1) = n) (hf : a_i y 172 e = nI f) (f2 : f < 2200)
    (i9 : ∀ j, a_i y' 169 j = a_i y 169 j) (i0 : ∀ j, a_i y' 170 j = a_i y 170 j) (i2 : ∀ j, a_i y' 172 j = a_i y 172 j) (i69 : a_i y' 126 69 = a_i y 126 69) (i1 : ∀ j, ¬ j = f → a_i y' 171 j = a_i y 171 j) (i1f : a_i y' 171 f = if n = 1 then 1 else a_i y 171 f) : FA m tb (un te e (T + 1)) (uo sb e none) F y' := by
  obtain ⟨k1, k2, k3, k4, k5, k6⟩ := k
  have t0 := tt 0 (by omega)
  have t1 := tt 1 (by omega)
  obtain ⟨f', ff1, ff2, ff3, ff4⟩ := k6 e b he hs
  have fe : f = f' := by
    have := hf.symm.trans ff2
    rwa [nI_inj (by omega) (by omega)] at this
  subst fe
  have b1 := ((fK_inv h1 T).1 sp).1
  rw [eb] at b1
  refine ⟨by rw [i69]; exact k1, k2, fun e' B' he' hB' hb' => ?_, fun i hi => ?_, fun i j hi hj a c => k5 i j hi hj (by rw [← i9, ← i9]; exact a) (by rw [← i0, ← i0]; exact c), fun e' b' he' hs' => ?_⟩
  · obtain ⟨i, a1, a2, a3⟩ := k3 e' B' he' hB' hb'
    exact ⟨i, a1, by rw [i9]; exact a2, by rw [i0]; exact a3⟩
  · obtain ⟨e', B', a1, a2, a3, a4, a5, a6, a7⟩ := k4 i hi
    refine ⟨e', B', a1, a2, by rw [i9]; exact a3, by rw [i0]; exact a4, a5, ?_⟩
    by_cases c : e' = e
    · subst c
      rw [une rfl]
      rw [tte] at a6 a7
      by_cases ci : B' = b
      · subst ci
        have ifi : i = f := k5 i f hi ff1 (by rw [a3, ff3]) (by rw [a4, ff4])
        subst ifi
        rw [sd_now h1 hL sp eb, hn, i1f]
        refine ⟨fun z => if_pos z, fun z => ?_⟩
        rw [if_neg z]
        refine a7 (fun zz => z ?_)
        rw [← hn]
        exact (sd_now h1 hL sp eb).mp ⟨by have := zz.1; omega, zz.2⟩
      · have nif : ¬ i = f := fun q => ci (by
          rw [q, ff4] at a4
          rw [nI_inj (by have := tt e' a1; omega) (by have := tt e' a1; omega)] at a4
          exact a4.symm)
        rw [sd_old h1 sp eb a5 (by omega) ci, i1 i nif]
        exact ⟨a6, a7⟩
    · have nif : ¬ i = f := fun q => c (by
        rw [q, ff3] at a3
        rw [nI_inj (by omega) (by omega)] at a3
        exact a3.symm)
      rw [unn c, i1 i nif]
      exact ⟨a6, a7⟩
  · unfold uo at hs'
    by_cases c : e' = e
    · rw [if_pos c] at hs'; cases hs'
    · rw [if_neg c] at hs'
      obtain ⟨f', a1, a2, a3, a4⟩ := k6 e' b' he' hs'
      exact ⟨f', a1, by rw [i2]; exact a2, by rw [i9]; exact a3, by rw [i0]; exact a4⟩
/-- an end does not end -/
theorem FA.xk (k : FA m tb te sb F y) (tte : te e = T) (c : enA m e (T + 1) = 0) : FA m tb (un te e (T + 1)) sb F y := by
  obtain ⟨k1, k2, k3, k4, k5, k6⟩ := k
  refine ⟨k1, k2, k3, fun i hi => ?_, k5, k6⟩
  obtain ⟨e', B', a1, a2, a3, a4, a5, a6, a7⟩ := k4 i hi
  refine ⟨e', B', a1, a2, a3, a4, a5, ?_⟩
  by_cases q : e' = e
  · subst q
    rw [une rfl, sd_q (by omega), ← tte]
    exact ⟨a6, a7⟩
  · rw [unn q]; exact ⟨a6, a7⟩
/-- an end does not begin -/
theorem FA.xm (k : FA m tb te sb F y) (he : e < 2) (tbT : tb e = T) (c : bgA m e (T + 1) = false) : FA m (un tb e (T + 1)) te sb F y := by
  obtain ⟨k1, k2, k3, k4, k5, k6⟩ := k
  have le : ∀ e', tb e' ≤ un tb e (T + 1) e' := fun e' => by
    by_cases q : e' = e
    · rw [une q, q, tbT]; omega
    · rw [unn q]; exact Nat.le_refl _
  refine ⟨k1, by have := le 0; have := le 1; omega, fun e' B' he' hB' hb' => ?_, fun i hi => ?_, k5, k6⟩
  · by_cases q : e' = e
    · subst q
      rw [une rfl] at hB'
      by_cases q2 : B' = T + 1
      · rw [q2, c] at hb'; cases hb'
      · exact k3 e' B' he' (by omega) hb'
    · rw [unn q] at hB'
      exact k3 e' B' he' hB' hb'
  · obtain ⟨e', B', a1, a2, a3⟩ := k4 i hi
    exact ⟨e', B', a1, Nat.le_trans a2 (le e'), a3⟩
/-- an end begins -/
theorem FA.xb (k : FA m tb te sb F y) (hL : 1 ≤ m.2.2.1) (he : e < 2) (tt : ∀ e, e < 2 → tb e ≤ 1000) (tbT : tb e = T) (tte : te e = T + 1) (c : bgA m e (T + 1) = true)
    (i9 : ∀ j, ¬ j = F → a_i y' 169 j = a_i y 169 j) (i0 : ∀ j, ¬ j = F → a_i y' 170 j = a_i y 170 j) (i1 : ∀ j, ¬ j = F → a_i y' 171 j = a_i y 171 j) (i2 : ∀ j, ¬ j = e → a_i y' 172 j = a_i y 172 j)
    (j9 : a_i y' 169 F = nI e) (j0 : a_i y' 170 F = nI (T + 1)) (j1 : a_i y' 171 F = 0) (j2 : a_i y' 172 e = nI F) (i69 : a_i y' 126 69 = nI (F + 1)) : FA m (un tb e (T + 1)) te (uo sb e (some (T + 1))) (F + 1) y' := by
  obtain ⟨k1, k2, k3, k4, k5, k6⟩ := k
  have t0 := tt 0 (by omega)
  have t1 := tt 1 (by omega)
  have le : ∀ e', tb e' ≤ un tb e (T + 1) e' := fun e' => by
    by_cases q : e' = e
    · rw [une q, q, tbT]; omega
    · rw [unn q]; exact Nat.le_refl _
  have sm : F + 1 ≤ un tb e (T + 1) 0 + un tb e (T + 1) 1 + 2 := by
    have a := le 0
    have b := le 1
    rcases show e = 0 ∨ e = 1 by omega with rfl | rfl
    · rw [une rfl] at a ⊢; omega
    · rw [une rfl] at b ⊢; omega
  refine ⟨i69, sm, fun e' B' he' hB' hb' => ?_, fun i hi => ?_, fun i j hi hj a c2 => ?_, fun e' b' he' hs' => ?_⟩
  · by_cases q : e' = e ∧ B' = T + 1
    · exact ⟨F, by omega, by rw [q.1]; exact j9, by rw [q.2]; exact j0⟩
    · have hB2 : B' ≤ tb e' := by
        by_cases q2 : e' = e
        · rw [une q2] at hB'; rw [q2, tbT]; omega
        · rw [unn q2] at hB'; exact hB'
      obtain ⟨i, a1, a2, a3⟩ := k3 e' B' he' hB2 hb'
      exact ⟨i, by omega, by rw [i9 i (by omega)]; exact a2, by rw [i0 i (by omega)]; exact a3⟩
  · by_cases q : i = F
    · subst q
      refine ⟨e, T + 1, he, by rw [une rfl]; exact Nat.le_refl _, j9, j0, c, fun z => ?_, fun _ => j1⟩
      rw [tte] at z
      have := z.1
      omega
    · obtain ⟨e', B', a1, a2, a3, a4, a5⟩ := k4 i (by omega)
      exact ⟨e', B', a1, Nat.le_trans a2 (le e'), by rw [i9 i q]; exact a3, by rw [i0 i q]; exact a4, by rw [i1 i q]; exact a5⟩
  · have new : ∀ i, i < F → a_i y' 169 i = nI e → a_i y' 170 i = nI (T + 1) → False := by
      intro i hi z1 z2
      obtain ⟨e', B', a1, a2, a3, a4, a5⟩ := k4 i hi
      rw [i9 i (by omega), a3] at z1
      rw [i0 i (by omega), a4] at z2
      rw [nI_inj (by omega) (by omega)] at z1
      rw [nI_inj (by have := tt e' a1; omega) (by have := tt e he; omega)] at z2
      subst z1
      omega
    by_cases qi : i = F <;> by_cases qj : j = F
    · omega
    · exact (new j (by omega) (by rw [← a, qi]; exact j9) (by rw [← c2, qi]; exact j0)).elim
    · exact (new i (by omega) (by rw [a, qj]; exact j9) (by rw [c2, qj]; exact j0)).elim
    · exact k5 i j (by omega) (by omega) (by rw [← i9 i qi, ← i9 j qj]; exact a) (by rw [← i0 i qi, ← i0 j qj]; exact c2)
  · unfold uo at hs'
    by_cases q : e' = e
    · rw [if_pos q] at hs'
      cases hs'
      rw [q]
      exact ⟨F, by omega, j2, j9, j0⟩
    · rw [if_neg q] at hs'
      obtain ⟨f', a1, a2, a3, a4⟩ := k6 e' b' he' hs'
      exact ⟨f', by omega, by rw [i2 e' q]; exact a2, by rw [i9 f' (by omega)]; exact a3, by rw [i0 f' (by omega)]; exact a4⟩
/-- an end's cells behind a tenth -/
def RT (m : FMo) (e T : Nat) (y : am_h) : Prop :=
  (spkn m e T = true → a_i y 152 e = 1 ∧ a_i y 155 e = nI (fk m T e).2.2.2.2.1 ∧ a_i y 158 e = nI (fk m T e).2.1 ∧ a_i y 159 e = nI m.2.2.1)
  ∧ (spkn m e T = false → a_i y 152 e = 0 ∧ a_i y 153 e = nI (fk m T e).2.2.2.1 ∧ (¬ (fk m T e).2.2.2.1 = 0 → a_i y 154 e = nI (m.1 e)))
theorem RT.fr (k : RT m e T y) (hi : ∀ q, 152 ≤ q → q ≤ 159 → a_i y' q e = a_i y q e) : RT m e T y' := by
  unfold RT
  rw [hi 152 (by omega) (by omega), hi 153 (by omega) (by omega), hi 154 (by omega) (by omega), hi 155 (by omega) (by omega), hi 158 (by omega) (by omega), hi 159 (by omega) (by omega)]
  exact k
end RF3
