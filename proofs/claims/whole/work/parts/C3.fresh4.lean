/-! two fresh ends: rows go on -/
section FRESH4
variable {m : FMo} {e T t u s : Nat} {n n' : Nat} {bg en kd bg' en' kd' : Nat → Nat}
def un (f : Nat → Nat) (k v : Nat) : Nat → Nat := fun j => if j = k then v else f j
theorem une {f : Nat → Nat} {k v j : Nat} (h : j = k) : un f k v j = v := if_pos h
theorem unn {f : Nat → Nat} {k v j : Nat} (h : ¬ j = k) : un f k v j = f j := if_neg h
theorem fD_0 (h1 : 1 ≤ m.2.1 (1 - e)) (b0 : bg 0 = 0) (e0 : en 0 = 0) : fD m e 2 1 bg en kd := by
  refine ⟨Nat.le_refl _, b0, fun i hi => ?_, fun i hi => by omega, fun t ht => ?_, fun t ht => ?_, fun t ht => ?_⟩
  · have : i = 0 := by omega
    subst this
    rw [b0, e0]
    exact ⟨by omega, hrd_0 h1, fun _ => rfl, fun c => absurd rfl c⟩
  · have : t = 0 := by omega
    subst this
    refine ⟨fun c => absurd rfl c, fun ⟨i, hi, h2, h3⟩ => ?_⟩
    exact absurd h2 h3
  · have : t = 0 := by omega
    subst this
    exact ⟨fun _ => ⟨0, by omega, b0⟩, fun _ => rfl⟩
  · have : t = 0 := by omega
    subst this
    exact ⟨fun _ => ⟨0, by omega, by omega, Or.inl e0⟩, fun _ => rfl⟩
/-- the rows of a turn alone matter -/
theorem fD.cg (k : fD m e s n bg en kd) (hb : ∀ i, i < n → bg' i = bg i) (he : ∀ i, i < n → en' i = en i) (hk : ∀ i, i < n → kd' i = kd i) : fD m e s n bg' en' kd' := by
  obtain ⟨k1, k2, k3, k4, k5, k6, k7⟩ := k
  refine ⟨k1, by rw [hb 0 k1]; exact k2, fun i hi => ?_, fun i hi => ?_, fun t ht => ?_, fun t ht => ?_, fun t ht => ?_⟩
  · rw [hb i hi, he i hi, hk i hi]; exact k3 i hi
  · rw [he i (by omega), hb _ hi]; exact k4 i hi
  · rw [k5 t ht]
    exact ⟨fun ⟨i, a, b, c⟩ => ⟨i, a, by rw [he i a]; exact b, by rw [he i a]; exact c⟩, fun ⟨i, a, b, c⟩ => ⟨i, a, by rw [← he i a]; exact b, by rw [← he i a]; exact c⟩⟩
  · rw [k6 t ht]
    exact ⟨fun ⟨i, a, b⟩ => ⟨i, a, by rw [hb i a]; exact b⟩, fun ⟨i, a, b⟩ => ⟨i, a, by rw [← hb i a]; exact b⟩⟩
  · rw [k7 t ht]
    exact ⟨fun ⟨i, a, b, c⟩ => ⟨i, a, by rw [hb i a]; exact b, by rw [he i a]; exact c⟩, fun ⟨i, a, b, c⟩ => ⟨i, a, by rw [← hb i a]; exact b, by rw [← he i a]; exact c⟩⟩
/-- nothing begins or ends in a tenth -/
theorem fD.no (h1 : 1 ≤ m.2.1 (1 - e)) (k : fD m e s n bg en kd) (hs : s = 2 * T ∧ enA m e T = 0 ∨ s = 2 * T + 1 ∧ en (n - 1) = T ∧ ¬ T = 0) (T0 : ¬ T = 0) (nb : bgA m e T = false) : fD m e (2 * T + 2) n bg en kd := by
  obtain ⟨k1, k2, k3, k4, k5, k6, k7⟩ := k
  obtain ⟨T', rfl⟩ : ∃ T', T = T' + 1 := ⟨T - 1, by omega⟩
  have ev := fk_ev (T := T') h1
  refine ⟨k1, k2, fun i hi => ?_, k4, fun t ht => ?_, fun t ht => ?_, fun t ht => ?_⟩
  · obtain ⟨z1, z2, z3, z4⟩ := k3 i hi
    exact ⟨by omega, z2, z3, fun c => ⟨(z4 c).1, by have := (z4 c).2.1; omega, (z4 c).2.2⟩⟩
  · by_cases c : 2 * t < s
    · exact k5 t c
    · have tT : t = T' + 1 := by omega
      subst tT
      rcases hs with ⟨hs, hs2⟩ | ⟨hs, hs2⟩
      · refine ⟨fun q => absurd hs2 q, fun ⟨i, a, b, c⟩ => ?_⟩
        have := ((k3 i a).2.2.2 c).2.1
        omega
      · omega
  · by_cases c : 2 * t + 1 < s
    · exact k6 t c
    · have tT : t = T' + 1 := by omega
      subst tT
      rw [nb]
      refine ⟨fun q => (by cases q), fun ⟨i, a, b⟩ => ?_⟩
      have := (k3 i a).1
      omega
  · by_cases c : 2 * t + 1 < s
    · exact k7 t c
    · have tT : t = T' + 1 := by omega
      subst tT
      rw [ev.1, nb]
      rcases hs with ⟨hs, hs2⟩ | ⟨hs, hs2, _⟩
      · rw [hs2]
        have := k7 T' (by omega)
        constructor
        · rintro (q | ⟨q, _⟩)
          · cases q
          · obtain ⟨i, a, b, c⟩ := this.mp q
            refine ⟨i, a, by omega, ?_⟩
            by_cases c0 : en i = 0
            · exact Or.inl c0
            · have := ((k3 i a).2.2.2 c0).2.1; omega
        · rintro ⟨i, a, b, c⟩
          refine Or.inr ⟨this.mpr ⟨i, a, by have := (k3 i a).1; omega, ?_⟩, rfl⟩
          by_cases c0 : en i = 0
          · exact Or.inl c0
          · have := ((k3 i a).2.2.2 c0).2.1; omega
      · have e1 : ¬ enA m e (T' + 1) = 0 := (k5 (T' + 1) (by omega)).mpr ⟨n - 1, by omega, hs2, by omega⟩
        constructor
        · rintro (q | ⟨_, q⟩)
          · cases q
          · exact absurd q e1
        · rintro ⟨i, a, b, c⟩
          exfalso
          by_cases c0 : en i = 0
          · have := (k3 i a).2.2.1 c0
            rw [show i = n - 1 by omega] at c0
            omega
          · have := ((k3 i a).2.2.2 c0).2.1; omega
/-- one ends -/
theorem fD.enx (h1 : 1 ≤ m.2.1 (1 - e)) (hL : 1 ≤ m.2.2.1) (k : fD m e (2 * T) n bg en kd) (z : en (n - 1) = 0) (ne : ¬ enA m e T = 0) (T0 : ¬ T = 0) {v : Nat} (hv : v = enA m e T) : fD m e (2 * T + 1) n bg (un en (n - 1) T) (un kd (n - 1) v) := by
  subst hv
  have kk := k
  obtain ⟨k1, k2, k3, k4, k5, k6, k7⟩ := k
  obtain ⟨T', rfl⟩ : ∃ T', T = T' + 1 := ⟨T - 1, by omega⟩
  have b1 := (k3 (n - 1) (by omega)).1
  obtain ⟨q1, q2⟩ := kk.sp h1 z (t := T') (by omega) (by omega)
  have E := fEn_at h1 q1
  rw [q2] at E
  obtain ⟨E1, E2, E3⟩ := E
  obtain ⟨f1, f2, f3, f4, f5⟩ := (fK_inv h1 T').1 q1
  rw [q2] at f4
  refine ⟨k1, k2, fun i hi => ?_, fun i hi => ?_, fun t ht => ?_, fun t ht => ?_, fun t ht => ?_⟩
  · by_cases c : i = n - 1
    · subst c
      rw [une rfl, une rfl]
      refine ⟨by omega, (k3 _ hi).2.1, fun q => by omega, fun _ => ⟨by omega, by omega, rfl, ?_⟩⟩
      by_cases Y : ¬ m.2.2.2 = 0 ∧ bg (n - 1) + m.2.2.2 ≤ T' + 1 ∧ ∀ t, T' + 1 < t + m.2.2.2 → t ≤ T' + 1 → hrd m e t = true
      · exact Or.inl ⟨E1 Y, Y.1, Y.2.1⟩
      · by_cases c : bg (n - 1) + m.2.2.1 ≤ T' + 1
        · refine Or.inr ⟨E2 Y c, ?_⟩
          by_cases c2 : T' = bg (n - 1)
          · omega
          · have := (f4 T' (by omega) (Nat.le_refl _)).2.2 c2
            omega
        · exact absurd (E3 Y c) ne
    · rw [unn c, unn c]
      obtain ⟨z1, z2, z3, z4⟩ := k3 i hi
      exact ⟨by omega, z2, z3, fun c => ⟨(z4 c).1, by have := (z4 c).2.1; omega, (z4 c).2.2⟩⟩
  · rw [unn (by omega)]; exact k4 i hi
  · by_cases c : t = T' + 1
    · subst c
      exact ⟨fun _ => ⟨n - 1, by omega, une rfl, by rw [une rfl]; omega⟩, fun _ => ne⟩
    · rw [k5 t (by omega)]
      constructor
      · rintro ⟨i, a, b, c3⟩
        have : ¬ i = n - 1 := fun q => by rw [q] at c3; exact c3 z
        exact ⟨i, a, by rw [unn this]; exact b, by rw [unn this]; exact c3⟩
      · rintro ⟨i, a, b, c3⟩
        by_cases q : i = n - 1
        · rw [une q] at b; omega
        · rw [unn q] at b c3
          exact ⟨i, a, b, c3⟩
  · exact k6 t (by omega)
  · rw [k7 t (by omega)]
    constructor
    · rintro ⟨i, a, b, c3⟩
      by_cases q : i = n - 1
      · exact ⟨i, a, b, Or.inr (by rw [une q]; omega)⟩
      · exact ⟨i, a, b, by rw [unn q]; exact c3⟩
    · rintro ⟨i, a, b, c3⟩
      by_cases q : i = n - 1
      · exact ⟨i, a, b, Or.inl (by rw [q]; exact z)⟩
      · exact ⟨i, a, b, by rw [unn q] at c3; exact c3⟩
theorem fk_bg (h1 : 1 ≤ m.2.1 (1 - e)) (c : bgA m e (T + 1) = true) : spkn m e (T + 1) = true ∧ hrd m e (T + 1) = false := by
  unfold bgA at c
  unfold spkn
  rcases fk_cs (T := T) h1 with ⟨a1, a2, a3⟩ | ⟨a1, n, a2, a3, a4⟩ | ⟨a1, a2, a3⟩ | ⟨a1, a2, a3, a4⟩ | ⟨a1, a2, a3, a4⟩
  · rw [a3] at c; cases c
  · rcases a4 with ⟨c1, c2⟩ | ⟨c1, c2, c3⟩ | ⟨c1, c2, c3⟩
    · rw [c2] at c; cases c
    · rw [c3] at c; cases c
    · exact ⟨by rw [c3], c1⟩
  · rw [a3] at c; cases c
  · rw [a4] at c; cases c
  · exact ⟨by rw [a4], a2⟩
/-- one begins -/
theorem fD.bgx (h1 : 1 ≤ m.2.1 (1 - e)) (k : fD m e s n bg en kd) (z : ¬ en (n - 1) = 0) (hs : s = 2 * T ∨ s = 2 * T + 1 ∧ en (n - 1) = T) (T0 : ¬ T = 0) (nb : bgA m e T = true) : fD m e (2 * T + 2) (n + 1) (un bg n T) (un en n 0) (un kd n 0) := by
  have kk := k
  obtain ⟨k1, k2, k3, k4, k5, k6, k7⟩ := k
  obtain ⟨T', rfl⟩ : ∃ T', T = T' + 1 := ⟨T - 1, by omega⟩
  obtain ⟨sp, hh⟩ := fk_bg h1 nb
  have allen : ∀ i, i < n → ¬ en i = 0 := fun i hi c => by
    have := (k3 i hi).2.2.1 c
    rw [show i = n - 1 by omega] at c
    exact z c
  have ev := fk_ev (T := T') h1
  have el := (k3 (n - 1) (by omega)).2.2.2 z
  refine ⟨by omega, by rw [unn (by omega)]; exact k2, fun i hi => ?_, fun i hi => ?_, fun t ht => ?_, fun t ht => ?_, fun t ht => ?_⟩
  · by_cases c : i = n
    · subst c
      rw [une rfl, une rfl]
      exact ⟨by omega, hh, fun _ => rfl, fun q => absurd rfl q⟩
    · rw [unn c, unn c, unn c]
      obtain ⟨z1, z2, z3, z4⟩ := k3 i (by omega)
      exact ⟨by omega, z2, fun q => absurd q (allen i (by omega)), fun c => ⟨(z4 c).1, by have := (z4 c).2.1; omega, (z4 c).2.2⟩⟩
  · by_cases c : i + 1 = n
    · rw [une c, unn (by omega), show i = n - 1 by omega]
      omega
    · rw [unn (by omega), unn (by omega)]; exact k4 i (by omega)
  · have old : (∃ i, i < n ∧ en i = t ∧ ¬ en i = 0) ↔ ∃ i, i < n + 1 ∧ un en n 0 i = t ∧ ¬ un en n 0 i = 0 := by
      constructor
      · rintro ⟨i, a, b, c⟩
        exact ⟨i, by omega, by rw [unn (by omega)]; exact b, by rw [unn (by omega)]; exact c⟩
      · rintro ⟨i, a, b, c⟩
        by_cases q : i = n
        · rw [une q] at c; exact absurd rfl c
        · rw [unn q] at b c
          exact ⟨i, by omega, b, c⟩
    rw [← old]
    by_cases c : 2 * t < s
    · exact k5 t c
    · have tT : t = T' + 1 := by omega
      subst tT
      have s2 : s = 2 * (T' + 1) := by omega
      refine ⟨fun q => ?_, fun ⟨i, a, b, c⟩ => ?_⟩
      · have q1 := ev.2.1 q
        have := (kk.sl h1 z (t := T') (by omega) (by omega)).1
        rw [this] at q1
        cases q1
      · have := ((k3 i a).2.2.2 c).2.1
        omega
  · by_cases c : t = T' + 1
    · subst c
      exact ⟨fun _ => ⟨n, by omega, une rfl⟩, fun _ => nb⟩
    · rw [k6 t (by omega)]
      constructor
      · rintro ⟨i, a, b⟩
        exact ⟨i, by omega, by rw [unn (by omega)]; exact b⟩
      · rintro ⟨i, a, b⟩
        by_cases q : i = n
        · rw [une q] at b; omega
        · rw [unn q] at b
          exact ⟨i, by omega, b⟩
  · by_cases c : t = T' + 1
    · subst c
      exact ⟨fun _ => ⟨n, by omega, by rw [une rfl]; exact Nat.le_refl _, Or.inl (une rfl)⟩, fun _ => sp⟩
    · rw [k7 t (by omega)]
      constructor
      · rintro ⟨i, a, b, c3⟩
        exact ⟨i, by omega, by rw [unn (by omega)]; exact b, by rw [unn (by omega)]; exact c3⟩
      · rintro ⟨i, a, b, c3⟩
        by_cases q : i = n
        · rw [une q] at b; omega
        · rw [unn q] at b c3
          exact ⟨i, by omega, b, c3⟩
end FRESH4
