/-! go: what stands at its start -/
section GO2
variable {X : PX} {e n m j i T r c d K Z t : Nat} {s x : TS} {h0 h h1 : am_h} {b0 v0 : Int32} {u : Nat → Int32} {VW VS VL : (Nat → Int32) → Int32 → Int32} {g : Nat → Int32} {Q : Option Value → am_h → Prop} {H : Nat → Nat → Bool}
theorem cnt_n {p : Nat → Prop} [DecidablePred p] : ∀ k, ∃ q, q ≤ k ∧ itr (fun i a => a + (if p i then (1 : Int32) else 0)) 0 k 0 = nI q := by
  intro k
  induction k with
  | zero => exact ⟨0, Nat.le_refl _, rfl⟩
  | succ k ih =>
    obtain ⟨q, q1, q2⟩ := ih
    rw [itr_snoc, q2, Nat.zero_add]
    by_cases c : p k
    · rw [if_pos c, nI_s]; exact ⟨q + 1, by omega, rfl⟩
    · rw [if_neg c, Int32.add_zero]; exact ⟨q, by omega, rfl⟩
theorem cn_b {k : Int32} (hT : Nn (s 0 3) ≤ 90) : bt 0 (cn s e k) 90 := by
  obtain ⟨q, q1, q2⟩ := cnt_n (p := fun i => s 10 i = nI e ∧ (k = -1 ∨ s 14 i = k)) (Nn (s 0 3))
  have : cn s e k = nI q := q2
  rw [this]
  unfold bt
  rw [nI_i (by omega)]
  omega
theorem WW_0 (n4 : n ≤ 4) (w : wS n x) (d1 : D1 (fun _ => x 0 1 + 1) x) (dh : Dh x (x 0 1).toInt) (ht : x 0 1 = nI T) (hT : T ≤ 9000) (hs : ∀ c i, ¬ c = 8 → ¬ c = 9 → ¬ (c = 0 ∧ i = 0) → s c i = x c i) (h00 : bt 0 (s 0 0) 3) : WW m n 90 T s := by
  have w0 := w
  obtain ⟨k1, k2, k3, k4, k5, k6, k7, k8, k9, k10⟩ := w
  have b3 := bt_n (m := 90) k3 (by omega) (by omega)
  have e3 := bt_e k3 (by omega) (by omega)
  have sp : ∀ e, e < 4 → x 1 e = 1 → e < n ∧ (∃ i, i < 90 ∧ x 21 e = nI i) ∧ bt 0 (x 23 e) (T + 1 : Nat) := by
    intro e he h1
    obtain ⟨i, i1, i2, i3⟩ := k8 e he h1
    obtain ⟨c1, c2, c3, c4⟩ := k7 i i1
    obtain ⟨a1, a2, a3⟩ := (d1 e he).2.2.2 h1 i i1 i2 i3
    refine ⟨?_, ⟨i, by omega, a1⟩, ?_⟩
    · rw [i2] at c1
      unfold bt at c1
      rw [nI_i (by omega)] at c1
      omega
    · rw [a3]
      obtain ⟨q, q1, q2, q3⟩ := btn c2 (by omega) (by unfold bt at k2; omega)
      have qT : q ≤ T + 1 := by
        unfold bt at c2
        rw [ht, nI_i (by omega)] at c2
        omega
      rw [q1, ht, nI_s, nI_sb (by omega)]
      unfold bt
      rw [nI_i (by omega)]
      omega
  refine ⟨⟨⟨h00, ⟨Nn (x 0 3), by rw [hs 0 3 (by omega) (by omega) (by omega)]; exact e3, b3, fun _ => b3⟩, fun e he => ?_⟩, fun k hk => by rw [hs 7 k (by omega) (by omega) (by omega)]; exact k6 k hk, ?_⟩, ?_, ?_, ?_⟩
  · obtain ⟨a1, a2, a3⟩ := k5 e he
    rw [hs 1 e (by omega) (by omega) (by omega), hs 5 e (by omega) (by omega) (by omega), hs 6 e (by omega) (by omega) (by omega), hs 18 e (by omega) (by omega) (by omega), hs 19 e (by omega) (by omega) (by omega), hs 21 e (by omega) (by omega) (by omega), (d1 e he).1, (d1 e he).2.1]
    refine ⟨a1, a2, ?_, cn_b b3, cn_b b3, fun _ h1 => (sp e he h1).2.1⟩
    unfold bt at a3 k2 ⊢
    omega
  · rw [hs 0 1 (by omega) (by omega) (by omega), ht]
    unfold bt
    rw [nI_i (by omega)]
    omega
  · intro e k he hk hlt
    rw [hs 0 1 (by omega) (by omega) (by omega)] at hlt
    rw [hs _ _ (by omega) (by omega) (by omega), dh e k he hk]
    rintro ⟨z, -⟩
    omega
  · intro f k hf hf4 hk
    rw [hs _ _ (by omega) (by omega) (by omega), dh f k hf4 hk]
    rintro ⟨-, i, i1, i2, -⟩
    have := (k7 i i1).1
    rw [i2] at this
    unfold bt at this
    rw [nI_i (by omega)] at this
    omega
  · intro e he h1
    rw [hs 1 e (by omega) (by omega) (by omega)] at h1
    rw [hs 23 e (by omega) (by omega) (by omega)]
    exact ⟨(sp e he h1).1, (sp e he h1).2.2⟩
/-- places beyond the ends -/
theorem acts_oor {c i : Nat} (hn : n ≤ 4) (hc : (c = 0 ∧ 5 ≤ i) ∨ (1 ≤ c ∧ c ≤ 6 ∧ 4 ≤ i)) : ∀ k, k ≤ n → itr (ACT g VW VS VL m n H) 0 k s c i = s c i := by
  intro k
  induction k with
  | zero => intro _; rfl
  | succ k ih =>
    intro hk
    rw [itr_snoc, Nat.zero_add]
    by_cases q : c = 0
    · rw [ACT_o (by omega)]; exact ih (by omega)
    · rw [ACT_ne (by omega) (by omega)]; exact ih (by omega)
theorem TKS_oor {c i : Nat} (hn : n ≤ 4) (hc : (c = 0 ∧ 5 ≤ i) ∨ (1 ≤ c ∧ c ≤ 6 ∧ 4 ≤ i)) : ∀ t, TKS g VW VS VL m n t s c i = s c i := by
  intro t
  induction t with
  | zero => rfl
  | succ t ih =>
    rw [TKS_s]
    generalize TKS g VW VS VL m n t s = y at ih ⊢
    have : TK g VW VS VL m n y c i = itr (ACT g VW VS VL m n (hB y n)) 0 n (LIS y (hB y n) n) c i := by
      unfold TK CNT
      rw [if_neg (by omega), if_neg (by omega), if_neg (by omega)]
    rw [this, acts_oor hn hc n (Nat.le_refl _)]
    unfold LIS
    rw [if_neg (by omega), if_neg (by omega), if_neg (by omega)]
    exact ih
end GO2
