/-! all that holds when both sides were just made -/
section FIRST3
variable {h0 : am_h} {d : Nat}
theorem sw_n {h : am_h} {p : Nat} {f : Nat → Int32} : a_n (s_w h p f) = a_n h ∧ a_z (s_w h p f) = a_z h ∧ a_t (s_w h p f) = a_t h ∧ a_r (s_w h p f) = a_r h ∧ a_l (s_w h p f) = a_l h := ⟨rfl, rfl, rfl, rfl, rfl⟩
/-- the heap that the law begins with -/
def B0 (h0 : am_h) : Prop := a_n h0 = 0 ∧ a_z h0 = 0 ∧ (∀ q j p, a_r h0 q j = some p → 1000000 ≤ p) ∧ (∀ q, (a_t h0 q).1 = 42 → 1000000 ≤ q) ∧ ∀ q, 1000000 ≤ q → 40 ≤ (a_t h0 q).1
theorem h1_n : a_n (h1S h0) = 177 := by
  unfold h1S hS
  rw [sw_n.1, cH_n, tabC_l]
theorem cZ_tab : cZ tabC ≤ 78000 := by decide +kernel
theorem h1_z (z : a_z h0 = 0) : a_z (h1S h0) ≤ 78000 := by
  have e : a_z (h1S h0) = a_z h0 + cZ tabC := by
    unfold h1S hS
    rw [sw_n.2.1, cH_z]
  rw [e, z, Nat.zero_add]; exact cZ_tab
theorem h1_t : a_t (h1S h0) = a_t (hS h0) := sw_n.2.2.1
theorem h1_r : a_r (h1S h0) = a_r (hS h0) := sw_n.2.2.2.1
theorem h1_l : a_l (h1S h0) = a_l (hS h0) := sw_n.2.2.2.2
theorem h1_rr {p j : Nat} (l : p < 177) : a_r (h1S h0) p j = rT p j := by rw [h1_r]; exact hS_r l
theorem h1_ll {p j : Nat} (l : p < 177) : a_l (h1S h0) p j = 0 := by rw [h1_l]; exact hS_l l
theorem h1_shC : sh_C (a_t (h1S h0)) (a_r (h1S h0)) := by rw [h1_r, h1_t]; exact hS_shC
theorem h1_shR : sh_R (a_t (h1S h0)) (a_r (h1S h0)) := by rw [h1_r, h1_t]; exact hS_shR
theorem lk_m {l : List (Nat × Nat)} {j p : Nat} (e : l.lookup j = some p) : ∃ k, (k, p) ∈ l := by
  induction l with
  | nil => exact absurd e (by simp)
  | cons x l ih =>
    rw [List.lookup_cons] at e
    split at e
    · obtain rfl := Option.some.inj e
      exact ⟨x.1, List.mem_cons_self⟩
    · obtain ⟨k, m⟩ := ih e
      exact ⟨k, List.mem_cons_of_mem _ m⟩
theorem r25 {o i : Nat} (ho : o = 0 ∨ o = 33) : a_r (h1S h0) (25 + o) i = none := by
  rw [h1_r]
  have e1 : (cg tabC 25).2.1 = [] := by decide +kernel
  have e2 : (cg tabC 58).2.1 = [] := by decide +kernel
  rcases ho with rfl | rfl
  · rw [hS_r (by omega)]; unfold rT; rw [show 25 + 0 = 25 from rfl, e1]; rfl
  · rw [hS_r (by omega)]; unfold rT; rw [show 25 + 33 = 58 from rfl, e2]; rfl
theorem r07 : a_r (h1S h0) 0 7 = none := by
  rw [h1_r, hS_r (by omega)]
  decide +kernel
theorem nul_1 : nul (a_r (h1S h0)) = 60 := by
  have e : nul (a_r (h1S h0)) = nul rT := by
    unfold nul
    have f : ∀ i, a_r (h1S h0) 25 i = rT 25 i ∧ a_r (h1S h0) 58 i = rT 58 i := fun i => ⟨h1_rr (by omega), h1_rr (by omega)⟩
    simp only [(f _).1, (f _).2]
  rw [e]
  decide +kernel
theorem first_inv (b : B0 h0) : Inv XP (h1S h0) := by
  refine ⟨⟨h1_shC, h1_shR, ⟨by rw [h1_n]; omega, fun o i p ho hi e => ?_, fun o i p o' i' p' ho ho' hi hi' e => ?_⟩, Or.inl r07, ?_⟩, ?_, ?_, ⟨?_, ?_, ?_, ?_, fun k hk => ?_⟩, ?_, fun t ht => ?_⟩
  · rw [r25 ho] at e; exact absurd e (by simp)
  · rw [r25 ho] at e; exact absurd e (by simp)
  · unfold rRm
    rw [h1_n, nul_1, if_pos r07, if_pos r07]
    have := h1_z b.2.1
    omega
  · rw [h1_g]
    exact g0_rC (fun p j l => h1_i (by omega) (by omega)) (fun p j l => h1_ll (by omega)) (fun i _ => r25 (o := 0) (Or.inl rfl)) (Or.inl rfl)
  · rw [h1_g2]
    exact g0_rC (fun p j l => h1_i (by omega) (by omega)) (fun p j l => h1_ll (by omega)) (fun i _ => r25 (o := 33) (Or.inr rfl)) (Or.inr rfl)
  · rw [h1_i (by omega) (by omega), h1_i (by omega) (by omega)]; decide +kernel
  · rw [h1_i (by omega) (by omega)]; unfold bt; decide +kernel
  · rw [h1_i (by omega) (by omega), h1_i (by omega) (by omega)]; decide +kernel
  · rw [h1_i (by omega) (by omega), h1_i (by omega) (by omega)]; decide +kernel
  · exact (nn0 (by rw [h1_i (by omega) (by omega)]; decide +kernel) hk).elim
  · rw [h1_g, h1_g2]; exact Int.le_refl _
  · exact (nn0 (by rw [h1_g]; decide +kernel) ht).elim
theorem first_sep (b : B0 h0) : sepH (h1S h0) := by
  obtain ⟨b1, b2, b3, b4, b5⟩ := b
  have kd : ∀ q, q < 177 → (tT q).1 ≠ 42 := by decide +kernel
  have t42 : ∀ q, (a_t (h1S h0) q).1 = 42 → 1000000 ≤ q := fun q e => by
    rw [h1_t] at e
    by_cases c : q < 177
    · rw [hS_t c] at e; exact absurd e (kd q c)
    · rw [(hS_o (by omega)).1] at e; exact b4 q e
  have m1 : ∀ q, q < 126 → ∀ e, e ∈ (cg tabC q).2.1 → e.2 < 126 := by decide +kernel
  have m2 : ∀ q, q < 51 → ∀ e, e ∈ (cg tabC (126 + q)).2.1 → 126 ≤ e.2 ∧ e.2 < 177 := by decide +kernel
  have old : ∀ q j p, 177 ≤ q → a_r (h1S h0) q j = some p → 1000000 ≤ p := fun q j p l e => by
    rw [h1_r, ((hS_o l).2 j).1] at e; exact b3 q j p e
  have own : ∀ q j p, q < 177 → a_r (h1S h0) q j = some p → ∃ k, (k, p) ∈ (cg tabC q).2.1 := fun q j p l e => by
    rw [h1_r, hS_r l] at e; exact lk_m e
  refine ⟨fun q nq => ⟨fun j p e => ?_, fun e => ?_⟩, fun q nq => ⟨fun j p e => ?_, fun e => ?_⟩, fun q l => ?_, t42, by rw [h1_n]; omega⟩
  · unfold hC at nq ⊢
    by_cases c : q < 126
    · obtain ⟨k, m⟩ := own q j p (by omega) e
      have := m1 q c _ m
      simp only at this
      omega
    · have := old q j p (by omega) e
      omega
  · have := t42 q e
    unfold hC; omega
  · unfold hR at nq ⊢
    by_cases c : q < 177
    · obtain ⟨k, m⟩ := own q j p c e
      have := m2 (q - 126) (by omega) (k, p) (by rw [show 126 + (q - 126) = q by omega]; exact m)
      simp only at this
      omega
    · have := old q j p (by omega) e
      omega
  · have := t42 q e
    unfold hR; omega
  · rw [h1_t, (hS_o (by omega)).1]; exact b5 q l
theorem first_old : oldP h0 (h1S h0) := fun q l _ => by
  obtain ⟨x1, x2⟩ := hS_o (h0 := h0) (p := q) (by omega)
  rw [h1_t, h1_l, h1_r]
  refine ⟨x1, fun j => ⟨?_, (x2 j).2.2, (x2 j).1⟩⟩
  rw [← (x2 j).2.1]
  unfold h1S
  exact sw_ne (by omega)
theorem first_W (b : B0 h0) : LWI h0 (h1S h0) := ⟨first_inv b, first_sep b, first_old⟩
end FIRST3
