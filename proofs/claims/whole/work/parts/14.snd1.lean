/-! the locals -/
def am_lv (ad : Nat → Nat) (L : am_L) : List (Nat × Value) := (List.range L.length).filterMap (fun i => (am_ld L i).map (fun v => (i, cV ad v)))
theorem am_ld_lt {L : am_L} {i : Nat} {v : Value} (h : am_ld L i = some v) : i < L.length := by
  unfold am_ld at h
  rcases Nat.lt_or_ge i L.length with q | q
  · exact q
  · rw [List.getElem?_eq_none q] at h
    cases h
theorem am_lv_in {ad : Nat → Nat} {L : am_L} {i : Nat} {v : Value} (h : am_ld L i = some v) : (i, cV ad v) ∈ am_lv ad L := List.mem_filterMap.mpr ⟨i, List.mem_range.mpr (am_ld_lt h), by rw [h]; rfl⟩
theorem am_LR.has {ad : Nat → Nat} {L : am_L} {ls : Array Slot} {n : Nat} (h : am_LR ad L ls n) : lv_has ls n (am_lv ad L) := by
  refine ⟨h.1, h.2.1, fun q hq => ?_⟩
  obtain ⟨i, -, e⟩ := List.mem_filterMap.mp hq
  cases hv : am_ld L i with
  | none => rw [hv] at e; cases e
  | some v =>
    rw [hv] at e
    cases e
    exact h.2.2 i v hv
theorem am_ld_set {L : am_L} {i j : Nat} {o : Option Value} {w : Value} (h : am_ld (L.set i o) j = some w) : (j = i ∧ o = some w) ∨ (j ≠ i ∧ am_ld L j = some w) := by
  unfold am_ld at h ⊢
  rw [List.getElem?_set] at h
  split at h
  · rename_i e
    subst e
    split at h
    · exact Or.inl ⟨rfl, h⟩
    · cases h
  · rename_i e
    exact Or.inr ⟨fun q => e q.symm, h⟩
theorem am_ld_k {L : am_L} {i j : Nat} {w : Value} (h : am_ld (am_k L i) j = some w) : am_ld L j = some w ∧ ¬ (j + 1 = i ∧ w.category = 2) := by
  cases i with
  | zero => exact ⟨h, fun q => by omega⟩
  | succ k =>
    unfold am_k at h
    simp only at h
    cases hk : am_ld L k with
    | none =>
      rw [hk] at h
      refine ⟨h, fun q => ?_⟩
      have : j = k := by omega
      subst this
      simp only at h
      rw [hk] at h
      cases h
    | some u =>
      rw [hk] at h
      simp only at h
      split at h
      · rcases am_ld_set h with ⟨_, q⟩ | ⟨q, r⟩
        · cases q
        · exact ⟨r, fun z => q (by omega)⟩
      · rename_i hc
        refine ⟨h, fun q => ?_⟩
        have : j = k := by omega
        subst this
        rw [hk] at h
        cases h
        exact hc q.2
theorem am_LR.s1 {ad : Nat → Nat} {L : am_L} {ls' : Array Slot} {n i : Nat} {v : Value} (h : lv_has ls' n ((i, cV ad v) :: (am_lv ad L).filter (fun q => !(q.1 == i) && !(q.1 + 1 == i && q.2.category == 2)))) : am_LR ad (am_s1 L i v) ls' n := by
  refine ⟨h.1, h.2.1, fun j w hw => ?_⟩
  rcases am_ld_set hw with ⟨rfl, q⟩ | ⟨q, r⟩
  · cases q
    exact h.2.2 _ List.mem_cons_self
  · obtain ⟨r1, r2⟩ := am_ld_k r
    refine h.2.2 (j, cV ad w) (List.mem_cons_of_mem _ (List.mem_filter.mpr ⟨am_lv_in r1, ?_⟩))
    simp only [Bool.and_eq_true, Bool.not_eq_true', beq_eq_false_iff_ne, ne_eq, Bool.and_eq_false_iff, cV_cat]
    refine ⟨q, ?_⟩
    by_cases hj : j + 1 = i
    · exact Or.inr (fun z => r2 ⟨hj, z⟩)
    · exact Or.inl hj
theorem am_LR.s2 {ad : Nat → Nat} {L : am_L} {ls' : Array Slot} {n i : Nat} {v : Value} (h : lv_has ls' n ((i, cV ad v) :: (am_lv ad L).filter (fun q => !(q.1 == i) && (!(q.1 == i + 1) && !(q.1 + 1 == i && q.2.category == 2))))) : am_LR ad (am_s2 L i v) ls' n := by
  refine ⟨h.1, h.2.1, fun j w hw => ?_⟩
  rcases am_ld_set hw with ⟨_, q⟩ | ⟨q0, r⟩
  · cases q
  · rcases am_ld_set r with ⟨rfl, q⟩ | ⟨q, r⟩
    · cases q
      exact h.2.2 _ List.mem_cons_self
    · obtain ⟨r1, r2⟩ := am_ld_k r
      refine h.2.2 (j, cV ad w) (List.mem_cons_of_mem _ (List.mem_filter.mpr ⟨am_lv_in r1, ?_⟩))
      simp only [Bool.and_eq_true, Bool.not_eq_true', beq_eq_false_iff_ne, ne_eq, Bool.and_eq_false_iff, cV_cat]
      refine ⟨q, q0, ?_⟩
      by_cases hj : j + 1 = i
      · exact Or.inr (fun z => r2 ⟨hj, z⟩)
      · exact Or.inl hj
theorem am_LR.en {ad : Nat → Nat} {n : Nat} {as : List Value} (h : (am_ag as).length ≤ n) : am_LR ad (am_en n as) ((lg_sl (as.map (cV ad)) ++ List.replicate (n - (lg_sl (as.map (cV ad))).length) Slot.unset).toArray) n := by
  have hlen : (lg_sl (as.map (cV ad))).length = (am_ag as).length := by
    clear h
    induction as with
    | nil => rfl
    | cons v vs ih =>
      simp only [List.map_cons, lg_sl, List.flatMap_cons, List.length_append, am_ag, cV_cat]
      unfold lg_sl at ih
      rw [ih]
      split <;> simp <;> omega
  have hh := lv_entry (as.map (cV ad)) (n := n) (by rw [hlen]; exact h)
  refine ⟨hh.1, hh.2.1, fun i v hv => ?_⟩
  refine hh.2.2 (i, cV ad v) ?_
  have key : ∀ (vs : List Value) (k j : Nat) (w : Value), am_ld (am_ag vs) j = some w → (k + j, cV ad w) ∈ lv_args k (vs.map (cV ad)) := by
    intro vs
    induction vs with
    | nil => intro k j w hw; unfold am_ag am_ld at hw; simp at hw
    | cons u vs ih =>
      intro k j w hw
      simp only [List.map_cons, lv_args, cV_cat]
      unfold am_ag at hw
      split at hw
      · rename_i hc
        simp only [hc, if_true]
        rcases j with _ | _ | j
        · unfold am_ld at hw
          simp at hw
          subst hw
          exact List.mem_cons_self
        · unfold am_ld at hw
          simp at hw
        · refine List.mem_cons_of_mem _ ?_
          have := ih (k + 2) j w (by unfold am_ld at hw ⊢; simpa using hw)
          rw [show k + (j + 1 + 1) = k + 2 + j by omega]
          exact this
      · rename_i hc
        simp only [hc, if_false]
        rcases j with _ | j
        · unfold am_ld at hw
          simp at hw
          subst hw
          exact List.mem_cons_self
        · refine List.mem_cons_of_mem _ ?_
          have := ih (k + 1) j w (by unfold am_ld at hw ⊢; simpa using hw)
          rw [show k + (j + 1) = k + 1 + j by omega]
          exact this
  have hv2 : am_ld (am_ag as) i = some v := by
    unfold am_en am_ld at hv
    unfold am_ld
    rcases Nat.lt_or_ge i (am_ag as).length with q | q
    · rw [List.getElem?_append_left q] at hv
      exact hv
    · rw [List.getElem?_append_right q] at hv
      rw [List.getElem?_replicate] at hv
      split at hv <;> cases hv
  have := key as 0 i v hv2
  rw [Nat.zero_add] at this
  exact this
/-! field types and owners -/
def am_tyb (ty : FieldType) : Bool := match ty with
  | .float => false
  | .double => false
  | _ => true
theorem am_tbOK : ∀ ci, ci < 13 → ∀ k, k < am_sz ci → am_tyb (am_ty ci k) = true := by decide +kernel
theorem am_dcOK : ∀ ci, ci < 13 → ∀ k, k < am_sz ci → (am_tb ci k).1 = am_on ci := by decide +kernel
