/-! what is seen changes alike -/
section FRAME2
variable {N : Nat → Prop} {al : Prop} {h y h' y' : am_h} {L : am_L} {S : List Value} {pc p k : Nat}
theorem fr_up (hL : lok N L) (hS : sok N S) (k : stN N al h y h' y') : frO N al h y (nx pc L S h') (nx pc L S y') := Or.inr ⟨y', rfl, hL, hS, k⟩
theorem st_si {v : Int32} (w : prN N al h y) (hp : ¬ N p) : stN N al h y (s_i h p k v) (s_i y p k v) := by
  refine ⟨w.1, fun q c => ?_, fun q c => ?_, fun q c => ?_, Nat.le_refl _, fun a => (w.2.2.1 a).1, fun _ => ⟨rfl, rfl⟩, fun _ z => z⟩
  · obtain ⟨z1, z2⟩ := w.2.1 q c
    refine ⟨z1, fun j => ⟨?_, (z2 j).2.1, (z2 j).2.2⟩⟩
    show (if q = p ∧ j = k then v else a_i y q j) = (if q = p ∧ j = k then v else a_i h q j)
    rw [(z2 j).1]
  · exact ⟨rfl, fun j => ⟨ine (fun z => hp (z.1 ▸ c)), rfl, rfl⟩⟩
  · exact ⟨rfl, fun j => ⟨ine (fun z => hp (z.1 ▸ c)), rfl, rfl⟩⟩
theorem st_sl {v : Int64} (w : prN N al h y) (hp : ¬ N p) : stN N al h y (s_l h p k v) (s_l y p k v) := by
  refine ⟨w.1, fun q c => ?_, fun q c => ?_, fun q c => ?_, Nat.le_refl _, fun a => (w.2.2.1 a).1, fun _ => ⟨rfl, rfl⟩, fun _ z => z⟩
  · obtain ⟨z1, z2⟩ := w.2.1 q c
    refine ⟨z1, fun j => ⟨(z2 j).1, ?_, (z2 j).2.2⟩⟩
    show (if q = p ∧ j = k then v else a_l y q j) = (if q = p ∧ j = k then v else a_l h q j)
    rw [(z2 j).2.1]
  · exact ⟨rfl, fun j => ⟨rfl, if_neg (fun (z : q = p ∧ j = k) => hp (z.1 ▸ c)), rfl⟩⟩
  · exact ⟨rfl, fun j => ⟨rfl, if_neg (fun (z : q = p ∧ j = k) => hp (z.1 ▸ c)), rfl⟩⟩
theorem st_sr {v : Option Nat} (w : prN N al h y) (hp : ¬ N p) (hv : ∀ q, v = some q → ¬ N q) : stN N al h y (s_r h p k v) (s_r y p k v) := by
  refine ⟨fun q c => ⟨fun j x e => ?_, (w.1 q c).2⟩, fun q c => ?_, fun q c => ?_, fun q c => ?_, Nat.le_refl _, fun a => (w.2.2.1 a).1, fun _ => ⟨rfl, rfl⟩, fun _ z => z⟩
  · have e' : (if q = p ∧ j = k then v else a_r h q j) = some x := e
    split at e'
    · exact hv x e'
    · exact (w.1 q c).1 j x e'
  · obtain ⟨z1, z2⟩ := w.2.1 q c
    refine ⟨z1, fun j => ⟨(z2 j).1, (z2 j).2.1, ?_⟩⟩
    show (if q = p ∧ j = k then v else a_r y q j) = (if q = p ∧ j = k then v else a_r h q j)
    rw [(z2 j).2.2]
  · exact ⟨rfl, fun j => ⟨rfl, rfl, rne (fun z => hp (z.1 ▸ c))⟩⟩
  · exact ⟨rfl, fun j => ⟨rfl, rfl, rne (fun z => hp (z.1 ▸ c))⟩⟩
theorem st_nw {t z : Nat} (w : prN N al h y) (a : al) (ht : ¬ t = 42) : stN N al h y (s_nw h t z) (s_nw y t z) := by
  obtain ⟨a1, a2⟩ := w.2.2.1 a
  have n1 : a_n y = a_n h := congrArg Prod.fst a1.symm
  have z1 : a_z y = a_z h := congrArg Prod.snd a1.symm
  have nN : ∀ q, N q → ¬ q = a_n h := fun q c e => a2 q (by omega) c
  refine ⟨fun q c => ⟨fun j x e => ?_, fun e => ?_⟩, fun q c => ?_, fun q c => ?_, fun q c => ?_, by rw [nw_n]; omega, fun _ => ?_, fun e => absurd e (by rw [nw_n]; omega), fun q e => ?_⟩
  · by_cases e1 : q = a_n h
    · rw [nwr1 e1] at e; cases e
    · rw [nwr0 e1] at e; exact (w.1 q c).1 j x e
  · by_cases e1 : q = a_n h
    · rw [nwt1 e1] at e; exact absurd e ht
    · rw [nwt0 e1] at e; exact (w.1 q c).2 e
  · obtain ⟨x1, x2⟩ := w.2.1 q c
    by_cases e1 : q = a_n h
    · have e2 : q = a_n y := by rw [n1]; exact e1
      refine ⟨by rw [nwt1 e1, nwt1 e2], fun j => ⟨by rw [nwi1 e1, nwi1 e2], ?_, by rw [nwr1 e1, nwr1 e2]⟩⟩
      exact (if_pos e2).trans (if_pos e1).symm
    · have e2 : ¬ q = a_n y := by rw [n1]; exact e1
      exact ⟨by rw [nwt0 e1, nwt0 e2, x1], fun j => ⟨by rw [nwi0 e1, nwi0 e2, (x2 j).1], by rw [nwl0 e1, nwl0 e2, (x2 j).2.1], by rw [nwr0 e1, nwr0 e2, (x2 j).2.2]⟩⟩
  · have e1 := nN q c
    exact ⟨nwt0 e1, fun j => ⟨nwi0 e1, nwl0 e1, nwr0 e1⟩⟩
  · have e1 : ¬ q = a_n y := by rw [n1]; exact nN q c
    exact ⟨nwt0 e1, fun j => ⟨nwi0 e1, nwl0 e1, nwr0 e1⟩⟩
  · show ((a_n h + 1, a_z h + z) : Nat × Nat) = (a_n y + 1, a_z y + z)
    rw [n1, z1]
  · by_cases e1 : q = a_n h
    · rw [nwt1 e1] at e; exact absurd e ht
    · rw [nwt0 e1] at e; exact e
theorem st_mn {n m : Nat} (w : prN N al h y) (a : al) : stN N al h y (s_mn h n m) (s_mn y n m) := by
  obtain ⟨a1, a2⟩ := w.2.2.1 a
  have n1 : a_n y = a_n h := congrArg Prod.fst a1.symm
  have z1 : a_z y = a_z h := congrArg Prod.snd a1.symm
  have nN : ∀ q, N q → q < a_n h := fun q c => Nat.lt_of_not_le (fun e => a2 q e c)
  have T : ∀ (h : am_h) q, a_t (s_mn h n m) q = if q = a_n h then (26, n) else if a_n h < q ∧ q < a_n h + (1 + n) then (20, m) else a_t h q := fun _ _ => rfl
  have I : ∀ (h : am_h) q j, a_i (s_mn h n m) q j = if a_n h ≤ q ∧ q < a_n h + (1 + n) then 0 else a_i h q j := fun _ _ _ => rfl
  have En : a_n (s_mn h n m) = a_n h + (1 + n) := rfl
  have Ll : ∀ (h : am_h) q j, a_l (s_mn h n m) q j = if a_n h ≤ q ∧ q < a_n h + (1 + n) then 0 else a_l h q j := fun _ _ _ => rfl
  have R : ∀ (h : am_h) q j, a_r (s_mn h n m) q j = if q = a_n h then (if j < n then some (a_n h + 1 + j) else none) else if a_n h < q ∧ q < a_n h + (1 + n) then none else a_r h q j := fun _ _ _ => rfl
  have low : ∀ (h : am_h) q, q < a_n h → a_t (s_mn h n m) q = a_t h q ∧ ∀ j, a_i (s_mn h n m) q j = a_i h q j ∧ a_l (s_mn h n m) q j = a_l h q j ∧ a_r (s_mn h n m) q j = a_r h q j := fun h q c => by
    refine ⟨by rw [T, if_neg (by omega), if_neg (by omega)], fun j => ⟨by rw [I, if_neg (by omega)], by rw [Ll, if_neg (by omega)], by rw [R, if_neg (by omega), if_neg (by omega)]⟩⟩
  refine ⟨fun q c => ⟨fun j x e => ?_, fun e => ?_⟩, fun q c => ?_, fun q c => low h q (nN q c), fun q c => low y q (by rw [n1]; exact nN q c), by rw [En]; omega, fun _ => ?_, fun e => absurd e (by rw [En]; omega), fun q e => ?_⟩
  · rw [R] at e
    split at e
    · split at e
      · cases e; exact a2 _ (by omega)
      · cases e
    · split at e
      · cases e
      · exact (w.1 q c).1 j x e
  · rw [T] at e
    split at e
    · cases e
    · split at e
      · cases e
      · exact (w.1 q c).2 e
  · obtain ⟨x1, x2⟩ := w.2.1 q c
    refine ⟨by rw [T, T, n1, x1], fun j => ⟨by rw [I, I, n1, (x2 j).1], by rw [Ll, Ll, n1, (x2 j).2.1], by rw [R, R, n1, (x2 j).2.2]⟩⟩
  · show ((a_n h + (1 + n), a_z h + (n + n * m)) : Nat × Nat) = (a_n y + (1 + n), a_z y + (n + n * m))
    rw [n1, z1]
  · rw [T] at e
    split at e
    · cases e
    · split at e
      · cases e
      · exact e
theorem fr_nw {t z : Nat} (w : prN N al h y) (ht : ¬ t = 42) (hL : lok N L) (hS : sok N S) {c c' : Prop} [Decidable c] [Decidable c'] (hc : a_n y = a_n h → c → c') : frO N al h y (ck c (nx pc L (.ref (a_n h) :: S) (s_nw h t z))) (ck c' (nx pc L (.ref (a_n y) :: S) (s_nw y t z))) := by
  by_cases a : al
  · obtain ⟨a1, a2⟩ := w.2.2.1 a
    have n1 : a_n y = a_n h := congrArg Prod.fst a1.symm
    unfold ck
    split
    · rename_i z0
      rw [if_pos (hc n1 z0), n1]
      exact fr_up hL (sok_c (vk_r (a2 _ (Nat.le_refl _))) hS) (st_nw w a ht)
    · exact fr_none
  · unfold ck
    split
    · exact Or.inl ⟨a, by rw [nw_n]; omega⟩
    · exact fr_none
theorem fr_mn {n m : Nat} (w : prN N al h y) (hL : lok N L) (hS : sok N S) {c c' : Prop} [Decidable c] [Decidable c'] (hc : a_n y = a_n h → c → c') : frO N al h y (ck c (nx pc L (.ref (a_n h) :: S) (s_mn h n m))) (ck c' (nx pc L (.ref (a_n y) :: S) (s_mn y n m))) := by
  have En : a_n (s_mn h n m) = a_n h + (1 + n) := rfl
  by_cases a : al
  · obtain ⟨a1, a2⟩ := w.2.2.1 a
    have n1 : a_n y = a_n h := congrArg Prod.fst a1.symm
    unfold ck
    split
    · rename_i z0
      rw [if_pos (hc n1 z0), n1]
      exact fr_up hL (sok_c (vk_r (a2 _ (Nat.le_refl _))) hS) (st_mn w a)
    · exact fr_none
  · unfold ck
    split
    · exact Or.inl ⟨a, by rw [En]; omega⟩
    · exact fr_none
/-- a field's value -/
theorem fv_fr {ty : FieldType} (w : prN N al h y) (hp : ¬ N p) : am_fv id y p k ty = am_fv id h p k ty ∧ vk N (am_fv id h p k ty) := by
  obtain ⟨x1, x2⟩ := w.2.1 p hp
  have c := (w.1 p hp).1 k
  have vr : vk N (va_rf ((a_r h p k).map id)) := by
    cases e : a_r h p k with
    | none => exact vk_n
    | some q => exact vk_r (c q e)
  refine ⟨?_, ?_⟩
  · unfold am_fv
    split
    · rw [(x2 k).2.1]
    · rw [(x2 k).2.2]
    · rw [(x2 k).2.2]
    · rw [(x2 k).1]
  · unfold am_fv
    split
    · exact vk_l
    · exact vr
    · exact vr
    · exact vk_i
theorem pv_fr {ty : FieldType} {v : Value} (w : prN N al h y) (hp : ¬ N p) (hv : vk N v) (e : am_pv h p k ty v = some h') : ∃ y', am_pv y p k ty v = some y' ∧ stN N al h y h' y' := by
  unfold am_pv at e ⊢
  split at e
  · cases e; exact ⟨_, rfl, st_sl w hp⟩
  · cases e; exact ⟨_, rfl, st_si w hp⟩
  · split at e
    · rename_i z
      cases e; exact ⟨_, if_pos z, st_si w hp⟩
    · cases e
  · cases e; exact ⟨_, rfl, st_sr w hp (fun q z => by cases z; exact hv _ rfl)⟩
  · cases e; exact ⟨_, rfl, st_sr w hp (fun q z => by cases z)⟩
  · cases e; exact ⟨_, rfl, st_sr w hp (fun q z => by cases z; exact hv _ rfl)⟩
  · cases e; exact ⟨_, rfl, st_sr w hp (fun q z => by cases z)⟩
  · cases e
theorem pop_fr : ∀ (n : Nat) (S as S' : List Value), am_pop n S = some (as, S') → sok N S → sok N as ∧ sok N S' := by
  intro n
  induction n with
  | zero => intro S as S' e hS; cases e; exact ⟨sok_n, hS⟩
  | succ n ih =>
    intro S as S' e hS
    unfold am_pop at e
    split at e
    · cases e
    · split at e
      · rename_i e1
        cases e
        obtain ⟨z1, z2⟩ := ih _ _ _ e1 (sok_t hS)
        refine ⟨fun v m => ?_, z2⟩
        rcases List.mem_append.mp m with m | m
        · exact z1 v m
        · rcases List.mem_singleton.mp m with rfl
          exact sok_h hS
      · cases e
end FRAME2
