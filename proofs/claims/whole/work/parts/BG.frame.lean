/-! a run doesn't ask what it cannot see -/
section FRAME
variable {N : Nat → Prop} {al : Prop} {h y : am_h} {L : am_L} {S : List Value} {pc : Nat}
def vk (N : Nat → Prop) (v : Value) : Prop := ∀ p, v = .ref p → ¬ N p
def sok (N : Nat → Prop) (S : List Value) : Prop := ∀ v, v ∈ S → vk N v
def lok (N : Nat → Prop) (L : am_L) : Prop := ∀ o, o ∈ L → ∀ v, o = some v → vk N v
/-- what is seen refers to what is seen -/
def clN (N : Nat → Prop) (h : am_h) : Prop := ∀ q, ¬ N q → (∀ j p, a_r h q j = some p → ¬ N p) ∧ ((a_t h q).1 = 42 → ¬ N (q + 1))
/-- alike in what is seen -/
def smN (N : Nat → Prop) (h y : am_h) : Prop := ∀ q, ¬ N q → a_t y q = a_t h q ∧ ∀ j, a_i y q j = a_i h q j ∧ a_l y q j = a_l h q j ∧ a_r y q j = a_r h q j
/-- what is not seen stays -/
def hsN (N : Nat → Prop) (h y : am_h) : Prop := ∀ q, N q → a_t y q = a_t h q ∧ ∀ j, a_i y q j = a_i h q j ∧ a_l y q j = a_l h q j ∧ a_r y q j = a_r h q j
theorem hsN.refl : hsN N h h := fun _ _ => ⟨rfl, fun _ => ⟨rfl, rfl, rfl⟩⟩
theorem hsN.tr {z : am_h} (a : hsN N h y) (b : hsN N y z) : hsN N h z := fun q c => by
  obtain ⟨a1, a2⟩ := a q c
  obtain ⟨b1, b2⟩ := b q c
  exact ⟨b1.trans a1, fun j => ⟨(b2 j).1.trans (a2 j).1, (b2 j).2.1.trans (a2 j).2.1, (b2 j).2.2.trans (a2 j).2.2⟩⟩
/-- two heaps, before: al: new cells may be made -/
def prN (N : Nat → Prop) (al : Prop) (h y : am_h) : Prop := clN N h ∧ smN N h y ∧ (al → h.1 = y.1 ∧ ∀ q, a_n h ≤ q → ¬ N q) ∧ ∀ q, 1000000 ≤ q → ¬ N q
/-- two heaps, after -/
def stN (N : Nat → Prop) (al : Prop) (h y h' y' : am_h) : Prop := clN N h' ∧ smN N h' y' ∧ hsN N h h' ∧ hsN N y y' ∧ a_n h ≤ a_n h' ∧ (al → h'.1 = y'.1) ∧ (a_n h' = a_n h → h'.1 = h.1 ∧ y'.1 = y.1) ∧ ∀ q, (a_t h' q).1 = 42 → (a_t h q).1 = 42
theorem stN.refl (k : prN N al h y) : stN N al h y h y := ⟨k.1, k.2.1, hsN.refl, hsN.refl, Nat.le_refl _, fun a => (k.2.2.1 a).1, fun _ => ⟨rfl, rfl⟩, fun _ z => z⟩
def frO (N : Nat → Prop) (al : Prop) (h y : am_h) (o o' : am_o) : Prop := match o with
  | none => True
  | some (.inl (pc', L', S', h')) => (¬ al ∧ a_n h < a_n h') ∨ ∃ y', o' = some (.inl (pc', L', S', y')) ∧ lok N L' ∧ sok N S' ∧ stN N al h y h' y'
  | some (.inr (.inl v)) => o' = some (.inr (.inl v)) ∧ ∀ w, v = some w → vk N w
  | some (.inr (.inr (M', as, S'))) => o' = some (.inr (.inr (M', as, S'))) ∧ sok N as ∧ sok N S'
theorem vk_i {v : Int32} : vk N (.int v) := fun _ e => by cases e
theorem vk_l {v : Int64} : vk N (.long v) := fun _ e => by cases e
theorem vk_n : vk N .null := fun _ e => by cases e
theorem vk_r {p : Nat} (k : ¬ N p) : vk N (.ref p) := fun _ e => by cases e; exact k
theorem sok_n : sok N [] := fun _ e => by cases e
theorem sok_c {v : Value} (a : vk N v) (b : sok N S) : sok N (v :: S) := fun w e => by
  rcases List.mem_cons.mp e with rfl | e
  · exact a
  · exact b w e
theorem sok_t {v : Value} (a : sok N (v :: S)) : sok N S := fun w e => a w (List.mem_cons_of_mem _ e)
theorem sok_h {v : Value} (a : sok N (v :: S)) : vk N v := a v List.mem_cons_self
theorem lok_ld {i : Nat} {v : Value} (a : lok N L) (e : am_ld L i = some v) : vk N v := by
  unfold am_ld at e
  cases c : L[i]? with
  | none => rw [c] at e; cases e
  | some o => rw [c] at e; exact a o (List.mem_of_getElem? c) v e
theorem lok_set {i : Nat} {o : Option Value} (a : lok N L) (k : ∀ v, o = some v → vk N v) : lok N (L.set i o) := fun o' e v ev => by
  rcases List.mem_or_eq_of_mem_set e with e | e
  · exact a o' e v ev
  · exact k v (e ▸ ev)
theorem lok_k {i : Nat} (a : lok N L) : lok N (am_k L i) := by
  unfold am_k
  split
  · exact a
  · split
    · split
      · exact lok_set a (fun _ e => by cases e)
      · exact a
    · exact a
theorem lok_1 {i : Nat} {v : Value} (a : lok N L) (k : vk N v) : lok N (am_s1 L i v) := lok_set (lok_k a) (fun _ e => by cases e; exact k)
theorem lok_2 {i : Nat} {v : Value} (a : lok N L) (k : vk N v) : lok N (am_s2 L i v) := lok_set (lok_set (lok_k a) (fun _ e => by cases e; exact k)) (fun _ e => by cases e)
theorem fr_none {o' : am_o} : frO N al h y none o' := trivial
theorem fr_nx (k : prN N al h y) (hL : lok N L) (hS : sok N S) : frO N al h y (nx pc L S h) (nx pc L S y) := Or.inr ⟨y, rfl, hL, hS, stN.refl k⟩
theorem fr_rt {v : Option Value} (k : ∀ w, v = some w → vk N w) : frO N al h y (rt v) (rt v) := ⟨rfl, k⟩
theorem fr_cl {M : am_m} {as : List Value} (a : sok N as) (b : sok N S) : frO N al h y (some (.inr (.inr (M, as, S)))) (some (.inr (.inr (M, as, S)))) := ⟨rfl, a, b⟩
theorem fr_ck {c : Prop} [Decidable c] {x x' : am_o} (k : c → frO N al h y x x') : frO N al h y (ck c x) (ck c x') := by
  unfold ck
  split
  · rename_i z; exact k z
  · exact fr_none
theorem fr_go {off : Int} (k : prN N al h y) (hL : lok N L) (hS : sok N S) : frO N al h y (am_go pc off L S h) (am_go pc off L S y) := fr_ck (fun _ => fr_nx k hL hS)
theorem fr_b1 {f : Int32 → Int32 → Int32} (k : prN N al h y) (hL : lok N L) (hS : sok N S) : frO N al h y (am_b1 f pc L S h) (am_b1 f pc L S y) := by
  revert hS; unfold am_b1; split <;> intro hS
  · exact fr_nx k hL (sok_c vk_i (sok_t (sok_t hS)))
  · exact fr_none
theorem fr_b2 {f : Int64 → Int64 → Int64} (k : prN N al h y) (hL : lok N L) (hS : sok N S) : frO N al h y (am_b2 f pc L S h) (am_b2 f pc L S y) := by
  revert hS; unfold am_b2; split <;> intro hS
  · exact fr_nx k hL (sok_c vk_l (sok_t (sok_t hS)))
  · exact fr_none
theorem fr_b3 {f : Int64 → Int32 → Int64} (k : prN N al h y) (hL : lok N L) (hS : sok N S) : frO N al h y (am_b3 f pc L S h) (am_b3 f pc L S y) := by
  revert hS; unfold am_b3; split <;> intro hS
  · exact fr_nx k hL (sok_c vk_l (sok_t (sok_t hS)))
  · exact fr_none
theorem fr_u1 {f : Int32 → Value} (k : prN N al h y) (hL : lok N L) (hf : ∀ x, vk N (f x)) (hS : sok N S) : frO N al h y (am_u1 f pc L S h) (am_u1 f pc L S y) := by
  revert hS; unfold am_u1; split <;> intro hS
  · exact fr_nx k hL (sok_c (hf _) (sok_t hS))
  · exact fr_none
theorem fr_u2 {f : Int64 → Value} (k : prN N al h y) (hL : lok N L) (hf : ∀ x, vk N (f x)) (hS : sok N S) : frO N al h y (am_u2 f pc L S h) (am_u2 f pc L S y) := by
  revert hS; unfold am_u2; split <;> intro hS
  · exact fr_nx k hL (sok_c (hf _) (sok_t hS))
  · exact fr_none
theorem fr_li {i n : Nat} (k : prN N al h y) (hL : lok N L) (hS : sok N S) : frO N al h y (am_li i n pc L S h) (am_li i n pc L S y) := by
  unfold am_li; split
  · exact fr_nx k hL (sok_c vk_i hS)
  · exact fr_none
theorem fr_ll {i n : Nat} (k : prN N al h y) (hL : lok N L) (hS : sok N S) : frO N al h y (am_ll i n pc L S h) (am_ll i n pc L S y) := by
  unfold am_ll; split
  · exact fr_nx k hL (sok_c vk_l hS)
  · exact fr_none
theorem fr_la {i n : Nat} (k : prN N al h y) (hL : lok N L) (hS : sok N S) : frO N al h y (am_la i n pc L S h) (am_la i n pc L S y) := by
  unfold am_la; split
  · rename_i e
    exact fr_nx k hL (sok_c (lok_ld hL e) hS)
  · exact fr_none
theorem fr_si {i n m : Nat} (k : prN N al h y) (hL : lok N L) (hS : sok N S) : frO N al h y (am_si i n m pc L S h) (am_si i n m pc L S y) := by
  revert hS; unfold am_si; split <;> intro hS
  · exact fr_ck (fun _ => fr_nx k (lok_1 hL vk_i) (sok_t hS))
  · exact fr_none
theorem fr_sl {i n m : Nat} (k : prN N al h y) (hL : lok N L) (hS : sok N S) : frO N al h y (am_sl i n m pc L S h) (am_sl i n m pc L S y) := by
  revert hS; unfold am_sl; split <;> intro hS
  · exact fr_ck (fun _ => fr_nx k (lok_2 hL vk_l) (sok_t hS))
  · exact fr_none
theorem fr_sa {i n m : Nat} (k : prN N al h y) (hL : lok N L) (hS : sok N S) : frO N al h y (am_sa i n m pc L S h) (am_sa i n m pc L S y) := by
  revert hS; unfold am_sa; split <;> intro hS
  · exact fr_ck (fun _ => fr_nx k (lok_1 hL (sok_h hS)) (sok_t hS))
  · exact fr_none
end FRAME
