/-! cells that were there before are never written -/
section OLD
def oldP (h f : am_h) : Prop := ∀ q, 1000000 ≤ q → 40 ≤ (a_t h q).1 → a_t f q = a_t h q ∧ ∀ j, a_i f q j = a_i h q j ∧ a_l f q j = a_l h q j ∧ a_r f q j = a_r h q j
theorem oldP.refl {h : am_h} : oldP h h := fun _ _ _ => ⟨rfl, fun _ => ⟨rfl, rfl, rfl⟩⟩
theorem oldP.tr {h f g : am_h} (a : oldP h f) (b : oldP f g) : oldP h g := fun q h1 h2 => by
  obtain ⟨a1, a2⟩ := a q h1 h2
  obtain ⟨b1, b2⟩ := b q h1 (by rw [a1]; exact h2)
  exact ⟨b1.trans a1, fun j => ⟨(b2 j).1.trans (a2 j).1, (b2 j).2.1.trans (a2 j).2.1, (b2 j).2.2.trans (a2 j).2.2⟩⟩
def okO (h : am_h) (o : am_o) : Prop := ∀ pc' L' S' h', o = some (.inl (pc', L', S', h')) → oldP h h'
theorem okO_none {h : am_h} : okO h none := fun _ _ _ _ e => by cases e
theorem okO_rt {h : am_h} {v : Option Value} : okO h (rt v) := fun _ _ _ _ e => by cases e
theorem okO_cl {h : am_h} {x : am_m × List Value × List Value} : okO h (some (.inr (.inr x))) := fun _ _ _ _ e => by cases e
theorem okO_nx {h h' : am_h} {pc : Nat} {L : am_L} {S : List Value} (k : oldP h h') : okO h (nx pc L S h') := fun _ _ _ _ e => by cases e; exact k
theorem okO_ck {h : am_h} {c : Prop} [Decidable c] {x : am_o} (k : c → okO h x) : okO h (ck c x) := by
  unfold ck
  split
  · rename_i z; exact k z
  · exact okO_none
theorem okO_go {h : am_h} {pc : Nat} {off : Int} {L : am_L} {S : List Value} : okO h (am_go pc off L S h) := okO_ck (fun _ => okO_nx oldP.refl)
theorem okO_b1 {h : am_h} {f : Int32 → Int32 → Int32} {pc : Nat} {L : am_L} {S : List Value} : okO h (am_b1 f pc L S h) := by
  unfold am_b1; split
  · exact okO_nx oldP.refl
  · exact okO_none
theorem okO_b2 {h : am_h} {f : Int64 → Int64 → Int64} {pc : Nat} {L : am_L} {S : List Value} : okO h (am_b2 f pc L S h) := by
  unfold am_b2; split
  · exact okO_nx oldP.refl
  · exact okO_none
theorem okO_b3 {h : am_h} {f : Int64 → Int32 → Int64} {pc : Nat} {L : am_L} {S : List Value} : okO h (am_b3 f pc L S h) := by
  unfold am_b3; split
  · exact okO_nx oldP.refl
  · exact okO_none
theorem okO_u1 {h : am_h} {f : Int32 → Value} {pc : Nat} {L : am_L} {S : List Value} : okO h (am_u1 f pc L S h) := by
  unfold am_u1; split
  · exact okO_nx oldP.refl
  · exact okO_none
theorem okO_u2 {h : am_h} {f : Int64 → Value} {pc : Nat} {L : am_L} {S : List Value} : okO h (am_u2 f pc L S h) := by
  unfold am_u2; split
  · exact okO_nx oldP.refl
  · exact okO_none
theorem okO_li {h : am_h} {i n pc : Nat} {L : am_L} {S : List Value} : okO h (am_li i n pc L S h) := by
  unfold am_li; split
  · exact okO_nx oldP.refl
  · exact okO_none
theorem okO_ll {h : am_h} {i n pc : Nat} {L : am_L} {S : List Value} : okO h (am_ll i n pc L S h) := by
  unfold am_ll; split
  · exact okO_nx oldP.refl
  · exact okO_none
theorem okO_la {h : am_h} {i n pc : Nat} {L : am_L} {S : List Value} : okO h (am_la i n pc L S h) := by
  unfold am_la; split
  · exact okO_nx oldP.refl
  · exact okO_none
theorem okO_si {h : am_h} {i n m pc : Nat} {L : am_L} {S : List Value} : okO h (am_si i n m pc L S h) := by
  unfold am_si; split
  · exact okO_ck (fun _ => okO_nx oldP.refl)
  · exact okO_none
theorem okO_sl {h : am_h} {i n m pc : Nat} {L : am_L} {S : List Value} : okO h (am_sl i n m pc L S h) := by
  unfold am_sl; split
  · exact okO_ck (fun _ => okO_nx oldP.refl)
  · exact okO_none
theorem okO_sa {h : am_h} {i n m pc : Nat} {L : am_L} {S : List Value} : okO h (am_sa i n m pc L S h) := by
  unfold am_sa; split
  · exact okO_ck (fun _ => okO_nx oldP.refl)
  · exact okO_none
theorem old_si {h : am_h} {p k : Nat} {v : Int32} (hp : (a_t h p).1 < 40) : oldP h (s_i h p k v) := fun q h1 h2 => ⟨rfl, fun j => ⟨ine (fun z => by rw [z.1] at h2; omega), rfl, rfl⟩⟩
theorem old_sl {h : am_h} {p k : Nat} {v : Int64} (hp : (a_t h p).1 < 40) : oldP h (s_l h p k v) := fun q h1 h2 => ⟨rfl, fun j => ⟨rfl, if_neg (fun (z : q = p ∧ j = k) => by rw [z.1] at h2; omega), rfl⟩⟩
theorem old_sr {h : am_h} {p k : Nat} {v : Option Nat} (hp : (a_t h p).1 < 40) : oldP h (s_r h p k v) := fun q h1 h2 => ⟨rfl, fun j => ⟨rfl, rfl, rne (fun z => by rw [z.1] at h2; omega)⟩⟩
theorem old_nw {h : am_h} {t z : Nat} (hn : a_n h < am_MX) : oldP h (s_nw h t z) := fun q h1 h2 => by
  unfold am_MX at hn
  exact ⟨nwt0 (by omega), fun j => ⟨nwi0 (by omega), nwl0 (by omega), nwr0 (by omega)⟩⟩
theorem old_mn {h : am_h} {n k : Nat} (hn : a_n h < am_MX) (hk : n ≤ 600) : oldP h (s_mn h n k) := fun q h1 h2 => by
  unfold am_MX at hn
  refine ⟨?_, fun j => ?_⟩
  · show (if q = a_n h then (26, n) else if a_n h < q ∧ q < a_n h + (1 + n) then (20, k) else a_t h q) = _
    rw [if_neg (by omega), if_neg (by omega)]
  · refine ⟨?_, ?_, ?_⟩
    · show (if a_n h ≤ q ∧ q < a_n h + (1 + n) then 0 else a_i h q j) = _
      rw [if_neg (by omega)]
    · show (if a_n h ≤ q ∧ q < a_n h + (1 + n) then 0 else a_l h q j) = _
      rw [if_neg (by omega)]
    · show (if q = a_n h then (if j < n then some (a_n h + 1 + j) else none) else if a_n h < q ∧ q < a_n h + (1 + n) then none else a_r h q j) = _
      rw [if_neg (by omega), if_neg (by omega)]
theorem lk_mem {α β : Type} [BEq α] [LawfulBEq α] {l : List (α × β)} {a : α} {b : β} (k : l.lookup a = some b) : ∃ a', (a', b) ∈ l := by
  induction l with
  | nil => cases k
  | cons x l ih =>
    obtain ⟨x1, x2⟩ := x
    rw [List.lookup_cons] at k
    split at k
    · cases k
      exact ⟨x1, List.mem_cons_self⟩
    · obtain ⟨a', h⟩ := ih k
      exact ⟨a', List.mem_cons_of_mem _ h⟩
theorem fT_12 {x : Nat × Nat} {ci k : Nat} (h : am_fT.lookup x = some (ci, k)) : ci ≤ 12 := by
  obtain ⟨a', m⟩ := lk_mem h
  have all : am_fT.all (fun e => decide (e.2.1 ≤ 12)) = true := by decide +kernel
  have := List.all_eq_true.mp all _ m
  exact of_decide_eq_true this
theorem old_pv {h h' : am_h} {p k : Nat} {ty : FieldType} {v : Value} (e : am_pv h p k ty v = some h') (hp : (a_t h p).1 < 40) : oldP h h' := by
  unfold am_pv at e
  split at e
  · cases e; exact old_sl hp
  · cases e; exact old_si hp
  · split at e
    · cases e; exact old_si hp
    · cases e
  · cases e; exact old_sr hp
  · cases e; exact old_sr hp
  · cases e; exact old_sr hp
  · cases e; exact old_sr hp
  · cases e
set_option maxHeartbeats 4000000 in
theorem I_old {M : am_m} {i : Instr} {n pc : Nat} {L : am_L} {S : List Value} {h : am_h} : okO h (am_I M i n pc L S h) := by
  cases i
  case putfield x =>
    simp only [am_I]
    split
    · split
      · rename_i e1
        split
        · rename_i e2
          refine okO_ck (fun c => okO_nx (old_pv e2 ?_))
          have := fT_12 e1
          omega
        · exact okO_none
      · exact okO_none
    · exact okO_none
  case iastore =>
    simp only [am_I]
    split
    · exact okO_ck (fun c => okO_nx (old_si (by omega)))
    · exact okO_none
  case bastore =>
    simp only [am_I]
    split
    · exact okO_ck (fun c => okO_nx (old_si (by omega)))
    · exact okO_none
  case lastore =>
    simp only [am_I]
    split
    · exact okO_ck (fun c => okO_nx (old_sl (by omega)))
    · exact okO_none
  case aastore =>
    simp only [am_I]
    split
    · exact okO_ck (fun c => okO_nx (old_sr (by omega)))
    · exact okO_none
  case newarray =>
    simp only [am_I]
    split
    · split
      · exact okO_ck (fun c => okO_nx (old_nw c.2.2.2))
      · exact okO_none
    · exact okO_none
  case anewarray =>
    simp only [am_I]
    split
    · split
      · exact okO_ck (fun c => okO_nx (old_nw c.2.2.2.2))
      · exact okO_none
    · exact okO_none
  case multianewarray =>
    simp only [am_I]
    split
    · exact okO_ck (fun c => okO_nx (old_mn c.2.2.2.2.2.2.2 c.2.2.2.2.2.2.1))
    · exact okO_none
  case new =>
    simp only [am_I]
    split
    · exact okO_ck (fun c => okO_nx (old_nw c.2.2))
    · exact okO_none
  all_goals first
    | exact okO_none
    | (simp only [am_I]; repeat' (first | exact okO_none | exact okO_rt | exact okO_cl | exact okO_nx oldP.refl | exact okO_go | exact okO_b1 | exact okO_b2 | exact okO_b3 | exact okO_u1 | exact okO_u2 | exact okO_li | exact okO_ll | exact okO_la | exact okO_si | exact okO_sl | exact okO_sa | (refine okO_ck (fun _ => ?_)) | split))
theorem act_old {M : am_m} {pc : Nat} {L : am_L} {S : List Value} {h : am_h} : okO h (act M pc L S h) := by
  unfold act
  split
  · exact I_old
  · exact okO_none
theorem am_old {d : Nat} {M : am_m} {pc : Nat} {L : am_L} {S : List Value} {h : am_h} {r : Option Value} {f : am_h} (k : am_E d M pc L S h r f) : oldP h f := by
  refine k (fun _ _ _ _ _ h _ f => oldP h f) ?_
  intro d M pc L S h r f q
  unfold am_S at q
  split at q
  · rename_i e
    exact (act_old _ _ _ _ e).tr q
  · rw [q.2]; exact oldP.refl
  · obtain ⟨d', r1, h1, e1, e2, e3⟩ := q
    exact e2.tr e3
  · exact q.elim
/-- a call leaves old cells -/
theorem Cal.old {d : Nat} {M : am_m} {as : List Value} {h : am_h} {r : Option Value} {h' : am_h} (k : ∀ Q, Cal d M as h Q = Q r h') : oldP h h' := by
  have z : Cal d M as h (fun r2 f2 => r2 = r ∧ f2 = h') := by
    rw [k]; exact ⟨rfl, rfl⟩
  exact am_old (Cal.E z)
theorem rOl.old {h h' : am_h} (k : rOl h) (o : oldP h h') : rOl h' := by
  obtain ⟨k1, k2, k3⟩ := k
  obtain ⟨a1, a2⟩ := o 1000001 (by omega) (by rw [k1]; exact Nat.le_refl _)
  obtain ⟨b1, b2⟩ := o 1000002 (by omega) (by rw [k2]; exact Nat.le_refl _)
  exact ⟨a1.trans k1, b1.trans k2, fun w hw => by rw [(a2 w).1, (b2 w).1]; exact k3 w hw⟩
end OLD
