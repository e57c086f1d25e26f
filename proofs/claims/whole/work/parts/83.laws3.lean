/-! laws: the plain evaluation -/
section LAWS3
/-- the values that are piled have their kinds -/
def wt (L : List Int32) (l : List Bool) : Prop := match L, l with
  | [], [] => True
  | x :: L, b :: l => inM x ∧ (b = true → x = 0 ∨ x = 1) ∧ wt L l
  | _, _ => False
theorem wt_len : ∀ {L : List Int32} {l : List Bool}, wt L l → L.length = l.length := by
  intro L
  induction L with
  | nil => intro l k; cases l with
    | nil => rfl
    | cons b l => exact k.elim
  | cons x L ih => intro l k; cases l with
    | nil => exact k.elim
    | cons b l => exact congrArg (· + 1) (ih k.2.2)
/-- a word: where the next one is, and what is piled then -/
def evS (N : Nat → Int32) (op a i : Nat) (L : List Int32) : Nat × List Int32 := match op, L with
  | 0, L => (i + 1, nI a :: L)
  | 1, L => (i + 1, N a :: L)
  | 2, L => (a, L)
  | 3, x :: L => (if x = 0 then a else i + 1, L)
  | 4, x :: L => (i + 1, -x :: L)
  | 5, x :: L => (i + 1, (1 - x) :: L)
  | op, y :: x :: L => (i + 1, valF op x y :: L)
  | _, L => (i + 1, L)
theorem inM_b {x : Int32} (k : x = 0 ∨ x = 1) : inM x := by
  rcases k with rfl | rfl
  · exact ⟨by decide, by decide⟩
  · exact ⟨by decide, by decide⟩
theorem valF_n {op : Nat} {x y : Int32} (ho : op < 10) : inM (valF op x y) := by
  unfold valF
  rw [if_pos ho]
  have r : ∃ z, rkF op x.toInt64 y.toInt64 = mil z := by
    unfold rkF
    split
    · exact ⟨_, rfl⟩
    · exact ⟨_, rfl⟩
    · exact ⟨_, rfl⟩
    · exact ⟨_, rfl⟩
  obtain ⟨z, e⟩ := r
  rw [e]
  have b := mil_b (z := z)
  unfold inM
  rw [Int64.toInt_toInt32, Int.bmod_eq_of_le (by omega) (by omega)]
  exact b
theorem bI_o (b : Bool) : bI b = 0 ∨ bI b = 1 := by
  cases b
  · exact Or.inl rfl
  · exact Or.inr rfl
theorem valF_b {op : Nat} {x y : Int32} (ho : 10 ≤ op) : valF op x y = 0 ∨ valF op x y = 1 := by
  unfold valF
  rw [if_neg (by omega)]
  unfold askF
  exact bI_o _
theorem inM_neg {x : Int32} (k : inM x) : inM (-x) := by
  unfold inM at k ⊢
  rw [Int32.toInt_neg, Int.bmod_eq_of_le (by omega) (by omega)]
  omega
theorem inM_n {a : Nat} (k : a ≤ 9999) : inM (nI a) := by
  unfold inM
  rw [nI_i (by omega)]
  omega
theorem not_b {x : Int32} (k : x = 0 ∨ x = 1) : 1 - x = 0 ∨ 1 - x = 1 := by
  rcases k with rfl | rfl
  · exact Or.inr (by decide)
  · exact Or.inl (by decide)
/-- a word keeps the kinds, and leads on -/
theorem evS_t {N : Nat → Int32} {ty : Nat → List Bool} {i op a : Nat} (hN : op = 1 → inM (N a)) (ho : op < 18) (st : tyStep ty i op a) {L : List Int32} (k : wt L (ty i)) : wt (evS N op a i L).2 (ty (evS N op a i L).1) ∧ i < (evS N op a i L).1 := by
  have two : ∀ l : List Bool, ∀ p q r : Bool, ty i = p :: q :: l → ty (i + 1) = r :: l → (r = true → 10 ≤ op) → (r = false → op < 10) → (∀ x y L', evS N op a i (y :: x :: L') = (i + 1, valF op x y :: L')) → wt (evS N op a i L).2 (ty (evS N op a i L).1) ∧ i < (evS N op a i L).1 := by
    intro l p q r e1 e2 h1 h2 h3
    rw [e1] at k
    cases L with
    | nil => exact k.elim
    | cons y L => cases L with
      | nil => exact k.2.2.elim
      | cons x L =>
        rw [h3, e2]
        refine ⟨⟨?_, ?_, k.2.2.2.2⟩, Nat.lt_succ_self i⟩
        · cases r with
          | false => exact valF_n (h2 rfl)
          | true => exact inM_b (valF_b (h1 rfl))
        · intro z; exact valF_b (h1 z)
  have : op = 0 ∨ op = 1 ∨ op = 2 ∨ op = 3 ∨ op = 4 ∨ op = 5 ∨ op = 6 ∨ op = 7 ∨ op = 8 ∨ op = 9 ∨ op = 10 ∨ op = 11 ∨ op = 12 ∨ op = 13 ∨ op = 14 ∨ op = 15 ∨ op = 16 ∨ op = 17 := by omega
  rcases this with rfl | rfl | rfl | rfl | rfl | rfl | rfl | rfl | rfl | rfl | rfl | rfl | rfl | rfl | rfl | rfl | rfl | rfl
  · obtain ⟨s1, s2⟩ := st
    refine ⟨?_, Nat.lt_succ_self i⟩
    show wt (nI a :: L) (ty (i + 1))
    rw [s2]
    exact ⟨inM_n s1, fun z => absurd z (by decide), k⟩
  · obtain ⟨s1, s2⟩ := st
    refine ⟨?_, Nat.lt_succ_self i⟩
    show wt (N a :: L) (ty (i + 1))
    rw [s2]
    exact ⟨hN rfl, fun z => absurd z (by decide), k⟩
  · obtain ⟨s1, s2⟩ := st
    refine ⟨?_, s1⟩
    show wt L (ty a)
    rw [s2]
    exact k
  · obtain ⟨s1, s2, s3⟩ := st
    rw [s2] at k
    cases L with
    | nil => exact k.elim
    | cons x L =>
      show wt L (ty (if x = 0 then a else i + 1)) ∧ i < (if x = 0 then a else i + 1)
      by_cases c : x = 0
      · rw [if_pos c, s3]; exact ⟨k.2.2, s1⟩
      · rw [if_neg c]; exact ⟨k.2.2, Nat.lt_succ_self i⟩
  · obtain ⟨l, s1, s2⟩ := st
    rw [s1] at k
    cases L with
    | nil => exact k.elim
    | cons x L =>
      show wt (-x :: L) (ty (i + 1)) ∧ i < i + 1
      rw [s2]
      exact ⟨⟨inM_neg k.1, fun z => absurd z (by decide), k.2.2⟩, Nat.lt_succ_self i⟩
  · obtain ⟨l, s1, s2⟩ := st
    rw [s1] at k
    cases L with
    | nil => exact k.elim
    | cons x L =>
      show wt ((1 - x) :: L) (ty (i + 1)) ∧ i < i + 1
      rw [s2]
      have z := not_b (k.2.1 rfl)
      exact ⟨⟨inM_b z, fun _ => z, k.2.2⟩, Nat.lt_succ_self i⟩
  all_goals
    obtain ⟨l, s1, s2⟩ := st
    exact two l _ _ _ s1 s2 (by decide) (by decide) (fun _ _ _ => rfl)
end LAWS3
