/-! words of a law: what they are on both sides, and what they do to the pile -/
section SEG
variable {q c0 g0 p w B c φ ω g : Nat} {h h' : am_h} {l l' l2 : List Bool} {ws ws1 ws2 ws3 : List (Nat × Nat)}
def jmp (x : Nat × Nat) : Prop := x.1 = 2 ∨ x.1 = 3
def cwd (c0 : Nat) (x : Nat × Nat) : Int32 := if x.1 = 2 ∨ x.1 = 3 then nI ((c0 + x.2) * 32 + x.1) else nI (x.2 * 32 + x.1)
def rwd (g0 : Nat) (x : Nat × Nat) : Int32 := if x.1 = 2 ∨ x.1 = 3 then nI (g0 + x.2) else nI x.2
def wdC (h : am_h) (q c0 p : Nat) (ws : List (Nat × Nat)) : Prop := ∀ i x, ws[i]? = some x → a_i h (q + 7) (c0 + p + i) = cwd c0 x
def wdR (h : am_h) (g0 p : Nat) (ws : List (Nat × Nat)) : Prop := ∀ i x, ws[i]? = some x → a_i h 148 (g0 + p + i) = oOf x.1 ∧ a_i h 149 (g0 + p + i) = rwd g0 x
theorem ix_app {α : Type} {a b : List α} {i : Nat} {x : α} (e : (a ++ b)[i]? = some x) : (i < a.length ∧ a[i]? = some x) ∨ (a.length ≤ i ∧ b[i - a.length]? = some x) := by
  by_cases c : i < a.length
  · rw [List.getElem?_append_left c] at e
    exact Or.inl ⟨c, e⟩
  · rw [List.getElem?_append_right (by omega)] at e
    exact Or.inr ⟨by omega, e⟩
theorem ix_lt {α : Type} {a : List α} {i : Nat} {x : α} (e : a[i]? = some x) : i < a.length := (List.getElem?_eq_some_iff.mp e).1
theorem wdC.nil : wdC h q c0 p [] := fun i x e => absurd e (by simp)
theorem wdR.nil : wdR h g0 p [] := fun i x e => absurd e (by simp)
theorem wdC.app (a : wdC h q c0 p ws1) (b : wdC h q c0 (p + ws1.length) ws2) : wdC h q c0 p (ws1 ++ ws2) := fun i x e => by
  rcases ix_app e with ⟨e1, e2⟩ | ⟨e1, e2⟩
  · exact a i x e2
  · have := b _ x e2
    rw [show c0 + (p + ws1.length) + (i - ws1.length) = c0 + p + i by omega] at this
    exact this
theorem wdR.app (a : wdR h g0 p ws1) (b : wdR h g0 (p + ws1.length) ws2) : wdR h g0 p (ws1 ++ ws2) := fun i x e => by
  rcases ix_app e with ⟨e1, e2⟩ | ⟨e1, e2⟩
  · exact a i x e2
  · have := b _ x e2
    rw [show g0 + (p + ws1.length) + (i - ws1.length) = g0 + p + i by omega] at this
    exact this
theorem wdC.one {x : Nat × Nat} (e : a_i h (q + 7) (c0 + p) = cwd c0 x) : wdC h q c0 p [x] := fun i y z => by
  cases i with
  | zero => cases z; exact e
  | succ i => exact absurd z (by simp)
theorem wdR.one {x : Nat × Nat} (e : a_i h 148 (g0 + p) = oOf x.1) (e2 : a_i h 149 (g0 + p) = rwd g0 x) : wdR h g0 p [x] := fun i y z => by
  cases i with
  | zero => cases z; exact ⟨e, e2⟩
  | succ i => exact absurd z (by simp)
theorem wdC.fr (a : wdC h q c0 p ws) (k : cF q c h h') (l1 : c0 + p + ws.length ≤ c) (lq : 94 ≤ q) : wdC h' q c0 p ws := fun i x e => by
  have := ix_lt e
  rw [k.2.2 _ _ (by omega) (by omega) (by omega)]
  exact a i x e
theorem wdR.fr (a : wdR h g0 p ws) (k : rF φ ω g h h') (l1 : g0 + p + ws.length ≤ g) : wdR h' g0 p ws := fun i x e => by
  have := ix_lt e
  rw [k.2.2 _ _ (by omega) (by omega) (by omega) (by omega) (by omega) (by omega), k.2.2 _ _ (by omega) (by omega) (by omega) (by omega) (by omega) (by omega)]
  exact a i x e
/-- words that lead the pile's kinds from l to l' -/
def Seg (w B p : Nat) (l : List Bool) (ws : List (Nat × Nat)) (l' : List Bool) : Prop := ∃ ty : Nat → List Bool, ty p = l ∧ ty (p + ws.length) = l' ∧ (∀ i, p ≤ i → i ≤ p + ws.length → (ty i).length ≤ B) ∧ ∀ i x, ws[i]? = some x → x.1 < 18 ∧ x.2 ≤ 9999 ∧ (x.1 = 1 → okN w x.2) ∧ tyStep ty (p + i) x.1 x.2 ∧ (x.1 = 2 ∨ x.1 = 3 → x.2 ≤ p + ws.length)
theorem ty_lt {ty : Nat → List Bool} {i op a : Nat} (k : tyStep ty i op a) (j : op = 2 ∨ op = 3) : i < a := by
  rcases j with e | e <;> subst e
  · exact k.1
  · exact k.1
theorem ty_congr {ty ty' : Nat → List Bool} {i op a : Nat} (k : tyStep ty i op a) (lo : op < 18) (e0 : ty' i = ty i) (e1 : ty' (i + 1) = ty (i + 1)) (e2 : op = 2 ∨ op = 3 → ty' a = ty a) : tyStep ty' i op a := by
  have : op = 0 ∨ op = 1 ∨ op = 2 ∨ op = 3 ∨ op = 4 ∨ op = 5 ∨ op = 6 ∨ op = 7 ∨ op = 8 ∨ op = 9 ∨ op = 10 ∨ op = 11 ∨ op = 12 ∨ op = 13 ∨ op = 14 ∨ op = 15 ∨ op = 16 ∨ op = 17 := by omega
  rcases this with e | e | e | e | e | e | e | e | e | e | e | e | e | e | e | e | e | e <;> subst e
  · exact ⟨k.1, by rw [e0, e1]; exact k.2⟩
  · exact ⟨k.1, by rw [e0, e1]; exact k.2⟩
  · exact ⟨k.1, by rw [e0, e2 (Or.inl rfl)]; exact k.2⟩
  · exact ⟨k.1, by rw [e0, e1]; exact k.2.1, by rw [e1, e2 (Or.inr rfl)]; exact k.2.2⟩
  all_goals (obtain ⟨m, k1, k2⟩ := k; exact ⟨m, e0.trans k1, e1.trans k2⟩)
theorem Seg.nil (lb : l.length ≤ B) : Seg w B p l [] l := ⟨fun _ => l, rfl, rfl, fun _ _ _ => lb, fun i x e => absurd e (by simp)⟩
theorem Seg.lo {B' : Nat} (a : Seg w B p l ws l') (lb : B ≤ B') : Seg w B' p l ws l' := by
  obtain ⟨ty, t1, t2, t3, t4⟩ := a
  exact ⟨ty, t1, t2, fun i i1 i2 => Nat.le_trans (t3 i i1 i2) lb, t4⟩
theorem Seg.app (a : Seg w B p l ws1 l') (b : Seg w B (p + ws1.length) l' ws2 l2) : Seg w B p l (ws1 ++ ws2) l2 := by
  obtain ⟨ty1, t1, t2, t3, t4⟩ := a
  obtain ⟨ty2, u1, u2, u3, u4⟩ := b
  have ll : (ws1 ++ ws2).length = ws1.length + ws2.length := List.length_append
  have lo : ∀ i, i ≤ p + ws1.length → (fun i => if i ≤ p + ws1.length then ty1 i else ty2 i) i = ty1 i := fun i z => if_pos z
  have hi : ∀ i, p + ws1.length ≤ i → (fun i => if i ≤ p + ws1.length then ty1 i else ty2 i) i = ty2 i := fun i z => by
    by_cases c : i ≤ p + ws1.length
    · have : i = p + ws1.length := by omega
      rw [this]
      show (if p + ws1.length ≤ p + ws1.length then ty1 (p + ws1.length) else ty2 (p + ws1.length)) = _
      rw [if_pos (Nat.le_refl _), t2, u1]
    · exact if_neg c
  refine ⟨fun i => if i ≤ p + ws1.length then ty1 i else ty2 i, (lo _ (by omega)).trans t1, ?_, fun i i1 i2 => ?_, fun i x e => ?_⟩
  · rw [hi _ (by omega), ll, ← Nat.add_assoc]; exact u2
  · by_cases c : i ≤ p + ws1.length
    · rw [lo i c]; exact t3 i i1 c
    · rw [hi i (by omega)]; exact u3 i (by omega) (by omega)
  · rcases ix_app e with ⟨e1, e2⟩ | ⟨e1, e2⟩
    · obtain ⟨v1, v2, v3, v4, v5⟩ := t4 i x e2
      exact ⟨v1, v2, v3, ty_congr v4 v1 (lo _ (by omega)) (lo _ (by omega)) (fun z => lo _ (v5 z)), fun z => by have := v5 z; omega⟩
    · obtain ⟨v1, v2, v3, v4, v5⟩ := u4 _ x e2
      rw [show p + ws1.length + (i - ws1.length) = p + i by omega] at v4
      exact ⟨v1, v2, v3, ty_congr v4 v1 (hi _ (by omega)) (hi _ (by omega)) (fun z => hi _ (by have := ty_lt v4 z; omega)), fun z => by have := v5 z; omega⟩
theorem Seg.one {op a : Nat} (lo : op < 18) (nj : ¬ (op = 2 ∨ op = 3)) (la : a ≤ 9999) (ok : op = 1 → okN w a) (k : ∀ ty : Nat → List Bool, ty p = l → ty (p + 1) = l' → tyStep ty p op a) (b1 : l.length ≤ B) (b2 : l'.length ≤ B) : Seg w B p l [(op, a)] l' := by
  have e0 : (fun i => if i = p then l else l') p = l := if_pos rfl
  have e1 : (fun i => if i = p then l else l') (p + 1) = l' := if_neg (by omega)
  refine ⟨fun i => if i = p then l else l', e0, e1, fun i i1 i2 => ?_, fun i x e => ?_⟩
  · show (if i = p then l else l').length ≤ B
    split
    · exact b1
    · exact b2
  · cases i with
    | zero =>
      cases e
      exact ⟨lo, la, ok, k _ e0 e1, fun z => absurd z nj⟩
    | succ i => exact absurd e (by simp)
theorem Seg.put {a : Nat} (la : a ≤ 9999) (lb : l.length + 1 ≤ B) : Seg w B p l [(0, a)] (false :: l) := Seg.one (by omega) (by omega) la (by omega) (fun ty e0 e1 => ⟨la, by rw [e0, e1]⟩) (by omega) (by show l.length + 1 ≤ B; exact lb)
theorem Seg.name {a : Nat} (la : a < 11) (ok : okN w a) (lb : l.length + 1 ≤ B) : Seg w B p l [(1, a)] (false :: l) := Seg.one (by omega) (by omega) (by omega) (fun _ => ok) (fun ty e0 e1 => ⟨la, by rw [e0, e1]⟩) (by omega) (by show l.length + 1 ≤ B; exact lb)
theorem Seg.neg (lb : l.length + 1 ≤ B) : Seg w B p (false :: l) [(4, 0)] (false :: l) := Seg.one (by omega) (by omega) (by omega) (by omega) (fun ty e0 e1 => ⟨l, e0, e1⟩) (by show l.length + 1 ≤ B; exact lb) (by show l.length + 1 ≤ B; exact lb)
theorem Seg.not (lb : l.length + 1 ≤ B) : Seg w B p (true :: l) [(5, 0)] (true :: l) := Seg.one (by omega) (by omega) (by omega) (by omega) (fun ty e0 e1 => ⟨l, e0, e1⟩) (by show l.length + 1 ≤ B; exact lb) (by show l.length + 1 ≤ B; exact lb)
theorem Seg.num {op : Nat} (o1 : 6 ≤ op ∧ op < 10) (lb : l.length + 2 ≤ B) : Seg w B p (false :: false :: l) [(op, 0)] (false :: l) := by
  refine Seg.one (by omega) (by omega) (by omega) (by omega) (fun ty e0 e1 => ?_) (by show l.length + 1 + 1 ≤ B; exact lb) (by show l.length + 1 ≤ B; omega)
  have : op = 6 ∨ op = 7 ∨ op = 8 ∨ op = 9 := by omega
  rcases this with e | e | e | e <;> subst e <;> exact ⟨l, e0, e1⟩
theorem Seg.cmp {op : Nat} (o1 : 10 ≤ op ∧ op < 16) (lb : l.length + 2 ≤ B) : Seg w B p (false :: false :: l) [(op, 0)] (true :: l) := by
  refine Seg.one (by omega) (by omega) (by omega) (by omega) (fun ty e0 e1 => ?_) (by show l.length + 1 + 1 ≤ B; exact lb) (by show l.length + 1 ≤ B; omega)
  have : op = 10 ∨ op = 11 ∨ op = 12 ∨ op = 13 ∨ op = 14 ∨ op = 15 := by omega
  rcases this with e | e | e | e | e | e <;> subst e <;> exact ⟨l, e0, e1⟩
theorem Seg.tru {op : Nat} (o1 : op = 16 ∨ op = 17) (lb : l.length + 2 ≤ B) : Seg w B p (true :: true :: l) [(op, 0)] (true :: l) := by
  refine Seg.one (by omega) (by omega) (by omega) (by omega) (fun ty e0 e1 => ?_) (by show l.length + 1 + 1 ≤ B; exact lb) (by show l.length + 1 ≤ B; omega)
  rcases o1 with e | e <;> subst e <;> exact ⟨l, e0, e1⟩
/-- if .. then .. else .. end -/
def chW (p : Nat) (ws1 ws2 ws3 : List (Nat × Nat)) : List (Nat × Nat) := ws1 ++ ((3, p + ws1.length + 1 + ws2.length + 1) :: (ws2 ++ ((2, p + ws1.length + 1 + ws2.length + 1 + ws3.length) :: ws3)))
theorem chW_l : (chW p ws1 ws2 ws3).length = ws1.length + 1 + ws2.length + 1 + ws3.length := by
  unfold chW
  rw [List.length_append, List.length_cons, List.length_append, List.length_cons]
  omega
/-- where a word of it stands -/
theorem chW_i {i : Nat} {x : Nat × Nat} (e : (chW p ws1 ws2 ws3)[i]? = some x) : (i < ws1.length ∧ ws1[i]? = some x) ∨ (i = ws1.length ∧ x = (3, p + ws1.length + 1 + ws2.length + 1)) ∨ (∃ k, i = ws1.length + 1 + k ∧ k < ws2.length ∧ ws2[k]? = some x) ∨ (i = ws1.length + 1 + ws2.length ∧ x = (2, p + ws1.length + 1 + ws2.length + 1 + ws3.length)) ∨ ∃ k, i = ws1.length + 1 + ws2.length + 1 + k ∧ k < ws3.length ∧ ws3[k]? = some x := by
  rcases ix_app e with ⟨e1, e2⟩ | ⟨e1, e2⟩
  · exact Or.inl ⟨e1, e2⟩
  · obtain ⟨k, ek⟩ : ∃ k, i = ws1.length + k := ⟨i - ws1.length, by omega⟩
    subst ek
    rw [show ws1.length + k - ws1.length = k by omega] at e2
    cases k with
    | zero => cases e2; exact Or.inr (Or.inl ⟨rfl, rfl⟩)
    | succ k =>
      have e2 : (ws2 ++ ((2, p + ws1.length + 1 + ws2.length + 1 + ws3.length) :: ws3))[k]? = some x := e2
      rcases ix_app e2 with ⟨e3, e4⟩ | ⟨e3, e4⟩
      · exact Or.inr (Or.inr (Or.inl ⟨k, by omega, e3, e4⟩))
      · obtain ⟨m, em⟩ : ∃ m, k = ws2.length + m := ⟨k - ws2.length, by omega⟩
        subst em
        rw [show ws2.length + m - ws2.length = m by omega] at e4
        cases m with
        | zero => cases e4; exact Or.inr (Or.inr (Or.inr (Or.inl ⟨by omega, rfl⟩)))
        | succ m =>
          have e4 : ws3[m]? = some x := e4
          exact Or.inr (Or.inr (Or.inr (Or.inr ⟨m, by omega, ix_lt e4, e4⟩)))
theorem Seg.choice (a : Seg w B p l ws1 (true :: l)) (b : Seg w B (p + ws1.length + 1) l ws2 (false :: l)) (c : Seg w B (p + ws1.length + 1 + ws2.length + 1) l ws3 (false :: l)) (lp : p + ws1.length + 1 + ws2.length + 1 + ws3.length ≤ 9999) : Seg w B p l (chW p ws1 ws2 ws3) (false :: l) := by
  obtain ⟨ty1, t1, t2, t3, t4⟩ := a
  obtain ⟨ty2, u1, u2, u3, u4⟩ := b
  obtain ⟨ty3, v1, v2, v3, v4⟩ := c
  obtain ⟨A, eA⟩ : ∃ A, A = p + ws1.length := ⟨_, rfl⟩
  obtain ⟨C, eC⟩ : ∃ C, C = A + 1 + ws2.length := ⟨_, rfl⟩
  have ll := chW_l (p := p) (ws1 := ws1) (ws2 := ws2) (ws3 := ws3)
  obtain ⟨ty, ety⟩ : ∃ ty : Nat → List Bool, ty = fun i => if i ≤ A then ty1 i else if i ≤ C then ty2 i else ty3 i := ⟨_, rfl⟩
  have y1 : ∀ i, i ≤ A → ty i = ty1 i := fun i z => by rw [ety]; exact if_pos z
  have y2 : ∀ i, A < i → i ≤ C → ty i = ty2 i := fun i z1 z2 => by
    rw [ety]
    show (if i ≤ A then ty1 i else if i ≤ C then ty2 i else ty3 i) = _
    rw [if_neg (by omega), if_pos z2]
  have y3 : ∀ i, C < i → ty i = ty3 i := fun i z1 => by
    rw [ety]
    show (if i ≤ A then ty1 i else if i ≤ C then ty2 i else ty3 i) = _
    rw [if_neg (by omega), if_neg (by omega)]
  rw [← eA] at t2 u1 u2 u3 u4 v1 v2 v3 v4
  rw [← eC] at u2 v1 v2 v3 v4
  refine ⟨ty, (y1 _ (by omega)).trans t1, ?_, fun i i1 i2 => ?_, fun i x e => ?_⟩
  · rw [y3 _ (by omega), ll, show p + (ws1.length + 1 + ws2.length + 1 + ws3.length) = C + 1 + ws3.length by omega]; exact v2
  · by_cases c1 : i ≤ A
    · rw [y1 i c1]; exact t3 i i1 (by omega)
    · by_cases c2 : i ≤ C
      · rw [y2 i (by omega) c2]; exact u3 i (by omega) (by omega)
      · rw [y3 i (by omega)]; exact v3 i (by omega) (by omega)
  · rcases chW_i e with ⟨e1, e2⟩ | ⟨e1, e2⟩ | ⟨k, e1, e2, e3⟩ | ⟨e1, e2⟩ | ⟨k, e1, e2, e3⟩
    · obtain ⟨z1, z2, z3, z4, z5⟩ := t4 i x e2
      exact ⟨z1, z2, z3, ty_congr z4 z1 (y1 _ (by omega)) (y1 _ (by omega)) (fun z => y1 _ (by have := z5 z; omega)), fun z => by have := z5 z; omega⟩
    · subst e1 e2
      have w1 : ty (p + ws1.length) = true :: l := by rw [← eA, y1 _ (Nat.le_refl _)]; exact t2
      have w2 : ty (p + ws1.length + 1) = l := by rw [← eA, y2 _ (by omega) (by omega)]; exact u1
      have w3 : ty (p + ws1.length + 1 + ws2.length + 1) = l := by rw [← eA, ← eC, y3 _ (by omega)]; exact v1
      refine ⟨by show 3 < 18; omega, by show p + ws1.length + 1 + ws2.length + 1 ≤ 9999; omega, fun z => absurd (show (3 : Nat) = 1 from z) (by omega), ⟨by omega, ?_, ?_⟩, fun _ => by show p + ws1.length + 1 + ws2.length + 1 ≤ _; omega⟩
      · rw [w1, w2]
      · rw [w3, w2]
    · subst e1
      obtain ⟨z1, z2, z3, z4, z5⟩ := u4 k x e3
      rw [show A + 1 + k = p + (ws1.length + 1 + k) by omega] at z4
      exact ⟨z1, z2, z3, ty_congr z4 z1 (y2 _ (by omega) (by omega)) (y2 _ (by omega) (by omega)) (fun z => y2 _ (by have := ty_lt z4 z; omega) (by have := z5 z; omega)), fun z => by have := z5 z; omega⟩
    · subst e1 e2
      have w1 : ty (p + (ws1.length + 1 + ws2.length)) = false :: l := by rw [show p + (ws1.length + 1 + ws2.length) = C by omega, y2 _ (by omega) (Nat.le_refl _)]; exact u2
      have w2 : ty (p + ws1.length + 1 + ws2.length + 1 + ws3.length) = false :: l := by rw [show p + ws1.length + 1 + ws2.length + 1 + ws3.length = C + 1 + ws3.length by omega, y3 _ (by omega)]; exact v2
      refine ⟨by show 2 < 18; omega, by show p + ws1.length + 1 + ws2.length + 1 + ws3.length ≤ 9999; omega, fun z => absurd (show (2 : Nat) = 1 from z) (by omega), ⟨by omega, ?_⟩, fun _ => by show p + ws1.length + 1 + ws2.length + 1 + ws3.length ≤ _; omega⟩
      rw [w1, w2]
    · subst e1
      obtain ⟨z1, z2, z3, z4, z5⟩ := v4 k x e3
      rw [show C + 1 + k = p + (ws1.length + 1 + ws2.length + 1 + k) by omega] at z4
      exact ⟨z1, z2, z3, ty_congr z4 z1 (y3 _ (by omega)) (y3 _ (by omega)) (fun z => y3 _ (by have := ty_lt z4 z; omega)), fun z => by have := z5 z; omega⟩
end SEG
