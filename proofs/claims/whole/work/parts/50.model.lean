/-! the plain model: turns that are opened and closed -/
section MODEL
theorem itr_snoc {σ : Type} {f : Nat → σ → σ} : ∀ (k i : Nat) (s : σ), itr f i (k + 1) s = f (i + k) (itr f i k s) := by
  intro k
  induction k with
  | zero => intro i s; rfl
  | succ k ih =>
    intro i s
    show itr f (i + 1) (k + 1) (f i s) = f (i + (k + 1)) (itr f (i + 1) k (f i s))
    rw [ih (i + 1) (f i s), show i + 1 + k = i + (k + 1) by omega]
theorem upe' {s : TS} {c i c' i' : Nat} {v : Int32} (h1 : c' = c) (h2 : i' = i) : up s c i v c' i' = v := if_pos ⟨h1, h2⟩
theorem nIn {a b : Nat} (ha : a < 4) (hb : b < 4) (k : nI a = nI b) : a = b := by rwa [nI_inj (by omega) (by omega)] at k
variable {s : TS} {n e T i : Nat} {b l sp z kd : Int32}
/-- a turn is opened -/
def opn (s : TS) (e T : Nat) (b l sp : Int32) : TS := up (up (up (up (up (up (up (up (up (up (up (up s 10 T (nI e)) 11 T b) 12 T l) 13 T (-1)) 14 T 0) 0 3 (nI (T + 1))) 1 e 1) 4 e 0) 18 e (s 18 e + 1)) 21 e (nI T)) 22 e l) 23 e sp
/-- a turn is closed -/
def cls (s : TS) (e i : Nat) (z kd : Int32) : TS := up (up (up (up (up (up s 13 i z) 14 i kd) 1 e 0) 2 e 0) 19 e (s 19 e + (if kd = 2 then 1 else 0))) 20 e (if 0 < s 23 e then z else s 20 e)
theorem opn_lt {c j : Nat} (hc : 10 ≤ c) (hc2 : c ≤ 17) (hj : j < T) : opn s e T b l sp c j = s c j := by
  unfold opn
  simp (disch := omega) only [upn]
theorem opn_03 : opn s e T b l sp 0 3 = nI (T + 1) := by
  unfold opn
  simp (disch := omega) only [upn, upe']
theorem opn_T : opn s e T b l sp 10 T = nI e ∧ opn s e T b l sp 11 T = b ∧ opn s e T b l sp 12 T = l ∧ opn s e T b l sp 13 T = -1 ∧ opn s e T b l sp 14 T = 0 := by
  unfold opn
  simp (disch := omega) only [upn, upe', and_self]
theorem cn_opn {e' : Nat} {k : Int32} (hT : Nn (s 0 3) = T) (hT2 : T < 90) : cn (opn s e T b l sp) e' k = cn s e' k + (if nI e = nI e' ∧ (k = -1 ∨ (0 : Int32) = k) then 1 else 0) := by
  unfold cn
  rw [opn_03, Nn_n (by omega), hT, itr_snoc, Nat.zero_add, opn_T.1, opn_T.2.2.2.2]
  congr 1
  exact itr_congr (n := T) (I := fun _ _ => True) (fun _ _ _ _ => trivial) (fun i a hi _ => by rw [opn_lt (by omega) (by omega) hi, opn_lt (by omega) (by omega) hi]) T 0 0 (by omega) trivial
theorem lend_opn {e' : Nat} (hT : Nn (s 0 3) = T) (hT2 : T < 90) : lend (opn s e T b l sp) e' = lend s e' := by
  unfold lend
  rw [opn_03, Nn_n (by omega), hT, itr_snoc, Nat.zero_add]
  rw [if_neg (fun k => k.2.1 opn_T.2.2.2.1)]
  exact itr_congr (n := T) (I := fun _ _ => True) (fun _ _ _ _ => trivial) (fun i a hi _ => by rw [opn_lt (by omega) (by omega) hi, opn_lt (by omega) (by omega) hi, opn_lt (by omega) (by omega) hi]) T 0 (-1) (by omega) trivial
theorem spk_opn {e' : Nat} {y : Int} (hT : Nn (s 0 3) = T) (hT2 : T < 90) : spk (opn s e T b l sp) e' y ↔ (spk s e' y ∨ (nI e = nI e' ∧ b.toInt ≤ y)) := by
  unfold spk
  rw [opn_03, Nn_n (by omega), hT]
  constructor
  · rintro ⟨i, h1, h2, h3, h4⟩
    by_cases c : i = T
    · subst c
      rw [opn_T.1] at h2
      rw [opn_T.2.1] at h3
      exact Or.inr ⟨h2, h3⟩
    · rw [opn_lt (by omega) (by omega) (by omega)] at h2 h3 h4
      exact Or.inl ⟨i, by omega, h2, h3, h4⟩
  · rintro (⟨i, h1, h2, h3, h4⟩ | ⟨h2, h3⟩)
    · refine ⟨i, by omega, ?_⟩
      rw [opn_lt (by omega) (by omega) h1, opn_lt (by omega) (by omega) h1, opn_lt (by omega) (by omega) h1]
      exact ⟨h2, h3, h4⟩
    · refine ⟨T, by omega, ?_⟩
      rw [opn_T.1, opn_T.2.1, opn_T.2.2.2.1]
      exact ⟨h2, h3, Or.inl rfl⟩
theorem cls_o {c j : Nat} (hc : 10 ≤ c) (hc2 : c ≤ 17) (hj : ¬ (j = i ∧ (c = 13 ∨ c = 14))) : cls s e i z kd c j = s c j := by
  unfold cls
  simp (disch := omega) only [upn]
theorem cls_03 {j : Nat} : cls s e i z kd 0 j = s 0 j := by
  unfold cls
  simp (disch := omega) only [upn]
theorem cls_i : cls s e i z kd 13 i = z ∧ cls s e i z kd 14 i = kd := by
  unfold cls
  simp (disch := omega) only [upn, upe', and_self]
theorem sum_one {f f' : Nat → Int32} {i0 : Nat} {δ : Int32} (hf : ∀ i, ¬ i = i0 → f' i = f i) (h0 : f' i0 = f i0 + δ) : ∀ n, itr (fun i a => a + f' i) 0 n 0 = itr (fun i a => a + f i) 0 n 0 + (if i0 < n then δ else 0) := by
  intro n
  induction n with
  | zero => simp [itr]
  | succ n ih =>
    rw [itr_snoc, itr_snoc, ih, Nat.zero_add]
    by_cases c : n = i0
    · subst c
      rw [if_neg (by omega), if_pos (by omega), h0]
      simp [Int32.add_assoc]
    · rw [hf n c]
      by_cases c2 : i0 < n
      · rw [if_pos c2, if_pos (by omega), Int32.add_assoc, Int32.add_assoc, Int32.add_comm δ]
      · rw [if_neg c2, if_neg (by omega)]
        simp
theorem cn_cls {e' : Nat} {k : Int32} (hi : i < Nn (s 0 3)) (h10 : s 10 i = nI e) (h14 : s 14 i = 0) (hk : k = -1 ∨ k = 2) : cn (cls s e i z kd) e' k = cn s e' k + (if nI e = nI e' ∧ k = 2 ∧ kd = 2 then 1 else 0) := by
  unfold cn
  rw [cls_03]
  have := sum_one (f := fun j => if s 10 j = nI e' ∧ (k = -1 ∨ s 14 j = k) then 1 else 0) (f' := fun j => if cls s e i z kd 10 j = nI e' ∧ (k = -1 ∨ cls s e i z kd 14 j = k) then 1 else 0) (i0 := i) (δ := if nI e = nI e' ∧ k = 2 ∧ kd = 2 then 1 else 0) (fun j hj => ?_) ?_ (Nn (s 0 3))
  · rw [if_pos hi] at this
    exact this
  · rw [cls_o (by omega) (by omega) (by omega), cls_o (by omega) (by omega) (by omega)]
  · rw [cls_o (by omega) (by omega) (by omega), cls_i.2, h10, h14]
    rcases hk with rfl | rfl
    · simp
    · by_cases c1 : nI e = nI e' <;> by_cases c2 : kd = 2 <;> simp [c1, c2]
theorem lend_cls {e' : Nat} (hi : i < Nn (s 0 3)) (h10 : s 10 i = nI e) (h13 : s 13 i = -1) (hz : ¬ z = -1) (hl : ∀ j, i < j → j < Nn (s 0 3) → ¬ s 10 j = nI e) : lend (cls s e i z kd) e' = if nI e = nI e' ∧ s 11 i < z then z else lend s e' := by
  unfold lend
  rw [cls_03]
  have key : ∀ n, n ≤ Nn (s 0 3) → itr (fun j a => if cls s e i z kd 10 j = nI e' ∧ ¬ cls s e i z kd 13 j = -1 ∧ cls s e i z kd 11 j < cls s e i z kd 13 j then cls s e i z kd 13 j else a) 0 n (-1) = if i < n ∧ nI e = nI e' ∧ s 11 i < z then z else itr (fun j a => if s 10 j = nI e' ∧ ¬ s 13 j = -1 ∧ s 11 j < s 13 j then s 13 j else a) 0 n (-1) := by
    intro n
    induction n with
    | zero => intro _; rw [if_neg (by omega)]; rfl
    | succ n ih =>
      intro hn
      rw [itr_snoc, itr_snoc, Nat.zero_add, ih (by omega)]
      by_cases c : n = i
      · subst c
        rw [cls_o (c := 10) (by omega) (by omega) (by omega), cls_o (c := 11) (by omega) (by omega) (by omega), cls_i.1, h10, h13]
        by_cases c1 : nI e = nI e' <;> by_cases c2 : s 11 n < z <;> simp [c1, c2, hz]
      · rw [cls_o (c := 10) (by omega) (by omega) (by omega), cls_o (c := 11) (by omega) (by omega) (by omega), cls_o (c := 13) (by omega) (by omega) (by omega)]
        by_cases c3 : i < n
        · have := hl n c3 (by omega)
          by_cases c1 : nI e = nI e'
          · have h' : ¬ s 10 n = nI e' := by rw [← c1]; exact this
            simp [c1, h', c3, show i < n + 1 by omega]
          · simp [c1]
        · simp [c3, show ¬ i < n + 1 by omega]
  rw [key _ (Nat.le_refl _)]
  simp [hi]
theorem spk_cls {e' : Nat} {y : Int} (hi : i < Nn (s 0 3)) (h13 : s 13 i = -1) (hz : ¬ z = -1) (hy : y < z.toInt) : spk (cls s e i z kd) e' y ↔ spk s e' y := by
  unfold spk
  rw [cls_03]
  constructor
  · rintro ⟨j, h1, h2, h3, h4⟩
    rw [cls_o (by omega) (by omega) (by omega)] at h2 h3
    refine ⟨j, h1, h2, h3, ?_⟩
    by_cases c : j = i
    · subst c; exact Or.inl h13
    · rw [cls_o (by omega) (by omega) (by omega)] at h4; exact h4
  · rintro ⟨j, h1, h2, h3, h4⟩
    refine ⟨j, h1, ?_⟩
    rw [cls_o (c := 10) (by omega) (by omega) (by omega), cls_o (c := 11) (by omega) (by omega) (by omega)]
    refine ⟨h2, h3, ?_⟩
    by_cases c : j = i
    · subst c; rw [cls_i.1]; exact Or.inr hy
    · rw [cls_o (by omega) (by omega) (by omega)]; exact h4
end MODEL
